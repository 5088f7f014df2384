set_option maxHeartbeats 4000000 in
set_option maxRecDepth 100000 in
theorem t_X12_readClause (l : Launch) (dC : Nat → ClassId) (dI : Nat → Nat → Nat) (sz : Nat) (κ : Nat → ClassId) (τ ν : Nat → Nat) (ρ : Nat → Nat → Nat) (L : List Nat) (f : Nat → va_E) (hG : tp_G τ ν ρ L) (hT : tp_T (mo_O κ) κ τ ν ρ f) (h0 : Nat) (ht_h0 : τ h0 = 13) (h1 : ((tp_fld (f h0) 10) ≤ (tp_fld (f h0) 11) ∧ (tp_fld (f h0) 11) ≤ (tp_fld (f h0) 9) ∧ ((tp_fld (f h0) 12) = 0 ∨ (tp_fld (f h0) 10) < (tp_fld (f h0) 11)) ∧ ((tp_fld (f h0) 12) = 1 → (tp_fld (f h0) 11) = (tp_fld (f h0) 10) + 1 → (mo_fj (f h0) 13) ≤ 26))) (hb0 : (tp_fld (f h0) 15) = 0) (h2 : (tp_fld (f h0) 22) ≤ (tp_fld (f h0) 10)) (h3 : (tp_fld (f h0) 20) ≤ (tp_fld (f h0) 19)) (h5 : mo_NC (mo_R (mo_i (f (ρ h0 21)))) (mo_R (mo_i (f (ρ h0 23)))) (mo_R (mo_i (f (ρ h0 24)))) (tp_fld (f h0) 20) (tp_fld (f h0) 22)) : Met l yX12_readClause wqX12_readClause ({ frames := 9, cells := 0, slots := 0, locals := 3200 }) (va_Pc [.ref h0] (pz_B dC dI (tp_K κ) (va_pl L f) sz)) (va_Qv (fun (f1 : Nat → va_E) => tp_T (mo_O κ) κ τ ν ρ f1 ∧ tp_F τ [13, 51, 53, 54, 56, 57] f f1 ∧ ((tp_fld (f1 h0) 10) ≤ (tp_fld (f1 h0) 11) ∧ (tp_fld (f1 h0) 11) ≤ (tp_fld (f1 h0) 9) ∧ ((tp_fld (f1 h0) 12) = 0 ∨ (tp_fld (f1 h0) 10) < (tp_fld (f1 h0) 11)) ∧ ((tp_fld (f1 h0) 12) = 1 → (tp_fld (f1 h0) 11) = (tp_fld (f1 h0) 10) + 1 → (mo_fj (f1 h0) 13) ≤ 26)) ∧ ((tp_fld (f1 h0) 15) = 0 → (tp_fld (f1 h0) 22) ≤ (tp_fld (f1 h0) 10) ∧ (tp_fld (f1 h0) 20) ≤ (tp_fld (f1 h0) 19) ∧ mo_NC (mo_R (mo_i (f1 (ρ h0 21)))) (mo_R (mo_i (f1 (ρ h0 23)))) (mo_R (mo_i (f1 (ρ h0 24)))) (tp_fld (f1 h0) 20) (tp_fld (f1 h0) 22)) ∧ (tp_fld (f1 h0) 9) = (tp_fld (f h0) 9)) (fun (f1 : Nat → va_E) (t : State) => pz_E dC dI (tp_K κ) (va_A (va_pl L f) sz) (va_pl L f1) t) (va_A (va_pl L f) sz)) 0 0 (va_A (va_pl L f) sz) := by
  refine Met.ofW (cc := cX12_readClause) (maxL := 5) (ret := none) (by decide) rfl ?_
  intro p e s m args below meth c s₁ B hml hv
  obtain ⟨rfl, hsz, hP, hK, hD0, hN⟩ := hv
  have hx := B.exec
  have hb := B.bytes
  have hr := B.returns
  have hts := fun (w : Cond) (h : w ∈ WALL) => atoms_spec (ws := wqX12_readClause) B.pre w (List.mem_cons_of_mem _ h)
  have hown : s.vm.findClass RX12 = some m.cls := findClass_of_methodNamed B.named
  have hlocks := B.notSynchronized
  subst hsz
  have hD := hD0.self (sz := s.heap.size)
  generalize hAe : va_A (va_pl L f) s.heap.size = A at hD ⊢
  have hA : ∀ q : Nat, s.heap.size ≤ q → A q := fun q h => by rw [← hAe]; exact Or.inr h
  have hS : va_S A s.heap s.heap [] := va_S.rf
  have hR : tp_F τ [13, 51, 53, 54, 56, 57] f f := tp_F.rf
  have hl := lv_entry ([.ref h0]) (n := 5) (Nat.le_of_ble_eq_true rfl)
  rw [lg_entry_eq]
  generalize (lg_sl ([.ref h0]) ++ List.replicate (5 - (lg_sl ([.ref h0])).length) Slot.unset).toArray = ls at hl ⊢
  have hl : lv_has ls 5 [(0, .ref h0)] := hl
  obtain ⟨y1, y2, y3, y4, y5, y6, y7, y8, y9, y10, y11, y12, y13, y14, y15, y16, y17, y18, y19, y20, y21, y22, y23, y24, y25⟩ := tpg_13 hG ht_h0
  obtain ⟨g27, hf_o26⟩ := tpo_51 hT y7
  have tf28 : mo_i (f (ρ h0 21)) = g27 := tfa_i hf_o26
  obtain ⟨g30, hf_o29⟩ := tpo_53 hT y8
  have tf31 : mo_i (f (ρ h0 23)) = g30 := tfa_i hf_o29
  obtain ⟨g33, hf_o32⟩ := tpo_54 hT y9
  have tf34 : mo_i (f (ρ h0 24)) = g33 := tfa_i hf_o32
  obtain ⟨o35_x0, o35_x1, o35_x7, o35_x9, o35_x10, o35_x11, o35_x12, o35_x13, o35_x14, o35_x15, o35_x16, o35_x17, o35_x18, o35_x19, o35_x20, o35_x22, o35_x25, o35_x28, o35_x29, o35_x32, o35_x33, o35_x34, o35_x35, o35_x36, o35_x37, o35_x38, o35_x47, o35_x48, hf_o35, ro35_0, ro35_1, ro35_2, ro35_3, ro35_4, ro35_5, ro35_6, ro35_7, ro35_8, ro35_9, ro35_10, ro35_11, ro35_12, ro35_13⟩ := tpo_13 hT ht_h0
  have tf36 : tp_fld (f h0) 9 = o35_x9.toInt := tff_9 hf_o35
  have tf37 : tp_fld (f h0) 10 = o35_x10.toInt := tff_10 hf_o35
  have tf38 : tp_fld (f h0) 11 = o35_x11.toInt := tff_11 hf_o35
  have tf39 : tp_fld (f h0) 12 = o35_x12.toInt := tff_12 hf_o35
  have tf40 : tp_fld (f h0) 15 = o35_x15.toInt := tff_15 hf_o35
  have tf41 : tp_fld (f h0) 19 = o35_x19.toInt := tff_19 hf_o35
  have tf42 : tp_fld (f h0) 20 = o35_x20.toInt := tff_20 hf_o35
  have tf43 : tp_fld (f h0) 22 = o35_x22.toInt := tff_22 hf_o35
  have tf44 : mo_fj (f h0) 13 = o35_x13.toInt := tff_13 hf_o35
  have h1 : (o35_x10.toInt ≤ o35_x11.toInt ∧ o35_x11.toInt ≤ o35_x9.toInt ∧ (o35_x12.toInt = 0 ∨ o35_x10.toInt < o35_x11.toInt) ∧ (o35_x12.toInt = 1 → o35_x11.toInt = o35_x10.toInt + 1 → o35_x13.toInt ≤ 26)) := by have q9 := h1; first | (simp only [tf37, tf38, tf36, tf39, tf44, mo_i1, mo_l1] at q9; exact q9) | (rw [tf37, tf38, tf36, tf39, tf44] at q9; exact q9)
  have hb0 : o35_x15.toInt = 0 := by have q9 := hb0; first | (simp only [tf40, mo_i1, mo_l1] at q9; exact q9) | (rw [tf40] at q9; exact q9)
  have h2 : o35_x22.toInt ≤ o35_x10.toInt := by have q9 := h2; first | (simp only [tf43, tf37, mo_i1, mo_l1] at q9; exact q9) | (rw [tf43, tf37] at q9; exact q9)
  have h3 : o35_x20.toInt ≤ o35_x19.toInt := by have q9 := h3; first | (simp only [tf42, tf41, mo_i1, mo_l1] at q9; exact q9) | (rw [tf42, tf41] at q9; exact q9)
  have h5 : mo_NC (mo_R g27) (mo_R g30) (mo_R g33) o35_x20.toInt o35_x22.toInt := by have q9 := h5; first | (simp only [tf28, tf31, tf34, tf42, tf43, mo_i1, mo_l1] at q9; exact q9) | (rw [tf28, tf31, tf34, tf42, tf43] at q9; exact q9)
  refine lv_aload_n hx hb dX12_readClause_0 rfl (lv_at hl 0 rfl) ?_
  refine lv_ldc2 (own := RX12) (v := 781652471) hx hb hown (hts (.constantLong RX12 383 (781652471)) wa_1022) dX12_readClause_1 ?_
  obtain ⟨q45, eq45⟩ := tp_pos (tp_in hG ht_h0 (by decide)) hf_o35
  refine pz_calli (va_runV (As := [.long 781652471]) (rest := []) ⟨hx, hb, hml, hown, hts⟩ (t_X12_isWord l dC dI _ κ τ ν ρ L f hG hT h0 (781652471) ht_h0) (cwV 1 hts gX12_readClause_X12_isWord rfl rfl rfl ⟨rfl, pd_X12_isWord⟩ ⟨Nat.le_of_ble_eq_true rfl, Nat.le_of_ble_eq_true rfl⟩) ⟨pz_blind, va_recv hK hP (ci := 12) (q0 := q45) rfl eq45, pz_pre hP hK hD hN⟩ rfl rfl hl.1 rfl (lv_room (Nat.le_of_ble_eq_true rfl)) dX12_readClause_4 ⟨Nat.le_of_ble_eq_true rfl, Nat.le_of_ble_eq_true rfl⟩) (fun r46 hw47 => ?_)
  obtain ⟨hw47r, hw47p⟩ := hw47
  have tk48 : (r46.toInt ≠ 0 → o35_x12.toInt = 1 ∧ o35_x13.toInt = (781652471 : Int)) := by have q9 := hw47p; first | (simp only [tf39, tf44, mo_i1, mo_l1] at q9; exact q9) | (rw [tf39, tf44] at q9; exact q9)
  refine lv_istore_n (lv' := [(1, .int r46), (0, .ref h0)]) hx hb dX12_readClause_7 rfl hl (by decide) rfl (fun ls hl => ?_)
  refine lv_aload_n hx hb dX12_readClause_8 rfl (lv_at hl 1 rfl) ?_
  refine lv_ldc2 (own := RX12) (v := 52) hx hb hown (hts (.constantLong RX12 385 (52)) wa_1023) dX12_readClause_9 ?_
  refine pz_calli (va_runV (As := [.long 52]) (rest := []) ⟨hx, hb, hml, hown, hts⟩ (t_X12_isWord l dC dI _ κ τ ν ρ L f hG hT h0 (52) ht_h0) (cwV 1 hts gX12_readClause_X12_isWord rfl rfl rfl ⟨rfl, pd_X12_isWord⟩ ⟨Nat.le_of_ble_eq_true rfl, Nat.le_of_ble_eq_true rfl⟩) ⟨pz_blind, va_recv hK hP (ci := 12) (q0 := q45) rfl eq45, pz_pre hP hK hD hN⟩ rfl rfl hl.1 rfl (lv_room (Nat.le_of_ble_eq_true rfl)) dX12_readClause_12 ⟨Nat.le_of_ble_eq_true rfl, Nat.le_of_ble_eq_true rfl⟩) (fun r49 hw50 => ?_)
  obtain ⟨hw50r, hw50p⟩ := hw50
  have tk51 : (r49.toInt ≠ 0 → o35_x12.toInt = 1 ∧ o35_x13.toInt = (52 : Int)) := by have q9 := hw50p; first | (simp only [tf39, tf44, mo_i1, mo_l1] at q9; exact q9) | (rw [tf39, tf44] at q9; exact q9)
  refine lv_istore_n (lv' := [(2, .int r49), (1, .int r46), (0, .ref h0)]) hx hb dX12_readClause_15 rfl hl (by decide) rfl (fun ls hl => ?_)
  refine lv_aload_n hx hb dX12_readClause_16 rfl (lv_at hl 2 rfl) ?_
  refine lv_ldc2 (own := RX12) (v := 16441) hx hb hown (hts (.constantLong RX12 387 (16441)) wa_1024) dX12_readClause_17 ?_
  refine pz_calli (va_runV (As := [.long 16441]) (rest := []) ⟨hx, hb, hml, hown, hts⟩ (t_X12_isWord l dC dI _ κ τ ν ρ L f hG hT h0 (16441) ht_h0) (cwV 1 hts gX12_readClause_X12_isWord rfl rfl rfl ⟨rfl, pd_X12_isWord⟩ ⟨Nat.le_of_ble_eq_true rfl, Nat.le_of_ble_eq_true rfl⟩) ⟨pz_blind, va_recv hK hP (ci := 12) (q0 := q45) rfl eq45, pz_pre hP hK hD hN⟩ rfl rfl hl.1 rfl (lv_room (Nat.le_of_ble_eq_true rfl)) dX12_readClause_20 ⟨Nat.le_of_ble_eq_true rfl, Nat.le_of_ble_eq_true rfl⟩) (fun r52 hw53 => ?_)
  obtain ⟨hw53r, hw53p⟩ := hw53
  have tk54 : (r52.toInt ≠ 0 → o35_x12.toInt = 1 ∧ o35_x13.toInt = (16441 : Int)) := by have q9 := hw53p; first | (simp only [tf39, tf44, mo_i1, mo_l1] at q9; exact q9) | (rw [tf39, tf44] at q9; exact q9)
  refine lv_istore_n (lv' := [(3, .int r52), (2, .int r49), (1, .int r46), (0, .ref h0)]) hx hb dX12_readClause_23 rfl hl (by decide) rfl (fun ls hl => ?_)
  refine lv_aload_n hx hb dX12_readClause_24 rfl (lv_at hl 3 rfl) ?_
  refine lv_iload_n hx hb dX12_readClause_25 rfl (lv_at hl 2 rfl) ?_
  refine lv_if_ne (tgt := 47) hx hb dX12_readClause_26 (by decide) (fun c55 => ?_) (fun c55 => ?_)
  · have ic55 : r46.toInt ≠ 0 := zi_ne rfl rfl c55
    refine lv_aload_n hx hb dX12_readClause_47 rfl (lv_at hl 3 rfl) ?_
    refine va_get (D := (dC, dI)) (ci := 12) (v := .int o35_x19) (C := RX12) (T := TX12) (N := 53) hx hb hts hfX12 hown hK hP q45 eq45 rfl 19 (by decide) (hts (.fieldLink RX12 391 "ColdShipsModel" "nClauses" "I") wa_987) (fun _ h9 => h9) rfl dX12_readClause_48 ?_
    refine lv_bipush (v := 12) hx hb dX12_readClause_51 (by decide) ?_
    refine lv_icmp_ge (tgt := 60) hx hb dX12_readClause_53 (by decide) (fun c56 => ?_) (fun c56 => ?_)
    · have ic56 : o35_x19.toInt ≥ 12 := zi_ge rfl rfl c56
      refine lv_iconst (v := 0) hx hb dX12_readClause_60 (by decide) ?_
      have tf57 : tp_fld (f h0) 28 = o35_x28.toInt := tff_28 hf_o35
      have hFc := tp_fr hD hS hA
      refine va_callv (va_runV (As := [.int 0]) (rest := []) ⟨hx, hb, hml, hown, hts⟩ (t_X12_must l dC dI _ κ τ ν ρ L f hG hT h0 (0) ht_h0 (by first | decide | omega) (by first | (simp only [tf37, tf38, tf36, tf39, tf44, mo_i1, mo_l1]; exact (show (o35_x10.toInt ≤ o35_x11.toInt ∧ o35_x11.toInt ≤ o35_x9.toInt ∧ (o35_x12.toInt = 0 ∨ o35_x10.toInt < o35_x11.toInt) ∧ (o35_x12.toInt = 1 → o35_x11.toInt = o35_x10.toInt + 1 → o35_x13.toInt ≤ 26)) from by have : (0 : Int32).toInt = 0 := rfl; first | omega | decide)) | (rw [tf37, tf38, tf36, tf39, tf44]; exact (show (o35_x10.toInt ≤ o35_x11.toInt ∧ o35_x11.toInt ≤ o35_x9.toInt ∧ (o35_x12.toInt = 0 ∨ o35_x10.toInt < o35_x11.toInt) ∧ (o35_x12.toInt = 1 → o35_x11.toInt = o35_x10.toInt + 1 → o35_x13.toInt ≤ 26)) from by have : (0 : Int32).toInt = 0 := rfl; first | omega | decide)))) (cwV 1 hts gX12_readClause_X12_must rfl rfl rfl ⟨rfl, pd_X12_must⟩ ⟨Nat.le_of_ble_eq_true rfl, Nat.le_of_ble_eq_true rfl⟩) ⟨pz_blind, va_recv hK hP (ci := 12) (q0 := q45) rfl eq45, pz_pre hP hK hD hN⟩ rfl rfl hl.1 rfl (lv_room (Nat.le_of_ble_eq_true rfl)) dX12_readClause_61 ⟨Nat.le_of_ble_eq_true rfl, Nat.le_of_ble_eq_true rfl⟩) hS (fun q _ h => hFc q h) hFc (fun f60 t H1 locs ht hvm hw59 hB hz1 hk1 hS => ?_)
      obtain ⟨hT, hF61, hw59p⟩ := hw59
      have hR := hR.then hF61 (by decide)
      have hP := hB.1; rw [ht] at hP; have hD := tp_ad f60 hD; clear hB hFc hz1 hk1; subst ht; generalize t.heap = H at hP hS ⊢
      obtain ⟨o62_x0, o62_x1, o62_x7, o62_x9, o62_x10, o62_x11, o62_x12, o62_x13, o62_x14, o62_x15, o62_x16, o62_x17, o62_x18, o62_x19, o62_x20, o62_x22, o62_x25, o62_x28, o62_x29, o62_x32, o62_x33, o62_x34, o62_x35, o62_x36, o62_x37, o62_x38, o62_x47, o62_x48, hf_o62, ro62_0, ro62_1, ro62_2, ro62_3, ro62_4, ro62_5, ro62_6, ro62_7, ro62_8, ro62_9, ro62_10, ro62_11, ro62_12, ro62_13⟩ := tpo_13 hT ht_h0
      have tf63 : tp_fld (f60 h0) 10 = o62_x10.toInt := tff_10 hf_o62
      have tf64 : tp_fld (f60 h0) 11 = o62_x11.toInt := tff_11 hf_o62
      have tf65 : tp_fld (f60 h0) 9 = o62_x9.toInt := tff_9 hf_o62
      have tf66 : tp_fld (f60 h0) 12 = o62_x12.toInt := tff_12 hf_o62
      have tf67 : mo_fj (f60 h0) 13 = o62_x13.toInt := tff_13 hf_o62
      have tf68 : tp_fld (f60 h0) 15 = o62_x15.toInt := tff_15 hf_o62
      have tf69 : tp_fld (f60 h0) 19 = o62_x19.toInt := tff_19 hf_o62
      have tf70 : tp_fld (f60 h0) 20 = o62_x20.toInt := tff_20 hf_o62
      have tf71 : tp_fld (f60 h0) 22 = o62_x22.toInt := tff_22 hf_o62
      have tf72 : tp_fld (f60 h0) 28 = o62_x28.toInt := tff_28 hf_o62
      have tk73 : (o62_x10.toInt ≤ o62_x11.toInt ∧ o62_x11.toInt ≤ o62_x9.toInt ∧ (o62_x12.toInt = 0 ∨ o62_x10.toInt < o62_x11.toInt) ∧ (o62_x12.toInt = 1 → o62_x11.toInt = o62_x10.toInt + 1 → o62_x13.toInt ≤ 26)) ∧ (o62_x15.toInt = 0 → o35_x15.toInt = 0 ∧ o35_x11.toInt ≤ o62_x10.toInt ∧ (0 : Int) ≠ 0) ∧ (o62_x15.toInt ≠ 0 → o62_x10.toInt = o35_x10.toInt) ∧ o62_x9.toInt = o35_x9.toInt ∧ o62_x19.toInt = o35_x19.toInt ∧ o62_x20.toInt = o35_x20.toInt ∧ o62_x22.toInt = o35_x22.toInt ∧ o62_x28.toInt = o35_x28.toInt := by have q9 := hw59p; first | (simp only [tf63, tf64, tf65, tf66, tf67, tf68, tf40, tf38, tf37, tf36, tf69, tf41, tf70, tf42, tf71, tf43, tf72, tf57, mo_i1, mo_l1] at q9; exact q9) | (rw [tf63, tf64, tf65, tf66, tf67, tf68, tf40, tf38, tf37, tf36, tf69, tf41, tf70, tf42, tf71, tf43, tf72, tf57] at q9; exact q9)
      refine lv_aload_n hx hb dX12_readClause_64 rfl (lv_at hl 3 rfl) ?_
      obtain ⟨q74, eq74⟩ := tp_pos (tp_in hG ht_h0 (by decide)) hf_o62
      refine va_get (D := (dC, dI)) (ci := 12) (v := .int o62_x15) (C := RX12) (T := TX12) (N := 53) hx hb hts hfX12 hown hK hP q74 eq74 rfl 15 (by decide) (hts (.fieldLink RX12 261 "ColdShipsModel" "bad" "Z") wa_994) (fun _ h9 => h9) rfl dX12_readClause_65 ?_
      refine lv_if_eq (tgt := 72) hx hb dX12_readClause_68 (by decide) (fun c75 => ?_) (fun c75 => ?_)
      · have ic75 : o62_x15.toInt = 0 := zi_eq rfl rfl c75
        exfalso; omega
      · have ic75 : o62_x15.toInt ≠ 0 := zi_eqf rfl rfl c75
        have hf_76 : f60 (ρ h0 21) = .inl (κ 0, 60, .inl g27) := (hF61 _ (by rw [y7]; decide)).trans hf_o26
        have tf77 : mo_i (f60 (ρ h0 21)) = g27 := tfa_i hf_76
        have hf_78 : f60 (ρ h0 23) = .inl (κ 0, 400, .inl g30) := (hF61 _ (by rw [y8]; decide)).trans hf_o29
        have tf79 : mo_i (f60 (ρ h0 23)) = g30 := tfa_i hf_78
        have hf_80 : f60 (ρ h0 24) = .inl (κ 0, 400, .inl g33) := (hF61 _ (by rw [y9]; decide)).trans hf_o32
        have tf81 : mo_i (f60 (ρ h0 24)) = g33 := tfa_i hf_80
        exact W.vret hx hb hr (fun t ht hW => ⟨⟨f60, rfl, ⟨hT, hR, (by first | (simp only [tf63, tf64, tf65, tf66, tf67, tf68, tf71, tf70, tf69, tf77, tf79, tf81, tf36, mo_i1, mo_l1]; exact (show (o62_x10.toInt ≤ o62_x11.toInt ∧ o62_x11.toInt ≤ o62_x9.toInt ∧ (o62_x12.toInt = 0 ∨ o62_x10.toInt < o62_x11.toInt) ∧ (o62_x12.toInt = 1 → o62_x11.toInt = o62_x10.toInt + 1 → o62_x13.toInt ≤ 26)) ∧ (o62_x15.toInt = 0 → o62_x22.toInt ≤ o62_x10.toInt ∧ o62_x20.toInt ≤ o62_x19.toInt ∧ mo_NC (mo_R g27) (mo_R g30) (mo_R g33) o62_x20.toInt o62_x22.toInt) ∧ o62_x9.toInt = o35_x9.toInt from ⟨by omega, fun q9 => by exfalso; omega, by omega⟩)) | (rw [tf63, tf64, tf65, tf66, tf67, tf68, tf71, tf70, tf69, tf77, tf79, tf81, tf36]; exact (show (o62_x10.toInt ≤ o62_x11.toInt ∧ o62_x11.toInt ≤ o62_x9.toInt ∧ (o62_x12.toInt = 0 ∨ o62_x10.toInt < o62_x11.toInt) ∧ (o62_x12.toInt = 1 → o62_x11.toInt = o62_x10.toInt + 1 → o62_x13.toInt ≤ 26)) ∧ (o62_x15.toInt = 0 → o62_x22.toInt ≤ o62_x10.toInt ∧ o62_x20.toInt ≤ o62_x19.toInt ∧ mo_NC (mo_R g27) (mo_R g30) (mo_R g33) o62_x20.toInt o62_x22.toInt) ∧ o62_x9.toInt = o35_x9.toInt from ⟨by omega, fun q9 => by exfalso; omega, by omega⟩)))⟩, by rw [ht]; exact hP, va_K.moved hW.alike hK, hD⟩, hS.F ht⟩) hS.2.2 dX12_readClause_71
    · have ic56 : o35_x19.toInt < 12 := zi_gef rfl rfl c56
      refine lv_iconst (v := 1) hx hb dX12_readClause_56 (by decide) ?_
      refine lv_goto (tgt := 61) hx hb dX12_readClause_57 (by decide) ?_
      have tf82 : tp_fld (f h0) 28 = o35_x28.toInt := tff_28 hf_o35
      have hFc := tp_fr hD hS hA
      refine va_callv (va_runV (As := [.int 1]) (rest := []) ⟨hx, hb, hml, hown, hts⟩ (t_X12_must l dC dI _ κ τ ν ρ L f hG hT h0 (1) ht_h0 (by first | decide | omega) (by first | (simp only [tf37, tf38, tf36, tf39, tf44, mo_i1, mo_l1]; exact (show (o35_x10.toInt ≤ o35_x11.toInt ∧ o35_x11.toInt ≤ o35_x9.toInt ∧ (o35_x12.toInt = 0 ∨ o35_x10.toInt < o35_x11.toInt) ∧ (o35_x12.toInt = 1 → o35_x11.toInt = o35_x10.toInt + 1 → o35_x13.toInt ≤ 26)) from by have : (1 : Int32).toInt = 1 := rfl; first | omega | decide)) | (rw [tf37, tf38, tf36, tf39, tf44]; exact (show (o35_x10.toInt ≤ o35_x11.toInt ∧ o35_x11.toInt ≤ o35_x9.toInt ∧ (o35_x12.toInt = 0 ∨ o35_x10.toInt < o35_x11.toInt) ∧ (o35_x12.toInt = 1 → o35_x11.toInt = o35_x10.toInt + 1 → o35_x13.toInt ≤ 26)) from by have : (1 : Int32).toInt = 1 := rfl; first | omega | decide)))) (cwV 1 hts gX12_readClause_X12_must rfl rfl rfl ⟨rfl, pd_X12_must⟩ ⟨Nat.le_of_ble_eq_true rfl, Nat.le_of_ble_eq_true rfl⟩) ⟨pz_blind, va_recv hK hP (ci := 12) (q0 := q45) rfl eq45, pz_pre hP hK hD hN⟩ rfl rfl hl.1 rfl (lv_room (Nat.le_of_ble_eq_true rfl)) dX12_readClause_61 ⟨Nat.le_of_ble_eq_true rfl, Nat.le_of_ble_eq_true rfl⟩) hS (fun q _ h => hFc q h) hFc (fun f85 t H1 locs ht hvm hw84 hB hz1 hk1 hS => ?_)
      obtain ⟨hT, hF86, hw84p⟩ := hw84
      have hR := hR.then hF86 (by decide)
      have hP := hB.1; rw [ht] at hP; have hD := tp_ad f85 hD; clear hB hFc hz1 hk1; subst ht; generalize t.heap = H at hP hS ⊢
      obtain ⟨o87_x0, o87_x1, o87_x7, o87_x9, o87_x10, o87_x11, o87_x12, o87_x13, o87_x14, o87_x15, o87_x16, o87_x17, o87_x18, o87_x19, o87_x20, o87_x22, o87_x25, o87_x28, o87_x29, o87_x32, o87_x33, o87_x34, o87_x35, o87_x36, o87_x37, o87_x38, o87_x47, o87_x48, hf_o87, ro87_0, ro87_1, ro87_2, ro87_3, ro87_4, ro87_5, ro87_6, ro87_7, ro87_8, ro87_9, ro87_10, ro87_11, ro87_12, ro87_13⟩ := tpo_13 hT ht_h0
      have tf88 : tp_fld (f85 h0) 10 = o87_x10.toInt := tff_10 hf_o87
      have tf89 : tp_fld (f85 h0) 11 = o87_x11.toInt := tff_11 hf_o87
      have tf90 : tp_fld (f85 h0) 9 = o87_x9.toInt := tff_9 hf_o87
      have tf91 : tp_fld (f85 h0) 12 = o87_x12.toInt := tff_12 hf_o87
      have tf92 : mo_fj (f85 h0) 13 = o87_x13.toInt := tff_13 hf_o87
      have tf93 : tp_fld (f85 h0) 15 = o87_x15.toInt := tff_15 hf_o87
      have tf94 : tp_fld (f85 h0) 19 = o87_x19.toInt := tff_19 hf_o87
      have tf95 : tp_fld (f85 h0) 20 = o87_x20.toInt := tff_20 hf_o87
      have tf96 : tp_fld (f85 h0) 22 = o87_x22.toInt := tff_22 hf_o87
      have tf97 : tp_fld (f85 h0) 28 = o87_x28.toInt := tff_28 hf_o87
      have tk98 : (o87_x10.toInt ≤ o87_x11.toInt ∧ o87_x11.toInt ≤ o87_x9.toInt ∧ (o87_x12.toInt = 0 ∨ o87_x10.toInt < o87_x11.toInt) ∧ (o87_x12.toInt = 1 → o87_x11.toInt = o87_x10.toInt + 1 → o87_x13.toInt ≤ 26)) ∧ (o87_x15.toInt = 0 → o35_x15.toInt = 0 ∧ o35_x11.toInt ≤ o87_x10.toInt ∧ (1 : Int) ≠ 0) ∧ (o87_x15.toInt ≠ 0 → o87_x10.toInt = o35_x10.toInt) ∧ o87_x9.toInt = o35_x9.toInt ∧ o87_x19.toInt = o35_x19.toInt ∧ o87_x20.toInt = o35_x20.toInt ∧ o87_x22.toInt = o35_x22.toInt ∧ o87_x28.toInt = o35_x28.toInt := by have q9 := hw84p; first | (simp only [tf88, tf89, tf90, tf91, tf92, tf93, tf40, tf38, tf37, tf36, tf94, tf41, tf95, tf42, tf96, tf43, tf97, tf82, mo_i1, mo_l1] at q9; exact q9) | (rw [tf88, tf89, tf90, tf91, tf92, tf93, tf40, tf38, tf37, tf36, tf94, tf41, tf95, tf42, tf96, tf43, tf97, tf82] at q9; exact q9)
      refine lv_aload_n hx hb dX12_readClause_64 rfl (lv_at hl 3 rfl) ?_
      obtain ⟨q99, eq99⟩ := tp_pos (tp_in hG ht_h0 (by decide)) hf_o87
      refine va_get (D := (dC, dI)) (ci := 12) (v := .int o87_x15) (C := RX12) (T := TX12) (N := 53) hx hb hts hfX12 hown hK hP q99 eq99 rfl 15 (by decide) (hts (.fieldLink RX12 261 "ColdShipsModel" "bad" "Z") wa_994) (fun _ h9 => h9) rfl dX12_readClause_65 ?_
      refine lv_if_eq (tgt := 72) hx hb dX12_readClause_68 (by decide) (fun c100 => ?_) (fun c100 => ?_)
      · have ic100 : o87_x15.toInt = 0 := zi_eq rfl rfl c100
        refine lv_aload_n hx hb dX12_readClause_72 rfl (lv_at hl 3 rfl) ?_
        refine lv_dup hx hb dX12_readClause_73 rfl ?_
        refine va_get (D := (dC, dI)) (ci := 12) (v := .int o87_x19) (C := RX12) (T := TX12) (N := 53) hx hb hts hfX12 hown hK hP q99 eq99 rfl 19 (by decide) (hts (.fieldLink RX12 391 "ColdShipsModel" "nClauses" "I") wa_987) (fun _ h9 => h9) rfl dX12_readClause_74 ?_
        refine lv_iconst (v := 1) hx hb dX12_readClause_77 (by decide) ?_
        refine lv_iadd hx hb dX12_readClause_78 ?_
        refine lv_topi (fun z101 ez101 => ?_)
        have iz101 : z101.toInt = o87_x19.toInt + 1 := zi_add ez101 rfl rfl (by omega) (by omega)
        refine va_put (D := (dC, dI)) (ci := 12) (v := .int z101) (ty := .int) (C := RX12) (T := TX12) (N := 53) hx hb hts hfX12 tyX12 tyX12_ok nmX12 hown hK hP hD hS q99 eq99 rfl 19 (by decide) (hts (.fieldLink RX12 391 "ColdShipsModel" "nClauses" "I") wa_987) (fun _ h9 => h9) rfl (tyX12_ok 19 (by decide)) rfl rfl (Nat.le_of_ble_eq_true rfl) dX12_readClause_79 (tp_k (.inr (12, [.int o87_x0, .int o87_x1, .ref (ρ h0 2), .ref (ρ h0 3), .ref (ρ h0 4), .ref (ρ h0 5), .ref (ρ h0 6), .int o87_x7, .ref (ρ h0 8), .int o87_x9, .int o87_x10, .int o87_x11, .int o87_x12, .long o87_x13, .int o87_x14, .int o87_x15, .int o87_x16, .int o87_x17, .int o87_x18, .int z101, .int o87_x20, .ref (ρ h0 21), .int o87_x22, .ref (ρ h0 23), .ref (ρ h0 24), .int o87_x25, .ref (ρ h0 26), .ref (ρ h0 27), .int o87_x28, .int o87_x29, .ref (ρ h0 30), .ref (ρ h0 31), .int o87_x32, .long o87_x33, .long o87_x34, .long o87_x35, .int o87_x36, .int o87_x37, .int o87_x38, .ref (ρ h0 39), .ref (ρ h0 40), .ref (ρ h0 41), .ref (ρ h0 42), .ref (ρ h0 43), .ref (ρ h0 44), .ref (ρ h0 45), .ref (ρ h0 46), .int o87_x47, .int o87_x48, .ref (ρ h0 49), .ref (ρ h0 50), .ref (ρ h0 51), .ref (ρ h0 52)])) hD (tp_in hG ht_h0 (by decide)) eq99 (fun f102 H locs hP hD hS g104 k103 => ?_))
        have hT := hT.up ht_h0 g104 k103 ⟨_, _, _, _, _, _, _, _, _, _, _, _, _, _, _, _, _, _, _, _, _, _, _, _, _, _, _, _, rfl, ro87_0, ro87_1, ro87_2, ro87_3, ro87_4, ro87_5, (by omega), ro87_7, ro87_8, ro87_9, ro87_10, ro87_11, ro87_12, ro87_13⟩
        have hR := hR.up ht_h0 (by decide) k103
        refine lv_iload_n hx hb dX12_readClause_82 rfl (lv_at hl 2 rfl) ?_
        refine lv_if_eq (tgt := 126) hx hb dX12_readClause_83 (by decide) (fun c105 => ?_) (fun c105 => ?_)
        · have ic105 : r46.toInt = 0 := zi_eq rfl rfl c105
          exfalso; omega
        · have ic105 : r46.toInt ≠ 0 := zi_eqf rfl rfl c105
          refine lv_aload_n hx hb dX12_readClause_86 rfl (lv_at hl 3 rfl) ?_
          refine lv_aload_n hx hb dX12_readClause_87 rfl (lv_at hl 3 rfl) ?_
          refine lv_lconst (v := 0) hx hb dX12_readClause_88 (by decide) ?_
          refine lv_ldc2 (own := RX12) (v := 2399) hx hb hown (hts (.constantLong RX12 97 (2399)) wa_354) dX12_readClause_89 ?_
          have tf106 : tp_fld (f102 h0) 15 = o87_x15.toInt := tff_15 g104
          have tf107 : tp_fld (f102 h0) 11 = o87_x11.toInt := tff_11 g104
          have tf108 : tp_fld (f102 h0) 10 = o87_x10.toInt := tff_10 g104
          have tf109 : tp_fld (f102 h0) 9 = o87_x9.toInt := tff_9 g104
          have tf110 : tp_fld (f102 h0) 19 = z101.toInt := tff_19 g104
          have tf111 : tp_fld (f102 h0) 20 = o87_x20.toInt := tff_20 g104
          have tf112 : tp_fld (f102 h0) 22 = o87_x22.toInt := tff_22 g104
          have tf113 : tp_fld (f102 h0) 28 = o87_x28.toInt := tff_28 g104
          have tf114 : tp_fld (f102 h0) 12 = o87_x12.toInt := tff_12 g104
          have tf115 : mo_fj (f102 h0) 13 = o87_x13.toInt := tff_13 g104
          obtain ⟨q116, eq116⟩ := tp_pos (tp_in hG ht_h0 (by decide)) g104
          have hFc := tp_fr hD hS hA
          refine va_calli (va_runV (As := [.long 0, .long 2399]) (rest := [.ref h0]) ⟨hx, hb, hml, hown, hts⟩ (t_X12_number l dC dI _ κ τ ν ρ L f102 hG hT h0 (0) (2399) ht_h0 (by first | (simp only [tf108, tf107, tf109, tf114, tf115, mo_i1, mo_l1]; exact (show (o87_x10.toInt ≤ o87_x11.toInt ∧ o87_x11.toInt ≤ o87_x9.toInt ∧ (o87_x12.toInt = 0 ∨ o87_x10.toInt < o87_x11.toInt) ∧ (o87_x12.toInt = 1 → o87_x11.toInt = o87_x10.toInt + 1 → o87_x13.toInt ≤ 26)) from by first | omega | decide)) | (rw [tf108, tf107, tf109, tf114, tf115]; exact (show (o87_x10.toInt ≤ o87_x11.toInt ∧ o87_x11.toInt ≤ o87_x9.toInt ∧ (o87_x12.toInt = 0 ∨ o87_x10.toInt < o87_x11.toInt) ∧ (o87_x12.toInt = 1 → o87_x11.toInt = o87_x10.toInt + 1 → o87_x13.toInt ≤ 26)) from by first | omega | decide)))) (cwV 2 hts gX12_readClause_X12_number rfl rfl rfl ⟨rfl, pd_X12_number⟩ ⟨Nat.le_of_ble_eq_true rfl, Nat.le_of_ble_eq_true rfl⟩) ⟨pz_blind, va_recv hK hP (ci := 12) (q0 := q116) rfl eq116, pz_pre hP hK hD hN⟩ rfl rfl hl.1 rfl (lv_room (Nat.le_of_ble_eq_true rfl)) dX12_readClause_92 ⟨Nat.le_of_ble_eq_true rfl, Nat.le_of_ble_eq_true rfl⟩) hS (fun q _ h => hFc q h) hFc (fun r117 f119 t H1 locs ht hvm hw118 hB hz1 hk1 hS => ?_)
          obtain ⟨hT, hF120, hw118r, hw118p⟩ := hw118
          have hR := hR.then hF120 (by decide)
          have hP := hB.1; rw [ht] at hP; have hD := tp_ad f119 hD; clear hB hFc hz1 hk1; subst ht; generalize t.heap = H at hP hS ⊢
          obtain ⟨o121_x0, o121_x1, o121_x7, o121_x9, o121_x10, o121_x11, o121_x12, o121_x13, o121_x14, o121_x15, o121_x16, o121_x17, o121_x18, o121_x19, o121_x20, o121_x22, o121_x25, o121_x28, o121_x29, o121_x32, o121_x33, o121_x34, o121_x35, o121_x36, o121_x37, o121_x38, o121_x47, o121_x48, hf_o121, ro121_0, ro121_1, ro121_2, ro121_3, ro121_4, ro121_5, ro121_6, ro121_7, ro121_8, ro121_9, ro121_10, ro121_11, ro121_12, ro121_13⟩ := tpo_13 hT ht_h0
          have tf122 : tp_fld (f119 h0) 10 = o121_x10.toInt := tff_10 hf_o121
          have tf123 : tp_fld (f119 h0) 11 = o121_x11.toInt := tff_11 hf_o121
          have tf124 : tp_fld (f119 h0) 9 = o121_x9.toInt := tff_9 hf_o121
          have tf125 : tp_fld (f119 h0) 12 = o121_x12.toInt := tff_12 hf_o121
          have tf126 : mo_fj (f119 h0) 13 = o121_x13.toInt := tff_13 hf_o121
          have tf127 : tp_fld (f119 h0) 15 = o121_x15.toInt := tff_15 hf_o121
          have tf128 : tp_fld (f119 h0) 19 = o121_x19.toInt := tff_19 hf_o121
          have tf129 : tp_fld (f119 h0) 20 = o121_x20.toInt := tff_20 hf_o121
          have tf130 : tp_fld (f119 h0) 22 = o121_x22.toInt := tff_22 hf_o121
          have tf131 : tp_fld (f119 h0) 28 = o121_x28.toInt := tff_28 hf_o121
          have tk132 : (o121_x10.toInt ≤ o121_x11.toInt ∧ o121_x11.toInt ≤ o121_x9.toInt ∧ (o121_x12.toInt = 0 ∨ o121_x10.toInt < o121_x11.toInt) ∧ (o121_x12.toInt = 1 → o121_x11.toInt = o121_x10.toInt + 1 → o121_x13.toInt ≤ 26)) ∧ (o121_x15.toInt = 0 → o87_x15.toInt = 0 ∧ o87_x11.toInt ≤ o121_x10.toInt) ∧ (o121_x15.toInt ≠ 0 → o121_x10.toInt = o87_x10.toInt) ∧ o121_x9.toInt = o87_x9.toInt ∧ o121_x19.toInt = z101.toInt ∧ o121_x20.toInt = o87_x20.toInt ∧ o121_x22.toInt = o87_x22.toInt ∧ o121_x28.toInt = o87_x28.toInt := by have q9 := hw118p; first | (simp only [tf122, tf123, tf124, tf125, tf126, tf127, tf106, tf107, tf108, tf109, tf128, tf110, tf129, tf111, tf130, tf112, tf131, tf113, mo_i1, mo_l1] at q9; exact q9) | (rw [tf122, tf123, tf124, tf125, tf126, tf127, tf106, tf107, tf108, tf109, tf128, tf110, tf129, tf111, tf130, tf112, tf131, tf113] at q9; exact q9)
          obtain ⟨q133, eq133⟩ := tp_pos (tp_in hG ht_h0 (by decide)) hf_o121
          refine va_put (D := (dC, dI)) (ci := 12) (v := .int r117) (ty := .int) (C := RX12) (T := TX12) (N := 53) hx hb hts hfX12 tyX12 tyX12_ok nmX12 hown hK hP hD hS q133 eq133 rfl 16 (by decide) (hts (.fieldLink RX12 398 "ColdShipsModel" "nFrom" "I") wa_991) (fun _ h9 => h9) rfl (tyX12_ok 16 (by decide)) rfl rfl (Nat.le_of_ble_eq_true rfl) dX12_readClause_95 (tp_k (.inr (12, [.int o121_x0, .int o121_x1, .ref (ρ h0 2), .ref (ρ h0 3), .ref (ρ h0 4), .ref (ρ h0 5), .ref (ρ h0 6), .int o121_x7, .ref (ρ h0 8), .int o121_x9, .int o121_x10, .int o121_x11, .int o121_x12, .long o121_x13, .int o121_x14, .int o121_x15, .int r117, .int o121_x17, .int o121_x18, .int o121_x19, .int o121_x20, .ref (ρ h0 21), .int o121_x22, .ref (ρ h0 23), .ref (ρ h0 24), .int o121_x25, .ref (ρ h0 26), .ref (ρ h0 27), .int o121_x28, .int o121_x29, .ref (ρ h0 30), .ref (ρ h0 31), .int o121_x32, .long o121_x33, .long o121_x34, .long o121_x35, .int o121_x36, .int o121_x37, .int o121_x38, .ref (ρ h0 39), .ref (ρ h0 40), .ref (ρ h0 41), .ref (ρ h0 42), .ref (ρ h0 43), .ref (ρ h0 44), .ref (ρ h0 45), .ref (ρ h0 46), .int o121_x47, .int o121_x48, .ref (ρ h0 49), .ref (ρ h0 50), .ref (ρ h0 51), .ref (ρ h0 52)])) hD (tp_in hG ht_h0 (by decide)) eq133 (fun f134 H locs hP hD hS g136 k135 => ?_))
          have hT := hT.up ht_h0 g136 k135 ⟨_, _, _, _, _, _, _, _, _, _, _, _, _, _, _, _, _, _, _, _, _, _, _, _, _, _, _, _, rfl, ro121_0, ro121_1, ro121_2, ro121_3, ro121_4, ro121_5, ro121_6, ro121_7, ro121_8, ro121_9, ro121_10, ro121_11, ro121_12, ro121_13⟩
          have hR := hR.up ht_h0 (by decide) k135
          refine lv_aload_n hx hb dX12_readClause_98 rfl (lv_at hl 3 rfl) ?_
          refine lv_aload_n hx hb dX12_readClause_99 rfl (lv_at hl 3 rfl) ?_
          refine lv_ldc2 (own := RX12) (v := 655) hx hb hown (hts (.constantLong RX12 401 (655)) wa_1026) dX12_readClause_100 ?_
          have tf137 : tp_fld (f134 h0) 12 = o121_x12.toInt := tff_12 g136
          have tf138 : mo_fj (f134 h0) 13 = o121_x13.toInt := tff_13 g136
          obtain ⟨q139, eq139⟩ := tp_pos (tp_in hG ht_h0 (by decide)) g136
          refine pz_calli (va_runV (As := [.long 655]) (rest := [.ref h0]) ⟨hx, hb, hml, hown, hts⟩ (t_X12_isWord l dC dI _ κ τ ν ρ L f134 hG hT h0 (655) ht_h0) (cwV 1 hts gX12_readClause_X12_isWord rfl rfl rfl ⟨rfl, pd_X12_isWord⟩ ⟨Nat.le_of_ble_eq_true rfl, Nat.le_of_ble_eq_true rfl⟩) ⟨pz_blind, va_recv hK hP (ci := 12) (q0 := q139) rfl eq139, pz_pre hP hK hD hN⟩ rfl rfl hl.1 rfl (lv_room (Nat.le_of_ble_eq_true rfl)) dX12_readClause_103 ⟨Nat.le_of_ble_eq_true rfl, Nat.le_of_ble_eq_true rfl⟩) (fun r140 hw141 => ?_)
          obtain ⟨hw141r, hw141p⟩ := hw141
          have tk142 : (r140.toInt ≠ 0 → o121_x12.toInt = 1 ∧ o121_x13.toInt = (655 : Int)) := by have q9 := hw141p; first | (simp only [tf137, tf138, mo_i1, mo_l1] at q9; exact q9) | (rw [tf137, tf138] at q9; exact q9)
          have tf143 : tp_fld (f134 h0) 15 = o121_x15.toInt := tff_15 g136
          have tf144 : tp_fld (f134 h0) 11 = o121_x11.toInt := tff_11 g136
          have tf145 : tp_fld (f134 h0) 10 = o121_x10.toInt := tff_10 g136
          have tf146 : tp_fld (f134 h0) 9 = o121_x9.toInt := tff_9 g136
          have tf147 : tp_fld (f134 h0) 19 = o121_x19.toInt := tff_19 g136
          have tf148 : tp_fld (f134 h0) 20 = o121_x20.toInt := tff_20 g136
          have tf149 : tp_fld (f134 h0) 22 = o121_x22.toInt := tff_22 g136
          have tf150 : tp_fld (f134 h0) 28 = o121_x28.toInt := tff_28 g136
          have hFc := tp_fr hD hS hA
          refine va_callv (va_runV (As := [.int r140]) (rest := []) ⟨hx, hb, hml, hown, hts⟩ (t_X12_must l dC dI _ κ τ ν ρ L f134 hG hT h0 r140 ht_h0 (by first | decide | omega) (by first | (simp only [tf145, tf144, tf146, tf137, tf138, mo_i1, mo_l1]; exact (show (o121_x10.toInt ≤ o121_x11.toInt ∧ o121_x11.toInt ≤ o121_x9.toInt ∧ (o121_x12.toInt = 0 ∨ o121_x10.toInt < o121_x11.toInt) ∧ (o121_x12.toInt = 1 → o121_x11.toInt = o121_x10.toInt + 1 → o121_x13.toInt ≤ 26)) from by first | omega | decide)) | (rw [tf145, tf144, tf146, tf137, tf138]; exact (show (o121_x10.toInt ≤ o121_x11.toInt ∧ o121_x11.toInt ≤ o121_x9.toInt ∧ (o121_x12.toInt = 0 ∨ o121_x10.toInt < o121_x11.toInt) ∧ (o121_x12.toInt = 1 → o121_x11.toInt = o121_x10.toInt + 1 → o121_x13.toInt ≤ 26)) from by first | omega | decide)))) (cwV 1 hts gX12_readClause_X12_must rfl rfl rfl ⟨rfl, pd_X12_must⟩ ⟨Nat.le_of_ble_eq_true rfl, Nat.le_of_ble_eq_true rfl⟩) ⟨pz_blind, va_recv hK hP (ci := 12) (q0 := q139) rfl eq139, pz_pre hP hK hD hN⟩ rfl rfl hl.1 rfl (lv_room (Nat.le_of_ble_eq_true rfl)) dX12_readClause_106 ⟨Nat.le_of_ble_eq_true rfl, Nat.le_of_ble_eq_true rfl⟩) hS (fun q _ h => hFc q h) hFc (fun f153 t H1 locs ht hvm hw152 hB hz1 hk1 hS => ?_)
          obtain ⟨hT, hF154, hw152p⟩ := hw152
          have hR := hR.then hF154 (by decide)
          have hP := hB.1; rw [ht] at hP; have hD := tp_ad f153 hD; clear hB hFc hz1 hk1; subst ht; generalize t.heap = H at hP hS ⊢
          obtain ⟨o155_x0, o155_x1, o155_x7, o155_x9, o155_x10, o155_x11, o155_x12, o155_x13, o155_x14, o155_x15, o155_x16, o155_x17, o155_x18, o155_x19, o155_x20, o155_x22, o155_x25, o155_x28, o155_x29, o155_x32, o155_x33, o155_x34, o155_x35, o155_x36, o155_x37, o155_x38, o155_x47, o155_x48, hf_o155, ro155_0, ro155_1, ro155_2, ro155_3, ro155_4, ro155_5, ro155_6, ro155_7, ro155_8, ro155_9, ro155_10, ro155_11, ro155_12, ro155_13⟩ := tpo_13 hT ht_h0
          have tf156 : tp_fld (f153 h0) 10 = o155_x10.toInt := tff_10 hf_o155
          have tf157 : tp_fld (f153 h0) 11 = o155_x11.toInt := tff_11 hf_o155
          have tf158 : tp_fld (f153 h0) 9 = o155_x9.toInt := tff_9 hf_o155
          have tf159 : tp_fld (f153 h0) 12 = o155_x12.toInt := tff_12 hf_o155
          have tf160 : mo_fj (f153 h0) 13 = o155_x13.toInt := tff_13 hf_o155
          have tf161 : tp_fld (f153 h0) 15 = o155_x15.toInt := tff_15 hf_o155
          have tf162 : tp_fld (f153 h0) 19 = o155_x19.toInt := tff_19 hf_o155
          have tf163 : tp_fld (f153 h0) 20 = o155_x20.toInt := tff_20 hf_o155
          have tf164 : tp_fld (f153 h0) 22 = o155_x22.toInt := tff_22 hf_o155
          have tf165 : tp_fld (f153 h0) 28 = o155_x28.toInt := tff_28 hf_o155
          have tk166 : (o155_x10.toInt ≤ o155_x11.toInt ∧ o155_x11.toInt ≤ o155_x9.toInt ∧ (o155_x12.toInt = 0 ∨ o155_x10.toInt < o155_x11.toInt) ∧ (o155_x12.toInt = 1 → o155_x11.toInt = o155_x10.toInt + 1 → o155_x13.toInt ≤ 26)) ∧ (o155_x15.toInt = 0 → o121_x15.toInt = 0 ∧ o121_x11.toInt ≤ o155_x10.toInt ∧ r140.toInt ≠ 0) ∧ (o155_x15.toInt ≠ 0 → o155_x10.toInt = o121_x10.toInt) ∧ o155_x9.toInt = o121_x9.toInt ∧ o155_x19.toInt = o121_x19.toInt ∧ o155_x20.toInt = o121_x20.toInt ∧ o155_x22.toInt = o121_x22.toInt ∧ o155_x28.toInt = o121_x28.toInt := by have q9 := hw152p; first | (simp only [tf156, tf157, tf158, tf159, tf160, tf161, tf143, tf144, tf145, tf146, tf162, tf147, tf163, tf148, tf164, tf149, tf165, tf150, mo_i1, mo_l1] at q9; exact q9) | (rw [tf156, tf157, tf158, tf159, tf160, tf161, tf143, tf144, tf145, tf146, tf162, tf147, tf163, tf148, tf164, tf149, tf165, tf150] at q9; exact q9)
          refine lv_aload_n hx hb dX12_readClause_109 rfl (lv_at hl 3 rfl) ?_
          refine lv_aload_n hx hb dX12_readClause_110 rfl (lv_at hl 3 rfl) ?_
          refine lv_aload_n hx hb dX12_readClause_111 rfl (lv_at hl 3 rfl) ?_
          obtain ⟨q167, eq167⟩ := tp_pos (tp_in hG ht_h0 (by decide)) hf_o155
          refine va_get (D := (dC, dI)) (ci := 12) (v := .int o155_x16) (C := RX12) (T := TX12) (N := 53) hx hb hts hfX12 hown hK hP q167 eq167 rfl 16 (by decide) (hts (.fieldLink RX12 398 "ColdShipsModel" "nFrom" "I") wa_991) (fun _ h9 => h9) rfl dX12_readClause_112 ?_
          refine lv_i2l hx hb dX12_readClause_115 rfl ?_
          refine lv_ldc2 (own := RX12) (v := 2399) hx hb hown (hts (.constantLong RX12 97 (2399)) wa_354) dX12_readClause_116 ?_
          have hFc := tp_fr hD hS hA
          refine va_calli (va_runV (As := [.long o155_x16.toInt64, .long 2399]) (rest := [.ref h0]) ⟨hx, hb, hml, hown, hts⟩ (t_X12_number l dC dI _ κ τ ν ρ L f153 hG hT h0 o155_x16.toInt64 (2399) ht_h0 (by first | (simp only [tf156, tf157, tf158, tf159, tf160, mo_i1, mo_l1]; exact (show (o155_x10.toInt ≤ o155_x11.toInt ∧ o155_x11.toInt ≤ o155_x9.toInt ∧ (o155_x12.toInt = 0 ∨ o155_x10.toInt < o155_x11.toInt) ∧ (o155_x12.toInt = 1 → o155_x11.toInt = o155_x10.toInt + 1 → o155_x13.toInt ≤ 26)) from by first | omega | decide)) | (rw [tf156, tf157, tf158, tf159, tf160]; exact (show (o155_x10.toInt ≤ o155_x11.toInt ∧ o155_x11.toInt ≤ o155_x9.toInt ∧ (o155_x12.toInt = 0 ∨ o155_x10.toInt < o155_x11.toInt) ∧ (o155_x12.toInt = 1 → o155_x11.toInt = o155_x10.toInt + 1 → o155_x13.toInt ≤ 26)) from by first | omega | decide)))) (cwV 2 hts gX12_readClause_X12_number rfl rfl rfl ⟨rfl, pd_X12_number⟩ ⟨Nat.le_of_ble_eq_true rfl, Nat.le_of_ble_eq_true rfl⟩) ⟨pz_blind, va_recv hK hP (ci := 12) (q0 := q167) rfl eq167, pz_pre hP hK hD hN⟩ rfl rfl hl.1 rfl (lv_room (Nat.le_of_ble_eq_true rfl)) dX12_readClause_119 ⟨Nat.le_of_ble_eq_true rfl, Nat.le_of_ble_eq_true rfl⟩) hS (fun q _ h => hFc q h) hFc (fun r168 f170 t H1 locs ht hvm hw169 hB hz1 hk1 hS => ?_)
          obtain ⟨hT, hF171, hw169r, hw169p⟩ := hw169
          have hR := hR.then hF171 (by decide)
          have hP := hB.1; rw [ht] at hP; have hD := tp_ad f170 hD; clear hB hFc hz1 hk1; subst ht; generalize t.heap = H at hP hS ⊢
          obtain ⟨o172_x0, o172_x1, o172_x7, o172_x9, o172_x10, o172_x11, o172_x12, o172_x13, o172_x14, o172_x15, o172_x16, o172_x17, o172_x18, o172_x19, o172_x20, o172_x22, o172_x25, o172_x28, o172_x29, o172_x32, o172_x33, o172_x34, o172_x35, o172_x36, o172_x37, o172_x38, o172_x47, o172_x48, hf_o172, ro172_0, ro172_1, ro172_2, ro172_3, ro172_4, ro172_5, ro172_6, ro172_7, ro172_8, ro172_9, ro172_10, ro172_11, ro172_12, ro172_13⟩ := tpo_13 hT ht_h0
          have tf173 : tp_fld (f170 h0) 10 = o172_x10.toInt := tff_10 hf_o172
          have tf174 : tp_fld (f170 h0) 11 = o172_x11.toInt := tff_11 hf_o172
          have tf175 : tp_fld (f170 h0) 9 = o172_x9.toInt := tff_9 hf_o172
          have tf176 : tp_fld (f170 h0) 12 = o172_x12.toInt := tff_12 hf_o172
          have tf177 : mo_fj (f170 h0) 13 = o172_x13.toInt := tff_13 hf_o172
          have tf178 : tp_fld (f170 h0) 15 = o172_x15.toInt := tff_15 hf_o172
          have tf179 : tp_fld (f170 h0) 19 = o172_x19.toInt := tff_19 hf_o172
          have tf180 : tp_fld (f170 h0) 20 = o172_x20.toInt := tff_20 hf_o172
          have tf181 : tp_fld (f170 h0) 22 = o172_x22.toInt := tff_22 hf_o172
          have tf182 : tp_fld (f170 h0) 28 = o172_x28.toInt := tff_28 hf_o172
          have tk183 : (o172_x10.toInt ≤ o172_x11.toInt ∧ o172_x11.toInt ≤ o172_x9.toInt ∧ (o172_x12.toInt = 0 ∨ o172_x10.toInt < o172_x11.toInt) ∧ (o172_x12.toInt = 1 → o172_x11.toInt = o172_x10.toInt + 1 → o172_x13.toInt ≤ 26)) ∧ (o172_x15.toInt = 0 → o155_x15.toInt = 0 ∧ o155_x11.toInt ≤ o172_x10.toInt) ∧ (o172_x15.toInt ≠ 0 → o172_x10.toInt = o155_x10.toInt) ∧ o172_x9.toInt = o155_x9.toInt ∧ o172_x19.toInt = o155_x19.toInt ∧ o172_x20.toInt = o155_x20.toInt ∧ o172_x22.toInt = o155_x22.toInt ∧ o172_x28.toInt = o155_x28.toInt := by have q9 := hw169p; first | (simp only [tf173, tf174, tf175, tf176, tf177, tf178, tf161, tf157, tf156, tf158, tf179, tf162, tf180, tf163, tf181, tf164, tf182, tf165, mo_i1, mo_l1] at q9; exact q9) | (rw [tf173, tf174, tf175, tf176, tf177, tf178, tf161, tf157, tf156, tf158, tf179, tf162, tf180, tf163, tf181, tf164, tf182, tf165] at q9; exact q9)
          obtain ⟨q184, eq184⟩ := tp_pos (tp_in hG ht_h0 (by decide)) hf_o172
          refine va_put (D := (dC, dI)) (ci := 12) (v := .int r168) (ty := .int) (C := RX12) (T := TX12) (N := 53) hx hb hts hfX12 tyX12 tyX12_ok nmX12 hown hK hP hD hS q184 eq184 rfl 17 (by decide) (hts (.fieldLink RX12 403 "ColdShipsModel" "nTo" "I") wa_992) (fun _ h9 => h9) rfl (tyX12_ok 17 (by decide)) rfl rfl (Nat.le_of_ble_eq_true rfl) dX12_readClause_122 (tp_k (.inr (12, [.int o172_x0, .int o172_x1, .ref (ρ h0 2), .ref (ρ h0 3), .ref (ρ h0 4), .ref (ρ h0 5), .ref (ρ h0 6), .int o172_x7, .ref (ρ h0 8), .int o172_x9, .int o172_x10, .int o172_x11, .int o172_x12, .long o172_x13, .int o172_x14, .int o172_x15, .int o172_x16, .int r168, .int o172_x18, .int o172_x19, .int o172_x20, .ref (ρ h0 21), .int o172_x22, .ref (ρ h0 23), .ref (ρ h0 24), .int o172_x25, .ref (ρ h0 26), .ref (ρ h0 27), .int o172_x28, .int o172_x29, .ref (ρ h0 30), .ref (ρ h0 31), .int o172_x32, .long o172_x33, .long o172_x34, .long o172_x35, .int o172_x36, .int o172_x37, .int o172_x38, .ref (ρ h0 39), .ref (ρ h0 40), .ref (ρ h0 41), .ref (ρ h0 42), .ref (ρ h0 43), .ref (ρ h0 44), .ref (ρ h0 45), .ref (ρ h0 46), .int o172_x47, .int o172_x48, .ref (ρ h0 49), .ref (ρ h0 50), .ref (ρ h0 51), .ref (ρ h0 52)])) hD (tp_in hG ht_h0 (by decide)) eq184 (fun f185 H locs hP hD hS g187 k186 => ?_))
          have hT := hT.up ht_h0 g187 k186 ⟨_, _, _, _, _, _, _, _, _, _, _, _, _, _, _, _, _, _, _, _, _, _, _, _, _, _, _, _, rfl, ro172_0, ro172_1, ro172_2, ro172_3, ro172_4, ro172_5, ro172_6, ro172_7, ro172_8, ro172_9, ro172_10, ro172_11, ro172_12, ro172_13⟩
          have hR := hR.up ht_h0 (by decide) k186
          have tf188 : tp_fld (f185 h0) 10 = o172_x10.toInt := tff_10 g187
          have tf189 : tp_fld (f185 h0) 11 = o172_x11.toInt := tff_11 g187
          have tf190 : tp_fld (f185 h0) 9 = o172_x9.toInt := tff_9 g187
          have tf191 : tp_fld (f185 h0) 12 = o172_x12.toInt := tff_12 g187
          have tf192 : mo_fj (f185 h0) 13 = o172_x13.toInt := tff_13 g187
          have tf193 : tp_fld (f185 h0) 15 = o172_x15.toInt := tff_15 g187
          have tf194 : tp_fld (f185 h0) 22 = o172_x22.toInt := tff_22 g187
          have tf195 : tp_fld (f185 h0) 20 = o172_x20.toInt := tff_20 g187
          have tf196 : tp_fld (f185 h0) 19 = o172_x19.toInt := tff_19 g187
          have hf_197 : f85 (ρ h0 21) = .inl (κ 0, 60, .inl g27) := (hF86 _ (by rw [y7]; decide)).trans hf_o26
          have hf_198 : f102 (ρ h0 21) = .inl (κ 0, 60, .inl g27) := (k103 _ (tp_ne y7 ht_h0 (by decide))).trans hf_197
          have hf_199 : f119 (ρ h0 21) = .inl (κ 0, 60, .inl g27) := (hF120 _ (by rw [y7]; decide)).trans hf_198
          have hf_200 : f134 (ρ h0 21) = .inl (κ 0, 60, .inl g27) := (k135 _ (tp_ne y7 ht_h0 (by decide))).trans hf_199
          have hf_201 : f153 (ρ h0 21) = .inl (κ 0, 60, .inl g27) := (hF154 _ (by rw [y7]; decide)).trans hf_200
          have hf_202 : f170 (ρ h0 21) = .inl (κ 0, 60, .inl g27) := (hF171 _ (by rw [y7]; decide)).trans hf_201
          have hf_203 : f185 (ρ h0 21) = .inl (κ 0, 60, .inl g27) := (k186 _ (tp_ne y7 ht_h0 (by decide))).trans hf_202
          have tf204 : mo_i (f185 (ρ h0 21)) = g27 := tfa_i hf_203
          have hf_205 : f85 (ρ h0 23) = .inl (κ 0, 400, .inl g30) := (hF86 _ (by rw [y8]; decide)).trans hf_o29
          have hf_206 : f102 (ρ h0 23) = .inl (κ 0, 400, .inl g30) := (k103 _ (tp_ne y8 ht_h0 (by decide))).trans hf_205
          have hf_207 : f119 (ρ h0 23) = .inl (κ 0, 400, .inl g30) := (hF120 _ (by rw [y8]; decide)).trans hf_206
          have hf_208 : f134 (ρ h0 23) = .inl (κ 0, 400, .inl g30) := (k135 _ (tp_ne y8 ht_h0 (by decide))).trans hf_207
          have hf_209 : f153 (ρ h0 23) = .inl (κ 0, 400, .inl g30) := (hF154 _ (by rw [y8]; decide)).trans hf_208
          have hf_210 : f170 (ρ h0 23) = .inl (κ 0, 400, .inl g30) := (hF171 _ (by rw [y8]; decide)).trans hf_209
          have hf_211 : f185 (ρ h0 23) = .inl (κ 0, 400, .inl g30) := (k186 _ (tp_ne y8 ht_h0 (by decide))).trans hf_210
          have tf212 : mo_i (f185 (ρ h0 23)) = g30 := tfa_i hf_211
          have hf_213 : f85 (ρ h0 24) = .inl (κ 0, 400, .inl g33) := (hF86 _ (by rw [y9]; decide)).trans hf_o32
          have hf_214 : f102 (ρ h0 24) = .inl (κ 0, 400, .inl g33) := (k103 _ (tp_ne y9 ht_h0 (by decide))).trans hf_213
          have hf_215 : f119 (ρ h0 24) = .inl (κ 0, 400, .inl g33) := (hF120 _ (by rw [y9]; decide)).trans hf_214
          have hf_216 : f134 (ρ h0 24) = .inl (κ 0, 400, .inl g33) := (k135 _ (tp_ne y9 ht_h0 (by decide))).trans hf_215
          have hf_217 : f153 (ρ h0 24) = .inl (κ 0, 400, .inl g33) := (hF154 _ (by rw [y9]; decide)).trans hf_216
          have hf_218 : f170 (ρ h0 24) = .inl (κ 0, 400, .inl g33) := (hF171 _ (by rw [y9]; decide)).trans hf_217
          have hf_219 : f185 (ρ h0 24) = .inl (κ 0, 400, .inl g33) := (k186 _ (tp_ne y9 ht_h0 (by decide))).trans hf_218
          have tf220 : mo_i (f185 (ρ h0 24)) = g33 := tfa_i hf_219
          exact W.vret hx hb hr (fun t ht hW => ⟨⟨f185, rfl, ⟨hT, hR, (by first | (simp only [tf188, tf189, tf190, tf191, tf192, tf193, tf194, tf195, tf196, tf204, tf212, tf220, tf36, mo_i1, mo_l1]; exact (show (o172_x10.toInt ≤ o172_x11.toInt ∧ o172_x11.toInt ≤ o172_x9.toInt ∧ (o172_x12.toInt = 0 ∨ o172_x10.toInt < o172_x11.toInt) ∧ (o172_x12.toInt = 1 → o172_x11.toInt = o172_x10.toInt + 1 → o172_x13.toInt ≤ 26)) ∧ (o172_x15.toInt = 0 → o172_x22.toInt ≤ o172_x10.toInt ∧ o172_x20.toInt ≤ o172_x19.toInt ∧ mo_NC (mo_R g27) (mo_R g30) (mo_R g33) o172_x20.toInt o172_x22.toInt) ∧ o172_x9.toInt = o35_x9.toInt from ⟨by omega, fun q9 => ⟨by omega, by omega, (by rw [show o172_x20.toInt = o35_x20.toInt by omega, show o172_x22.toInt = o35_x22.toInt by omega]; exact h5)⟩, by omega⟩)) | (rw [tf188, tf189, tf190, tf191, tf192, tf193, tf194, tf195, tf196, tf204, tf212, tf220, tf36]; exact (show (o172_x10.toInt ≤ o172_x11.toInt ∧ o172_x11.toInt ≤ o172_x9.toInt ∧ (o172_x12.toInt = 0 ∨ o172_x10.toInt < o172_x11.toInt) ∧ (o172_x12.toInt = 1 → o172_x11.toInt = o172_x10.toInt + 1 → o172_x13.toInt ≤ 26)) ∧ (o172_x15.toInt = 0 → o172_x22.toInt ≤ o172_x10.toInt ∧ o172_x20.toInt ≤ o172_x19.toInt ∧ mo_NC (mo_R g27) (mo_R g30) (mo_R g33) o172_x20.toInt o172_x22.toInt) ∧ o172_x9.toInt = o35_x9.toInt from ⟨by omega, fun q9 => ⟨by omega, by omega, (by rw [show o172_x20.toInt = o35_x20.toInt by omega, show o172_x22.toInt = o35_x22.toInt by omega]; exact h5)⟩, by omega⟩)))⟩, by rw [ht]; exact hP, va_K.moved hW.alike hK, hD⟩, hS.F ht⟩) hS.2.2 dX12_readClause_125
      · have ic100 : o87_x15.toInt ≠ 0 := zi_eqf rfl rfl c100
        have hf_221 : f85 (ρ h0 21) = .inl (κ 0, 60, .inl g27) := (hF86 _ (by rw [y7]; decide)).trans hf_o26
        have tf222 : mo_i (f85 (ρ h0 21)) = g27 := tfa_i hf_221
        have hf_223 : f85 (ρ h0 23) = .inl (κ 0, 400, .inl g30) := (hF86 _ (by rw [y8]; decide)).trans hf_o29
        have tf224 : mo_i (f85 (ρ h0 23)) = g30 := tfa_i hf_223
        have hf_225 : f85 (ρ h0 24) = .inl (κ 0, 400, .inl g33) := (hF86 _ (by rw [y9]; decide)).trans hf_o32
        have tf226 : mo_i (f85 (ρ h0 24)) = g33 := tfa_i hf_225
        exact W.vret hx hb hr (fun t ht hW => ⟨⟨f85, rfl, ⟨hT, hR, (by first | (simp only [tf88, tf89, tf90, tf91, tf92, tf93, tf96, tf95, tf94, tf222, tf224, tf226, tf36, mo_i1, mo_l1]; exact (show (o87_x10.toInt ≤ o87_x11.toInt ∧ o87_x11.toInt ≤ o87_x9.toInt ∧ (o87_x12.toInt = 0 ∨ o87_x10.toInt < o87_x11.toInt) ∧ (o87_x12.toInt = 1 → o87_x11.toInt = o87_x10.toInt + 1 → o87_x13.toInt ≤ 26)) ∧ (o87_x15.toInt = 0 → o87_x22.toInt ≤ o87_x10.toInt ∧ o87_x20.toInt ≤ o87_x19.toInt ∧ mo_NC (mo_R g27) (mo_R g30) (mo_R g33) o87_x20.toInt o87_x22.toInt) ∧ o87_x9.toInt = o35_x9.toInt from ⟨by omega, fun q9 => by exfalso; omega, by omega⟩)) | (rw [tf88, tf89, tf90, tf91, tf92, tf93, tf96, tf95, tf94, tf222, tf224, tf226, tf36]; exact (show (o87_x10.toInt ≤ o87_x11.toInt ∧ o87_x11.toInt ≤ o87_x9.toInt ∧ (o87_x12.toInt = 0 ∨ o87_x10.toInt < o87_x11.toInt) ∧ (o87_x12.toInt = 1 → o87_x11.toInt = o87_x10.toInt + 1 → o87_x13.toInt ≤ 26)) ∧ (o87_x15.toInt = 0 → o87_x22.toInt ≤ o87_x10.toInt ∧ o87_x20.toInt ≤ o87_x19.toInt ∧ mo_NC (mo_R g27) (mo_R g30) (mo_R g33) o87_x20.toInt o87_x22.toInt) ∧ o87_x9.toInt = o35_x9.toInt from ⟨by omega, fun q9 => by exfalso; omega, by omega⟩)))⟩, by rw [ht]; exact hP, va_K.moved hW.alike hK, hD⟩, hS.F ht⟩) hS.2.2 dX12_readClause_71
  · have ic55 : r46.toInt = 0 := zi_nef rfl rfl c55
    refine lv_iload_n hx hb dX12_readClause_29 rfl (lv_at hl 1 rfl) ?_
    refine lv_if_ne (tgt := 47) hx hb dX12_readClause_30 (by decide) (fun c227 => ?_) (fun c227 => ?_)
    · have ic227 : r49.toInt ≠ 0 := zi_ne rfl rfl c227
      refine lv_aload_n hx hb dX12_readClause_47 rfl (lv_at hl 3 rfl) ?_
      refine va_get (D := (dC, dI)) (ci := 12) (v := .int o35_x19) (C := RX12) (T := TX12) (N := 53) hx hb hts hfX12 hown hK hP q45 eq45 rfl 19 (by decide) (hts (.fieldLink RX12 391 "ColdShipsModel" "nClauses" "I") wa_987) (fun _ h9 => h9) rfl dX12_readClause_48 ?_
      refine lv_bipush (v := 12) hx hb dX12_readClause_51 (by decide) ?_
      refine lv_icmp_ge (tgt := 60) hx hb dX12_readClause_53 (by decide) (fun c228 => ?_) (fun c228 => ?_)
      · have ic228 : o35_x19.toInt ≥ 12 := zi_ge rfl rfl c228
        refine lv_iconst (v := 0) hx hb dX12_readClause_60 (by decide) ?_
        have tf229 : tp_fld (f h0) 28 = o35_x28.toInt := tff_28 hf_o35
        have hFc := tp_fr hD hS hA
        refine va_callv (va_runV (As := [.int 0]) (rest := []) ⟨hx, hb, hml, hown, hts⟩ (t_X12_must l dC dI _ κ τ ν ρ L f hG hT h0 (0) ht_h0 (by first | decide | omega) (by first | (simp only [tf37, tf38, tf36, tf39, tf44, mo_i1, mo_l1]; exact (show (o35_x10.toInt ≤ o35_x11.toInt ∧ o35_x11.toInt ≤ o35_x9.toInt ∧ (o35_x12.toInt = 0 ∨ o35_x10.toInt < o35_x11.toInt) ∧ (o35_x12.toInt = 1 → o35_x11.toInt = o35_x10.toInt + 1 → o35_x13.toInt ≤ 26)) from by have : (0 : Int32).toInt = 0 := rfl; first | omega | decide)) | (rw [tf37, tf38, tf36, tf39, tf44]; exact (show (o35_x10.toInt ≤ o35_x11.toInt ∧ o35_x11.toInt ≤ o35_x9.toInt ∧ (o35_x12.toInt = 0 ∨ o35_x10.toInt < o35_x11.toInt) ∧ (o35_x12.toInt = 1 → o35_x11.toInt = o35_x10.toInt + 1 → o35_x13.toInt ≤ 26)) from by have : (0 : Int32).toInt = 0 := rfl; first | omega | decide)))) (cwV 1 hts gX12_readClause_X12_must rfl rfl rfl ⟨rfl, pd_X12_must⟩ ⟨Nat.le_of_ble_eq_true rfl, Nat.le_of_ble_eq_true rfl⟩) ⟨pz_blind, va_recv hK hP (ci := 12) (q0 := q45) rfl eq45, pz_pre hP hK hD hN⟩ rfl rfl hl.1 rfl (lv_room (Nat.le_of_ble_eq_true rfl)) dX12_readClause_61 ⟨Nat.le_of_ble_eq_true rfl, Nat.le_of_ble_eq_true rfl⟩) hS (fun q _ h => hFc q h) hFc (fun f232 t H1 locs ht hvm hw231 hB hz1 hk1 hS => ?_)
        obtain ⟨hT, hF233, hw231p⟩ := hw231
        have hR := hR.then hF233 (by decide)
        have hP := hB.1; rw [ht] at hP; have hD := tp_ad f232 hD; clear hB hFc hz1 hk1; subst ht; generalize t.heap = H at hP hS ⊢
        obtain ⟨o234_x0, o234_x1, o234_x7, o234_x9, o234_x10, o234_x11, o234_x12, o234_x13, o234_x14, o234_x15, o234_x16, o234_x17, o234_x18, o234_x19, o234_x20, o234_x22, o234_x25, o234_x28, o234_x29, o234_x32, o234_x33, o234_x34, o234_x35, o234_x36, o234_x37, o234_x38, o234_x47, o234_x48, hf_o234, ro234_0, ro234_1, ro234_2, ro234_3, ro234_4, ro234_5, ro234_6, ro234_7, ro234_8, ro234_9, ro234_10, ro234_11, ro234_12, ro234_13⟩ := tpo_13 hT ht_h0
        have tf235 : tp_fld (f232 h0) 10 = o234_x10.toInt := tff_10 hf_o234
        have tf236 : tp_fld (f232 h0) 11 = o234_x11.toInt := tff_11 hf_o234
        have tf237 : tp_fld (f232 h0) 9 = o234_x9.toInt := tff_9 hf_o234
        have tf238 : tp_fld (f232 h0) 12 = o234_x12.toInt := tff_12 hf_o234
        have tf239 : mo_fj (f232 h0) 13 = o234_x13.toInt := tff_13 hf_o234
        have tf240 : tp_fld (f232 h0) 15 = o234_x15.toInt := tff_15 hf_o234
        have tf241 : tp_fld (f232 h0) 19 = o234_x19.toInt := tff_19 hf_o234
        have tf242 : tp_fld (f232 h0) 20 = o234_x20.toInt := tff_20 hf_o234
        have tf243 : tp_fld (f232 h0) 22 = o234_x22.toInt := tff_22 hf_o234
        have tf244 : tp_fld (f232 h0) 28 = o234_x28.toInt := tff_28 hf_o234
        have tk245 : (o234_x10.toInt ≤ o234_x11.toInt ∧ o234_x11.toInt ≤ o234_x9.toInt ∧ (o234_x12.toInt = 0 ∨ o234_x10.toInt < o234_x11.toInt) ∧ (o234_x12.toInt = 1 → o234_x11.toInt = o234_x10.toInt + 1 → o234_x13.toInt ≤ 26)) ∧ (o234_x15.toInt = 0 → o35_x15.toInt = 0 ∧ o35_x11.toInt ≤ o234_x10.toInt ∧ (0 : Int) ≠ 0) ∧ (o234_x15.toInt ≠ 0 → o234_x10.toInt = o35_x10.toInt) ∧ o234_x9.toInt = o35_x9.toInt ∧ o234_x19.toInt = o35_x19.toInt ∧ o234_x20.toInt = o35_x20.toInt ∧ o234_x22.toInt = o35_x22.toInt ∧ o234_x28.toInt = o35_x28.toInt := by have q9 := hw231p; first | (simp only [tf235, tf236, tf237, tf238, tf239, tf240, tf40, tf38, tf37, tf36, tf241, tf41, tf242, tf42, tf243, tf43, tf244, tf229, mo_i1, mo_l1] at q9; exact q9) | (rw [tf235, tf236, tf237, tf238, tf239, tf240, tf40, tf38, tf37, tf36, tf241, tf41, tf242, tf42, tf243, tf43, tf244, tf229] at q9; exact q9)
        refine lv_aload_n hx hb dX12_readClause_64 rfl (lv_at hl 3 rfl) ?_
        obtain ⟨q246, eq246⟩ := tp_pos (tp_in hG ht_h0 (by decide)) hf_o234
        refine va_get (D := (dC, dI)) (ci := 12) (v := .int o234_x15) (C := RX12) (T := TX12) (N := 53) hx hb hts hfX12 hown hK hP q246 eq246 rfl 15 (by decide) (hts (.fieldLink RX12 261 "ColdShipsModel" "bad" "Z") wa_994) (fun _ h9 => h9) rfl dX12_readClause_65 ?_
        refine lv_if_eq (tgt := 72) hx hb dX12_readClause_68 (by decide) (fun c247 => ?_) (fun c247 => ?_)
        · have ic247 : o234_x15.toInt = 0 := zi_eq rfl rfl c247
          exfalso; omega
        · have ic247 : o234_x15.toInt ≠ 0 := zi_eqf rfl rfl c247
          have hf_248 : f232 (ρ h0 21) = .inl (κ 0, 60, .inl g27) := (hF233 _ (by rw [y7]; decide)).trans hf_o26
          have tf249 : mo_i (f232 (ρ h0 21)) = g27 := tfa_i hf_248
          have hf_250 : f232 (ρ h0 23) = .inl (κ 0, 400, .inl g30) := (hF233 _ (by rw [y8]; decide)).trans hf_o29
          have tf251 : mo_i (f232 (ρ h0 23)) = g30 := tfa_i hf_250
          have hf_252 : f232 (ρ h0 24) = .inl (κ 0, 400, .inl g33) := (hF233 _ (by rw [y9]; decide)).trans hf_o32
          have tf253 : mo_i (f232 (ρ h0 24)) = g33 := tfa_i hf_252
          exact W.vret hx hb hr (fun t ht hW => ⟨⟨f232, rfl, ⟨hT, hR, (by first | (simp only [tf235, tf236, tf237, tf238, tf239, tf240, tf243, tf242, tf241, tf249, tf251, tf253, tf36, mo_i1, mo_l1]; exact (show (o234_x10.toInt ≤ o234_x11.toInt ∧ o234_x11.toInt ≤ o234_x9.toInt ∧ (o234_x12.toInt = 0 ∨ o234_x10.toInt < o234_x11.toInt) ∧ (o234_x12.toInt = 1 → o234_x11.toInt = o234_x10.toInt + 1 → o234_x13.toInt ≤ 26)) ∧ (o234_x15.toInt = 0 → o234_x22.toInt ≤ o234_x10.toInt ∧ o234_x20.toInt ≤ o234_x19.toInt ∧ mo_NC (mo_R g27) (mo_R g30) (mo_R g33) o234_x20.toInt o234_x22.toInt) ∧ o234_x9.toInt = o35_x9.toInt from ⟨by omega, fun q9 => by exfalso; omega, by omega⟩)) | (rw [tf235, tf236, tf237, tf238, tf239, tf240, tf243, tf242, tf241, tf249, tf251, tf253, tf36]; exact (show (o234_x10.toInt ≤ o234_x11.toInt ∧ o234_x11.toInt ≤ o234_x9.toInt ∧ (o234_x12.toInt = 0 ∨ o234_x10.toInt < o234_x11.toInt) ∧ (o234_x12.toInt = 1 → o234_x11.toInt = o234_x10.toInt + 1 → o234_x13.toInt ≤ 26)) ∧ (o234_x15.toInt = 0 → o234_x22.toInt ≤ o234_x10.toInt ∧ o234_x20.toInt ≤ o234_x19.toInt ∧ mo_NC (mo_R g27) (mo_R g30) (mo_R g33) o234_x20.toInt o234_x22.toInt) ∧ o234_x9.toInt = o35_x9.toInt from ⟨by omega, fun q9 => by exfalso; omega, by omega⟩)))⟩, by rw [ht]; exact hP, va_K.moved hW.alike hK, hD⟩, hS.F ht⟩) hS.2.2 dX12_readClause_71
      · have ic228 : o35_x19.toInt < 12 := zi_gef rfl rfl c228
        refine lv_iconst (v := 1) hx hb dX12_readClause_56 (by decide) ?_
        refine lv_goto (tgt := 61) hx hb dX12_readClause_57 (by decide) ?_
        have tf254 : tp_fld (f h0) 28 = o35_x28.toInt := tff_28 hf_o35
        have hFc := tp_fr hD hS hA
        refine va_callv (va_runV (As := [.int 1]) (rest := []) ⟨hx, hb, hml, hown, hts⟩ (t_X12_must l dC dI _ κ τ ν ρ L f hG hT h0 (1) ht_h0 (by first | decide | omega) (by first | (simp only [tf37, tf38, tf36, tf39, tf44, mo_i1, mo_l1]; exact (show (o35_x10.toInt ≤ o35_x11.toInt ∧ o35_x11.toInt ≤ o35_x9.toInt ∧ (o35_x12.toInt = 0 ∨ o35_x10.toInt < o35_x11.toInt) ∧ (o35_x12.toInt = 1 → o35_x11.toInt = o35_x10.toInt + 1 → o35_x13.toInt ≤ 26)) from by have : (1 : Int32).toInt = 1 := rfl; first | omega | decide)) | (rw [tf37, tf38, tf36, tf39, tf44]; exact (show (o35_x10.toInt ≤ o35_x11.toInt ∧ o35_x11.toInt ≤ o35_x9.toInt ∧ (o35_x12.toInt = 0 ∨ o35_x10.toInt < o35_x11.toInt) ∧ (o35_x12.toInt = 1 → o35_x11.toInt = o35_x10.toInt + 1 → o35_x13.toInt ≤ 26)) from by have : (1 : Int32).toInt = 1 := rfl; first | omega | decide)))) (cwV 1 hts gX12_readClause_X12_must rfl rfl rfl ⟨rfl, pd_X12_must⟩ ⟨Nat.le_of_ble_eq_true rfl, Nat.le_of_ble_eq_true rfl⟩) ⟨pz_blind, va_recv hK hP (ci := 12) (q0 := q45) rfl eq45, pz_pre hP hK hD hN⟩ rfl rfl hl.1 rfl (lv_room (Nat.le_of_ble_eq_true rfl)) dX12_readClause_61 ⟨Nat.le_of_ble_eq_true rfl, Nat.le_of_ble_eq_true rfl⟩) hS (fun q _ h => hFc q h) hFc (fun f257 t H1 locs ht hvm hw256 hB hz1 hk1 hS => ?_)
        obtain ⟨hT, hF258, hw256p⟩ := hw256
        have hR := hR.then hF258 (by decide)
        have hP := hB.1; rw [ht] at hP; have hD := tp_ad f257 hD; clear hB hFc hz1 hk1; subst ht; generalize t.heap = H at hP hS ⊢
        obtain ⟨o259_x0, o259_x1, o259_x7, o259_x9, o259_x10, o259_x11, o259_x12, o259_x13, o259_x14, o259_x15, o259_x16, o259_x17, o259_x18, o259_x19, o259_x20, o259_x22, o259_x25, o259_x28, o259_x29, o259_x32, o259_x33, o259_x34, o259_x35, o259_x36, o259_x37, o259_x38, o259_x47, o259_x48, hf_o259, ro259_0, ro259_1, ro259_2, ro259_3, ro259_4, ro259_5, ro259_6, ro259_7, ro259_8, ro259_9, ro259_10, ro259_11, ro259_12, ro259_13⟩ := tpo_13 hT ht_h0
        have tf260 : tp_fld (f257 h0) 10 = o259_x10.toInt := tff_10 hf_o259
        have tf261 : tp_fld (f257 h0) 11 = o259_x11.toInt := tff_11 hf_o259
        have tf262 : tp_fld (f257 h0) 9 = o259_x9.toInt := tff_9 hf_o259
        have tf263 : tp_fld (f257 h0) 12 = o259_x12.toInt := tff_12 hf_o259
        have tf264 : mo_fj (f257 h0) 13 = o259_x13.toInt := tff_13 hf_o259
        have tf265 : tp_fld (f257 h0) 15 = o259_x15.toInt := tff_15 hf_o259
        have tf266 : tp_fld (f257 h0) 19 = o259_x19.toInt := tff_19 hf_o259
        have tf267 : tp_fld (f257 h0) 20 = o259_x20.toInt := tff_20 hf_o259
        have tf268 : tp_fld (f257 h0) 22 = o259_x22.toInt := tff_22 hf_o259
        have tf269 : tp_fld (f257 h0) 28 = o259_x28.toInt := tff_28 hf_o259
        have tk270 : (o259_x10.toInt ≤ o259_x11.toInt ∧ o259_x11.toInt ≤ o259_x9.toInt ∧ (o259_x12.toInt = 0 ∨ o259_x10.toInt < o259_x11.toInt) ∧ (o259_x12.toInt = 1 → o259_x11.toInt = o259_x10.toInt + 1 → o259_x13.toInt ≤ 26)) ∧ (o259_x15.toInt = 0 → o35_x15.toInt = 0 ∧ o35_x11.toInt ≤ o259_x10.toInt ∧ (1 : Int) ≠ 0) ∧ (o259_x15.toInt ≠ 0 → o259_x10.toInt = o35_x10.toInt) ∧ o259_x9.toInt = o35_x9.toInt ∧ o259_x19.toInt = o35_x19.toInt ∧ o259_x20.toInt = o35_x20.toInt ∧ o259_x22.toInt = o35_x22.toInt ∧ o259_x28.toInt = o35_x28.toInt := by have q9 := hw256p; first | (simp only [tf260, tf261, tf262, tf263, tf264, tf265, tf40, tf38, tf37, tf36, tf266, tf41, tf267, tf42, tf268, tf43, tf269, tf254, mo_i1, mo_l1] at q9; exact q9) | (rw [tf260, tf261, tf262, tf263, tf264, tf265, tf40, tf38, tf37, tf36, tf266, tf41, tf267, tf42, tf268, tf43, tf269, tf254] at q9; exact q9)
        refine lv_aload_n hx hb dX12_readClause_64 rfl (lv_at hl 3 rfl) ?_
        obtain ⟨q271, eq271⟩ := tp_pos (tp_in hG ht_h0 (by decide)) hf_o259
        refine va_get (D := (dC, dI)) (ci := 12) (v := .int o259_x15) (C := RX12) (T := TX12) (N := 53) hx hb hts hfX12 hown hK hP q271 eq271 rfl 15 (by decide) (hts (.fieldLink RX12 261 "ColdShipsModel" "bad" "Z") wa_994) (fun _ h9 => h9) rfl dX12_readClause_65 ?_
        refine lv_if_eq (tgt := 72) hx hb dX12_readClause_68 (by decide) (fun c272 => ?_) (fun c272 => ?_)
        · have ic272 : o259_x15.toInt = 0 := zi_eq rfl rfl c272
          refine lv_aload_n hx hb dX12_readClause_72 rfl (lv_at hl 3 rfl) ?_
          refine lv_dup hx hb dX12_readClause_73 rfl ?_
          refine va_get (D := (dC, dI)) (ci := 12) (v := .int o259_x19) (C := RX12) (T := TX12) (N := 53) hx hb hts hfX12 hown hK hP q271 eq271 rfl 19 (by decide) (hts (.fieldLink RX12 391 "ColdShipsModel" "nClauses" "I") wa_987) (fun _ h9 => h9) rfl dX12_readClause_74 ?_
          refine lv_iconst (v := 1) hx hb dX12_readClause_77 (by decide) ?_
          refine lv_iadd hx hb dX12_readClause_78 ?_
          refine lv_topi (fun z273 ez273 => ?_)
          have iz273 : z273.toInt = o259_x19.toInt + 1 := zi_add ez273 rfl rfl (by omega) (by omega)
          refine va_put (D := (dC, dI)) (ci := 12) (v := .int z273) (ty := .int) (C := RX12) (T := TX12) (N := 53) hx hb hts hfX12 tyX12 tyX12_ok nmX12 hown hK hP hD hS q271 eq271 rfl 19 (by decide) (hts (.fieldLink RX12 391 "ColdShipsModel" "nClauses" "I") wa_987) (fun _ h9 => h9) rfl (tyX12_ok 19 (by decide)) rfl rfl (Nat.le_of_ble_eq_true rfl) dX12_readClause_79 (tp_k (.inr (12, [.int o259_x0, .int o259_x1, .ref (ρ h0 2), .ref (ρ h0 3), .ref (ρ h0 4), .ref (ρ h0 5), .ref (ρ h0 6), .int o259_x7, .ref (ρ h0 8), .int o259_x9, .int o259_x10, .int o259_x11, .int o259_x12, .long o259_x13, .int o259_x14, .int o259_x15, .int o259_x16, .int o259_x17, .int o259_x18, .int z273, .int o259_x20, .ref (ρ h0 21), .int o259_x22, .ref (ρ h0 23), .ref (ρ h0 24), .int o259_x25, .ref (ρ h0 26), .ref (ρ h0 27), .int o259_x28, .int o259_x29, .ref (ρ h0 30), .ref (ρ h0 31), .int o259_x32, .long o259_x33, .long o259_x34, .long o259_x35, .int o259_x36, .int o259_x37, .int o259_x38, .ref (ρ h0 39), .ref (ρ h0 40), .ref (ρ h0 41), .ref (ρ h0 42), .ref (ρ h0 43), .ref (ρ h0 44), .ref (ρ h0 45), .ref (ρ h0 46), .int o259_x47, .int o259_x48, .ref (ρ h0 49), .ref (ρ h0 50), .ref (ρ h0 51), .ref (ρ h0 52)])) hD (tp_in hG ht_h0 (by decide)) eq271 (fun f274 H locs hP hD hS g276 k275 => ?_))
          have hT := hT.up ht_h0 g276 k275 ⟨_, _, _, _, _, _, _, _, _, _, _, _, _, _, _, _, _, _, _, _, _, _, _, _, _, _, _, _, rfl, ro259_0, ro259_1, ro259_2, ro259_3, ro259_4, ro259_5, (by omega), ro259_7, ro259_8, ro259_9, ro259_10, ro259_11, ro259_12, ro259_13⟩
          have hR := hR.up ht_h0 (by decide) k275
          refine lv_iload_n hx hb dX12_readClause_82 rfl (lv_at hl 2 rfl) ?_
          refine lv_if_eq (tgt := 126) hx hb dX12_readClause_83 (by decide) (fun c277 => ?_) (fun c277 => ?_)
          · have ic277 : r46.toInt = 0 := zi_eq rfl rfl c277
            refine lv_iload_n hx hb dX12_readClause_126 rfl (lv_at hl 1 rfl) ?_
            refine lv_if_eq (tgt := 143) hx hb dX12_readClause_127 (by decide) (fun c278 => ?_) (fun c278 => ?_)
            · have ic278 : r49.toInt = 0 := zi_eq rfl rfl c278
              exfalso; omega
            · have ic278 : r49.toInt ≠ 0 := zi_eqf rfl rfl c278
              refine lv_aload_n hx hb dX12_readClause_130 rfl (lv_at hl 3 rfl) ?_
              refine lv_aload_n hx hb dX12_readClause_131 rfl (lv_at hl 3 rfl) ?_
              refine lv_lconst (v := 0) hx hb dX12_readClause_132 (by decide) ?_
              refine lv_ldc2 (own := RX12) (v := 5) hx hb hown (hts (.constantLong RX12 406 (5)) wa_1027) dX12_readClause_133 ?_
              have tf279 : tp_fld (f274 h0) 15 = o259_x15.toInt := tff_15 g276
              have tf280 : tp_fld (f274 h0) 11 = o259_x11.toInt := tff_11 g276
              have tf281 : tp_fld (f274 h0) 10 = o259_x10.toInt := tff_10 g276
              have tf282 : tp_fld (f274 h0) 9 = o259_x9.toInt := tff_9 g276
              have tf283 : tp_fld (f274 h0) 19 = z273.toInt := tff_19 g276
              have tf284 : tp_fld (f274 h0) 20 = o259_x20.toInt := tff_20 g276
              have tf285 : tp_fld (f274 h0) 22 = o259_x22.toInt := tff_22 g276
              have tf286 : tp_fld (f274 h0) 28 = o259_x28.toInt := tff_28 g276
              have tf287 : tp_fld (f274 h0) 12 = o259_x12.toInt := tff_12 g276
              have tf288 : mo_fj (f274 h0) 13 = o259_x13.toInt := tff_13 g276
              obtain ⟨q289, eq289⟩ := tp_pos (tp_in hG ht_h0 (by decide)) g276
              have hFc := tp_fr hD hS hA
              refine va_calli (va_runV (As := [.long 0, .long 5]) (rest := [.ref h0]) ⟨hx, hb, hml, hown, hts⟩ (t_X12_number l dC dI _ κ τ ν ρ L f274 hG hT h0 (0) (5) ht_h0 (by first | (simp only [tf281, tf280, tf282, tf287, tf288, mo_i1, mo_l1]; exact (show (o259_x10.toInt ≤ o259_x11.toInt ∧ o259_x11.toInt ≤ o259_x9.toInt ∧ (o259_x12.toInt = 0 ∨ o259_x10.toInt < o259_x11.toInt) ∧ (o259_x12.toInt = 1 → o259_x11.toInt = o259_x10.toInt + 1 → o259_x13.toInt ≤ 26)) from by first | omega | decide)) | (rw [tf281, tf280, tf282, tf287, tf288]; exact (show (o259_x10.toInt ≤ o259_x11.toInt ∧ o259_x11.toInt ≤ o259_x9.toInt ∧ (o259_x12.toInt = 0 ∨ o259_x10.toInt < o259_x11.toInt) ∧ (o259_x12.toInt = 1 → o259_x11.toInt = o259_x10.toInt + 1 → o259_x13.toInt ≤ 26)) from by first | omega | decide)))) (cwV 2 hts gX12_readClause_X12_number rfl rfl rfl ⟨rfl, pd_X12_number⟩ ⟨Nat.le_of_ble_eq_true rfl, Nat.le_of_ble_eq_true rfl⟩) ⟨pz_blind, va_recv hK hP (ci := 12) (q0 := q289) rfl eq289, pz_pre hP hK hD hN⟩ rfl rfl hl.1 rfl (lv_room (Nat.le_of_ble_eq_true rfl)) dX12_readClause_136 ⟨Nat.le_of_ble_eq_true rfl, Nat.le_of_ble_eq_true rfl⟩) hS (fun q _ h => hFc q h) hFc (fun r290 f292 t H1 locs ht hvm hw291 hB hz1 hk1 hS => ?_)
              obtain ⟨hT, hF293, hw291r, hw291p⟩ := hw291
              have hR := hR.then hF293 (by decide)
              have hP := hB.1; rw [ht] at hP; have hD := tp_ad f292 hD; clear hB hFc hz1 hk1; subst ht; generalize t.heap = H at hP hS ⊢
              obtain ⟨o294_x0, o294_x1, o294_x7, o294_x9, o294_x10, o294_x11, o294_x12, o294_x13, o294_x14, o294_x15, o294_x16, o294_x17, o294_x18, o294_x19, o294_x20, o294_x22, o294_x25, o294_x28, o294_x29, o294_x32, o294_x33, o294_x34, o294_x35, o294_x36, o294_x37, o294_x38, o294_x47, o294_x48, hf_o294, ro294_0, ro294_1, ro294_2, ro294_3, ro294_4, ro294_5, ro294_6, ro294_7, ro294_8, ro294_9, ro294_10, ro294_11, ro294_12, ro294_13⟩ := tpo_13 hT ht_h0
              have tf295 : tp_fld (f292 h0) 10 = o294_x10.toInt := tff_10 hf_o294
              have tf296 : tp_fld (f292 h0) 11 = o294_x11.toInt := tff_11 hf_o294
              have tf297 : tp_fld (f292 h0) 9 = o294_x9.toInt := tff_9 hf_o294
              have tf298 : tp_fld (f292 h0) 12 = o294_x12.toInt := tff_12 hf_o294
              have tf299 : mo_fj (f292 h0) 13 = o294_x13.toInt := tff_13 hf_o294
              have tf300 : tp_fld (f292 h0) 15 = o294_x15.toInt := tff_15 hf_o294
              have tf301 : tp_fld (f292 h0) 19 = o294_x19.toInt := tff_19 hf_o294
              have tf302 : tp_fld (f292 h0) 20 = o294_x20.toInt := tff_20 hf_o294
              have tf303 : tp_fld (f292 h0) 22 = o294_x22.toInt := tff_22 hf_o294
              have tf304 : tp_fld (f292 h0) 28 = o294_x28.toInt := tff_28 hf_o294
              have tk305 : (o294_x10.toInt ≤ o294_x11.toInt ∧ o294_x11.toInt ≤ o294_x9.toInt ∧ (o294_x12.toInt = 0 ∨ o294_x10.toInt < o294_x11.toInt) ∧ (o294_x12.toInt = 1 → o294_x11.toInt = o294_x10.toInt + 1 → o294_x13.toInt ≤ 26)) ∧ (o294_x15.toInt = 0 → o259_x15.toInt = 0 ∧ o259_x11.toInt ≤ o294_x10.toInt) ∧ (o294_x15.toInt ≠ 0 → o294_x10.toInt = o259_x10.toInt) ∧ o294_x9.toInt = o259_x9.toInt ∧ o294_x19.toInt = z273.toInt ∧ o294_x20.toInt = o259_x20.toInt ∧ o294_x22.toInt = o259_x22.toInt ∧ o294_x28.toInt = o259_x28.toInt := by have q9 := hw291p; first | (simp only [tf295, tf296, tf297, tf298, tf299, tf300, tf279, tf280, tf281, tf282, tf301, tf283, tf302, tf284, tf303, tf285, tf304, tf286, mo_i1, mo_l1] at q9; exact q9) | (rw [tf295, tf296, tf297, tf298, tf299, tf300, tf279, tf280, tf281, tf282, tf301, tf283, tf302, tf284, tf303, tf285, tf304, tf286] at q9; exact q9)
              obtain ⟨q306, eq306⟩ := tp_pos (tp_in hG ht_h0 (by decide)) hf_o294
              refine va_put (D := (dC, dI)) (ci := 12) (v := .int r290) (ty := .int) (C := RX12) (T := TX12) (N := 53) hx hb hts hfX12 tyX12 tyX12_ok nmX12 hown hK hP hD hS q306 eq306 rfl 18 (by decide) (hts (.fieldLink RX12 408 "ColdShipsModel" "nAt" "I") wa_993) (fun _ h9 => h9) rfl (tyX12_ok 18 (by decide)) rfl rfl (Nat.le_of_ble_eq_true rfl) dX12_readClause_139 (tp_k (.inr (12, [.int o294_x0, .int o294_x1, .ref (ρ h0 2), .ref (ρ h0 3), .ref (ρ h0 4), .ref (ρ h0 5), .ref (ρ h0 6), .int o294_x7, .ref (ρ h0 8), .int o294_x9, .int o294_x10, .int o294_x11, .int o294_x12, .long o294_x13, .int o294_x14, .int o294_x15, .int o294_x16, .int o294_x17, .int r290, .int o294_x19, .int o294_x20, .ref (ρ h0 21), .int o294_x22, .ref (ρ h0 23), .ref (ρ h0 24), .int o294_x25, .ref (ρ h0 26), .ref (ρ h0 27), .int o294_x28, .int o294_x29, .ref (ρ h0 30), .ref (ρ h0 31), .int o294_x32, .long o294_x33, .long o294_x34, .long o294_x35, .int o294_x36, .int o294_x37, .int o294_x38, .ref (ρ h0 39), .ref (ρ h0 40), .ref (ρ h0 41), .ref (ρ h0 42), .ref (ρ h0 43), .ref (ρ h0 44), .ref (ρ h0 45), .ref (ρ h0 46), .int o294_x47, .int o294_x48, .ref (ρ h0 49), .ref (ρ h0 50), .ref (ρ h0 51), .ref (ρ h0 52)])) hD (tp_in hG ht_h0 (by decide)) eq306 (fun f307 H locs hP hD hS g309 k308 => ?_))
              have hT := hT.up ht_h0 g309 k308 ⟨_, _, _, _, _, _, _, _, _, _, _, _, _, _, _, _, _, _, _, _, _, _, _, _, _, _, _, _, rfl, ro294_0, ro294_1, ro294_2, ro294_3, ro294_4, ro294_5, ro294_6, ro294_7, ro294_8, ro294_9, ro294_10, ro294_11, ro294_12, ro294_13⟩
              have hR := hR.up ht_h0 (by decide) k308
              have tf310 : tp_fld (f307 h0) 10 = o294_x10.toInt := tff_10 g309
              have tf311 : tp_fld (f307 h0) 11 = o294_x11.toInt := tff_11 g309
              have tf312 : tp_fld (f307 h0) 9 = o294_x9.toInt := tff_9 g309
              have tf313 : tp_fld (f307 h0) 12 = o294_x12.toInt := tff_12 g309
              have tf314 : mo_fj (f307 h0) 13 = o294_x13.toInt := tff_13 g309
              have tf315 : tp_fld (f307 h0) 15 = o294_x15.toInt := tff_15 g309
              have tf316 : tp_fld (f307 h0) 22 = o294_x22.toInt := tff_22 g309
              have tf317 : tp_fld (f307 h0) 20 = o294_x20.toInt := tff_20 g309
              have tf318 : tp_fld (f307 h0) 19 = o294_x19.toInt := tff_19 g309
              have hf_319 : f257 (ρ h0 21) = .inl (κ 0, 60, .inl g27) := (hF258 _ (by rw [y7]; decide)).trans hf_o26
              have hf_320 : f274 (ρ h0 21) = .inl (κ 0, 60, .inl g27) := (k275 _ (tp_ne y7 ht_h0 (by decide))).trans hf_319
              have hf_321 : f292 (ρ h0 21) = .inl (κ 0, 60, .inl g27) := (hF293 _ (by rw [y7]; decide)).trans hf_320
              have hf_322 : f307 (ρ h0 21) = .inl (κ 0, 60, .inl g27) := (k308 _ (tp_ne y7 ht_h0 (by decide))).trans hf_321
              have tf323 : mo_i (f307 (ρ h0 21)) = g27 := tfa_i hf_322
              have hf_324 : f257 (ρ h0 23) = .inl (κ 0, 400, .inl g30) := (hF258 _ (by rw [y8]; decide)).trans hf_o29
              have hf_325 : f274 (ρ h0 23) = .inl (κ 0, 400, .inl g30) := (k275 _ (tp_ne y8 ht_h0 (by decide))).trans hf_324
              have hf_326 : f292 (ρ h0 23) = .inl (κ 0, 400, .inl g30) := (hF293 _ (by rw [y8]; decide)).trans hf_325
              have hf_327 : f307 (ρ h0 23) = .inl (κ 0, 400, .inl g30) := (k308 _ (tp_ne y8 ht_h0 (by decide))).trans hf_326
              have tf328 : mo_i (f307 (ρ h0 23)) = g30 := tfa_i hf_327
              have hf_329 : f257 (ρ h0 24) = .inl (κ 0, 400, .inl g33) := (hF258 _ (by rw [y9]; decide)).trans hf_o32
              have hf_330 : f274 (ρ h0 24) = .inl (κ 0, 400, .inl g33) := (k275 _ (tp_ne y9 ht_h0 (by decide))).trans hf_329
              have hf_331 : f292 (ρ h0 24) = .inl (κ 0, 400, .inl g33) := (hF293 _ (by rw [y9]; decide)).trans hf_330
              have hf_332 : f307 (ρ h0 24) = .inl (κ 0, 400, .inl g33) := (k308 _ (tp_ne y9 ht_h0 (by decide))).trans hf_331
              have tf333 : mo_i (f307 (ρ h0 24)) = g33 := tfa_i hf_332
              exact W.vret hx hb hr (fun t ht hW => ⟨⟨f307, rfl, ⟨hT, hR, (by first | (simp only [tf310, tf311, tf312, tf313, tf314, tf315, tf316, tf317, tf318, tf323, tf328, tf333, tf36, mo_i1, mo_l1]; exact (show (o294_x10.toInt ≤ o294_x11.toInt ∧ o294_x11.toInt ≤ o294_x9.toInt ∧ (o294_x12.toInt = 0 ∨ o294_x10.toInt < o294_x11.toInt) ∧ (o294_x12.toInt = 1 → o294_x11.toInt = o294_x10.toInt + 1 → o294_x13.toInt ≤ 26)) ∧ (o294_x15.toInt = 0 → o294_x22.toInt ≤ o294_x10.toInt ∧ o294_x20.toInt ≤ o294_x19.toInt ∧ mo_NC (mo_R g27) (mo_R g30) (mo_R g33) o294_x20.toInt o294_x22.toInt) ∧ o294_x9.toInt = o35_x9.toInt from ⟨by omega, fun q9 => ⟨by omega, by omega, (by rw [show o294_x20.toInt = o35_x20.toInt by omega, show o294_x22.toInt = o35_x22.toInt by omega]; exact h5)⟩, by omega⟩)) | (rw [tf310, tf311, tf312, tf313, tf314, tf315, tf316, tf317, tf318, tf323, tf328, tf333, tf36]; exact (show (o294_x10.toInt ≤ o294_x11.toInt ∧ o294_x11.toInt ≤ o294_x9.toInt ∧ (o294_x12.toInt = 0 ∨ o294_x10.toInt < o294_x11.toInt) ∧ (o294_x12.toInt = 1 → o294_x11.toInt = o294_x10.toInt + 1 → o294_x13.toInt ≤ 26)) ∧ (o294_x15.toInt = 0 → o294_x22.toInt ≤ o294_x10.toInt ∧ o294_x20.toInt ≤ o294_x19.toInt ∧ mo_NC (mo_R g27) (mo_R g30) (mo_R g33) o294_x20.toInt o294_x22.toInt) ∧ o294_x9.toInt = o35_x9.toInt from ⟨by omega, fun q9 => ⟨by omega, by omega, (by rw [show o294_x20.toInt = o35_x20.toInt by omega, show o294_x22.toInt = o35_x22.toInt by omega]; exact h5)⟩, by omega⟩)))⟩, by rw [ht]; exact hP, va_K.moved hW.alike hK, hD⟩, hS.F ht⟩) hS.2.2 dX12_readClause_142
          · have ic277 : r46.toInt ≠ 0 := zi_eqf rfl rfl c277
            exfalso; omega
        · have ic272 : o259_x15.toInt ≠ 0 := zi_eqf rfl rfl c272
          have hf_334 : f257 (ρ h0 21) = .inl (κ 0, 60, .inl g27) := (hF258 _ (by rw [y7]; decide)).trans hf_o26
          have tf335 : mo_i (f257 (ρ h0 21)) = g27 := tfa_i hf_334
          have hf_336 : f257 (ρ h0 23) = .inl (κ 0, 400, .inl g30) := (hF258 _ (by rw [y8]; decide)).trans hf_o29
          have tf337 : mo_i (f257 (ρ h0 23)) = g30 := tfa_i hf_336
          have hf_338 : f257 (ρ h0 24) = .inl (κ 0, 400, .inl g33) := (hF258 _ (by rw [y9]; decide)).trans hf_o32
          have tf339 : mo_i (f257 (ρ h0 24)) = g33 := tfa_i hf_338
          exact W.vret hx hb hr (fun t ht hW => ⟨⟨f257, rfl, ⟨hT, hR, (by first | (simp only [tf260, tf261, tf262, tf263, tf264, tf265, tf268, tf267, tf266, tf335, tf337, tf339, tf36, mo_i1, mo_l1]; exact (show (o259_x10.toInt ≤ o259_x11.toInt ∧ o259_x11.toInt ≤ o259_x9.toInt ∧ (o259_x12.toInt = 0 ∨ o259_x10.toInt < o259_x11.toInt) ∧ (o259_x12.toInt = 1 → o259_x11.toInt = o259_x10.toInt + 1 → o259_x13.toInt ≤ 26)) ∧ (o259_x15.toInt = 0 → o259_x22.toInt ≤ o259_x10.toInt ∧ o259_x20.toInt ≤ o259_x19.toInt ∧ mo_NC (mo_R g27) (mo_R g30) (mo_R g33) o259_x20.toInt o259_x22.toInt) ∧ o259_x9.toInt = o35_x9.toInt from ⟨by omega, fun q9 => by exfalso; omega, by omega⟩)) | (rw [tf260, tf261, tf262, tf263, tf264, tf265, tf268, tf267, tf266, tf335, tf337, tf339, tf36]; exact (show (o259_x10.toInt ≤ o259_x11.toInt ∧ o259_x11.toInt ≤ o259_x9.toInt ∧ (o259_x12.toInt = 0 ∨ o259_x10.toInt < o259_x11.toInt) ∧ (o259_x12.toInt = 1 → o259_x11.toInt = o259_x10.toInt + 1 → o259_x13.toInt ≤ 26)) ∧ (o259_x15.toInt = 0 → o259_x22.toInt ≤ o259_x10.toInt ∧ o259_x20.toInt ≤ o259_x19.toInt ∧ mo_NC (mo_R g27) (mo_R g30) (mo_R g33) o259_x20.toInt o259_x22.toInt) ∧ o259_x9.toInt = o35_x9.toInt from ⟨by omega, fun q9 => by exfalso; omega, by omega⟩)))⟩, by rw [ht]; exact hP, va_K.moved hW.alike hK, hD⟩, hS.F ht⟩) hS.2.2 dX12_readClause_71
    · have ic227 : r49.toInt = 0 := zi_nef rfl rfl c227
      refine lv_iload_n hx hb dX12_readClause_33 rfl (lv_at hl 0 rfl) ?_
      refine lv_if_ne (tgt := 47) hx hb dX12_readClause_34 (by decide) (fun c340 => ?_) (fun c340 => ?_)
      · have ic340 : r52.toInt ≠ 0 := zi_ne rfl rfl c340
        refine lv_aload_n hx hb dX12_readClause_47 rfl (lv_at hl 3 rfl) ?_
        refine va_get (D := (dC, dI)) (ci := 12) (v := .int o35_x19) (C := RX12) (T := TX12) (N := 53) hx hb hts hfX12 hown hK hP q45 eq45 rfl 19 (by decide) (hts (.fieldLink RX12 391 "ColdShipsModel" "nClauses" "I") wa_987) (fun _ h9 => h9) rfl dX12_readClause_48 ?_
        refine lv_bipush (v := 12) hx hb dX12_readClause_51 (by decide) ?_
        refine lv_icmp_ge (tgt := 60) hx hb dX12_readClause_53 (by decide) (fun c341 => ?_) (fun c341 => ?_)
        · have ic341 : o35_x19.toInt ≥ 12 := zi_ge rfl rfl c341
          refine lv_iconst (v := 0) hx hb dX12_readClause_60 (by decide) ?_
          have tf342 : tp_fld (f h0) 28 = o35_x28.toInt := tff_28 hf_o35
          have hFc := tp_fr hD hS hA
          refine va_callv (va_runV (As := [.int 0]) (rest := []) ⟨hx, hb, hml, hown, hts⟩ (t_X12_must l dC dI _ κ τ ν ρ L f hG hT h0 (0) ht_h0 (by first | decide | omega) (by first | (simp only [tf37, tf38, tf36, tf39, tf44, mo_i1, mo_l1]; exact (show (o35_x10.toInt ≤ o35_x11.toInt ∧ o35_x11.toInt ≤ o35_x9.toInt ∧ (o35_x12.toInt = 0 ∨ o35_x10.toInt < o35_x11.toInt) ∧ (o35_x12.toInt = 1 → o35_x11.toInt = o35_x10.toInt + 1 → o35_x13.toInt ≤ 26)) from by have : (0 : Int32).toInt = 0 := rfl; first | omega | decide)) | (rw [tf37, tf38, tf36, tf39, tf44]; exact (show (o35_x10.toInt ≤ o35_x11.toInt ∧ o35_x11.toInt ≤ o35_x9.toInt ∧ (o35_x12.toInt = 0 ∨ o35_x10.toInt < o35_x11.toInt) ∧ (o35_x12.toInt = 1 → o35_x11.toInt = o35_x10.toInt + 1 → o35_x13.toInt ≤ 26)) from by have : (0 : Int32).toInt = 0 := rfl; first | omega | decide)))) (cwV 1 hts gX12_readClause_X12_must rfl rfl rfl ⟨rfl, pd_X12_must⟩ ⟨Nat.le_of_ble_eq_true rfl, Nat.le_of_ble_eq_true rfl⟩) ⟨pz_blind, va_recv hK hP (ci := 12) (q0 := q45) rfl eq45, pz_pre hP hK hD hN⟩ rfl rfl hl.1 rfl (lv_room (Nat.le_of_ble_eq_true rfl)) dX12_readClause_61 ⟨Nat.le_of_ble_eq_true rfl, Nat.le_of_ble_eq_true rfl⟩) hS (fun q _ h => hFc q h) hFc (fun f345 t H1 locs ht hvm hw344 hB hz1 hk1 hS => ?_)
          obtain ⟨hT, hF346, hw344p⟩ := hw344
          have hR := hR.then hF346 (by decide)
          have hP := hB.1; rw [ht] at hP; have hD := tp_ad f345 hD; clear hB hFc hz1 hk1; subst ht; generalize t.heap = H at hP hS ⊢
          obtain ⟨o347_x0, o347_x1, o347_x7, o347_x9, o347_x10, o347_x11, o347_x12, o347_x13, o347_x14, o347_x15, o347_x16, o347_x17, o347_x18, o347_x19, o347_x20, o347_x22, o347_x25, o347_x28, o347_x29, o347_x32, o347_x33, o347_x34, o347_x35, o347_x36, o347_x37, o347_x38, o347_x47, o347_x48, hf_o347, ro347_0, ro347_1, ro347_2, ro347_3, ro347_4, ro347_5, ro347_6, ro347_7, ro347_8, ro347_9, ro347_10, ro347_11, ro347_12, ro347_13⟩ := tpo_13 hT ht_h0
          have tf348 : tp_fld (f345 h0) 10 = o347_x10.toInt := tff_10 hf_o347
          have tf349 : tp_fld (f345 h0) 11 = o347_x11.toInt := tff_11 hf_o347
          have tf350 : tp_fld (f345 h0) 9 = o347_x9.toInt := tff_9 hf_o347
          have tf351 : tp_fld (f345 h0) 12 = o347_x12.toInt := tff_12 hf_o347
          have tf352 : mo_fj (f345 h0) 13 = o347_x13.toInt := tff_13 hf_o347
          have tf353 : tp_fld (f345 h0) 15 = o347_x15.toInt := tff_15 hf_o347
          have tf354 : tp_fld (f345 h0) 19 = o347_x19.toInt := tff_19 hf_o347
          have tf355 : tp_fld (f345 h0) 20 = o347_x20.toInt := tff_20 hf_o347
          have tf356 : tp_fld (f345 h0) 22 = o347_x22.toInt := tff_22 hf_o347
          have tf357 : tp_fld (f345 h0) 28 = o347_x28.toInt := tff_28 hf_o347
          have tk358 : (o347_x10.toInt ≤ o347_x11.toInt ∧ o347_x11.toInt ≤ o347_x9.toInt ∧ (o347_x12.toInt = 0 ∨ o347_x10.toInt < o347_x11.toInt) ∧ (o347_x12.toInt = 1 → o347_x11.toInt = o347_x10.toInt + 1 → o347_x13.toInt ≤ 26)) ∧ (o347_x15.toInt = 0 → o35_x15.toInt = 0 ∧ o35_x11.toInt ≤ o347_x10.toInt ∧ (0 : Int) ≠ 0) ∧ (o347_x15.toInt ≠ 0 → o347_x10.toInt = o35_x10.toInt) ∧ o347_x9.toInt = o35_x9.toInt ∧ o347_x19.toInt = o35_x19.toInt ∧ o347_x20.toInt = o35_x20.toInt ∧ o347_x22.toInt = o35_x22.toInt ∧ o347_x28.toInt = o35_x28.toInt := by have q9 := hw344p; first | (simp only [tf348, tf349, tf350, tf351, tf352, tf353, tf40, tf38, tf37, tf36, tf354, tf41, tf355, tf42, tf356, tf43, tf357, tf342, mo_i1, mo_l1] at q9; exact q9) | (rw [tf348, tf349, tf350, tf351, tf352, tf353, tf40, tf38, tf37, tf36, tf354, tf41, tf355, tf42, tf356, tf43, tf357, tf342] at q9; exact q9)
          refine lv_aload_n hx hb dX12_readClause_64 rfl (lv_at hl 3 rfl) ?_
          obtain ⟨q359, eq359⟩ := tp_pos (tp_in hG ht_h0 (by decide)) hf_o347
          refine va_get (D := (dC, dI)) (ci := 12) (v := .int o347_x15) (C := RX12) (T := TX12) (N := 53) hx hb hts hfX12 hown hK hP q359 eq359 rfl 15 (by decide) (hts (.fieldLink RX12 261 "ColdShipsModel" "bad" "Z") wa_994) (fun _ h9 => h9) rfl dX12_readClause_65 ?_
          refine lv_if_eq (tgt := 72) hx hb dX12_readClause_68 (by decide) (fun c360 => ?_) (fun c360 => ?_)
          · have ic360 : o347_x15.toInt = 0 := zi_eq rfl rfl c360
            exfalso; omega
          · have ic360 : o347_x15.toInt ≠ 0 := zi_eqf rfl rfl c360
            have hf_361 : f345 (ρ h0 21) = .inl (κ 0, 60, .inl g27) := (hF346 _ (by rw [y7]; decide)).trans hf_o26
            have tf362 : mo_i (f345 (ρ h0 21)) = g27 := tfa_i hf_361
            have hf_363 : f345 (ρ h0 23) = .inl (κ 0, 400, .inl g30) := (hF346 _ (by rw [y8]; decide)).trans hf_o29
            have tf364 : mo_i (f345 (ρ h0 23)) = g30 := tfa_i hf_363
            have hf_365 : f345 (ρ h0 24) = .inl (κ 0, 400, .inl g33) := (hF346 _ (by rw [y9]; decide)).trans hf_o32
            have tf366 : mo_i (f345 (ρ h0 24)) = g33 := tfa_i hf_365
            exact W.vret hx hb hr (fun t ht hW => ⟨⟨f345, rfl, ⟨hT, hR, (by first | (simp only [tf348, tf349, tf350, tf351, tf352, tf353, tf356, tf355, tf354, tf362, tf364, tf366, tf36, mo_i1, mo_l1]; exact (show (o347_x10.toInt ≤ o347_x11.toInt ∧ o347_x11.toInt ≤ o347_x9.toInt ∧ (o347_x12.toInt = 0 ∨ o347_x10.toInt < o347_x11.toInt) ∧ (o347_x12.toInt = 1 → o347_x11.toInt = o347_x10.toInt + 1 → o347_x13.toInt ≤ 26)) ∧ (o347_x15.toInt = 0 → o347_x22.toInt ≤ o347_x10.toInt ∧ o347_x20.toInt ≤ o347_x19.toInt ∧ mo_NC (mo_R g27) (mo_R g30) (mo_R g33) o347_x20.toInt o347_x22.toInt) ∧ o347_x9.toInt = o35_x9.toInt from ⟨by omega, fun q9 => by exfalso; omega, by omega⟩)) | (rw [tf348, tf349, tf350, tf351, tf352, tf353, tf356, tf355, tf354, tf362, tf364, tf366, tf36]; exact (show (o347_x10.toInt ≤ o347_x11.toInt ∧ o347_x11.toInt ≤ o347_x9.toInt ∧ (o347_x12.toInt = 0 ∨ o347_x10.toInt < o347_x11.toInt) ∧ (o347_x12.toInt = 1 → o347_x11.toInt = o347_x10.toInt + 1 → o347_x13.toInt ≤ 26)) ∧ (o347_x15.toInt = 0 → o347_x22.toInt ≤ o347_x10.toInt ∧ o347_x20.toInt ≤ o347_x19.toInt ∧ mo_NC (mo_R g27) (mo_R g30) (mo_R g33) o347_x20.toInt o347_x22.toInt) ∧ o347_x9.toInt = o35_x9.toInt from ⟨by omega, fun q9 => by exfalso; omega, by omega⟩)))⟩, by rw [ht]; exact hP, va_K.moved hW.alike hK, hD⟩, hS.F ht⟩) hS.2.2 dX12_readClause_71
        · have ic341 : o35_x19.toInt < 12 := zi_gef rfl rfl c341
          refine lv_iconst (v := 1) hx hb dX12_readClause_56 (by decide) ?_
          refine lv_goto (tgt := 61) hx hb dX12_readClause_57 (by decide) ?_
          have tf367 : tp_fld (f h0) 28 = o35_x28.toInt := tff_28 hf_o35
          have hFc := tp_fr hD hS hA
          refine va_callv (va_runV (As := [.int 1]) (rest := []) ⟨hx, hb, hml, hown, hts⟩ (t_X12_must l dC dI _ κ τ ν ρ L f hG hT h0 (1) ht_h0 (by first | decide | omega) (by first | (simp only [tf37, tf38, tf36, tf39, tf44, mo_i1, mo_l1]; exact (show (o35_x10.toInt ≤ o35_x11.toInt ∧ o35_x11.toInt ≤ o35_x9.toInt ∧ (o35_x12.toInt = 0 ∨ o35_x10.toInt < o35_x11.toInt) ∧ (o35_x12.toInt = 1 → o35_x11.toInt = o35_x10.toInt + 1 → o35_x13.toInt ≤ 26)) from by have : (1 : Int32).toInt = 1 := rfl; first | omega | decide)) | (rw [tf37, tf38, tf36, tf39, tf44]; exact (show (o35_x10.toInt ≤ o35_x11.toInt ∧ o35_x11.toInt ≤ o35_x9.toInt ∧ (o35_x12.toInt = 0 ∨ o35_x10.toInt < o35_x11.toInt) ∧ (o35_x12.toInt = 1 → o35_x11.toInt = o35_x10.toInt + 1 → o35_x13.toInt ≤ 26)) from by have : (1 : Int32).toInt = 1 := rfl; first | omega | decide)))) (cwV 1 hts gX12_readClause_X12_must rfl rfl rfl ⟨rfl, pd_X12_must⟩ ⟨Nat.le_of_ble_eq_true rfl, Nat.le_of_ble_eq_true rfl⟩) ⟨pz_blind, va_recv hK hP (ci := 12) (q0 := q45) rfl eq45, pz_pre hP hK hD hN⟩ rfl rfl hl.1 rfl (lv_room (Nat.le_of_ble_eq_true rfl)) dX12_readClause_61 ⟨Nat.le_of_ble_eq_true rfl, Nat.le_of_ble_eq_true rfl⟩) hS (fun q _ h => hFc q h) hFc (fun f370 t H1 locs ht hvm hw369 hB hz1 hk1 hS => ?_)
          obtain ⟨hT, hF371, hw369p⟩ := hw369
          have hR := hR.then hF371 (by decide)
          have hP := hB.1; rw [ht] at hP; have hD := tp_ad f370 hD; clear hB hFc hz1 hk1; subst ht; generalize t.heap = H at hP hS ⊢
          obtain ⟨o372_x0, o372_x1, o372_x7, o372_x9, o372_x10, o372_x11, o372_x12, o372_x13, o372_x14, o372_x15, o372_x16, o372_x17, o372_x18, o372_x19, o372_x20, o372_x22, o372_x25, o372_x28, o372_x29, o372_x32, o372_x33, o372_x34, o372_x35, o372_x36, o372_x37, o372_x38, o372_x47, o372_x48, hf_o372, ro372_0, ro372_1, ro372_2, ro372_3, ro372_4, ro372_5, ro372_6, ro372_7, ro372_8, ro372_9, ro372_10, ro372_11, ro372_12, ro372_13⟩ := tpo_13 hT ht_h0
          have tf373 : tp_fld (f370 h0) 10 = o372_x10.toInt := tff_10 hf_o372
          have tf374 : tp_fld (f370 h0) 11 = o372_x11.toInt := tff_11 hf_o372
          have tf375 : tp_fld (f370 h0) 9 = o372_x9.toInt := tff_9 hf_o372
          have tf376 : tp_fld (f370 h0) 12 = o372_x12.toInt := tff_12 hf_o372
          have tf377 : mo_fj (f370 h0) 13 = o372_x13.toInt := tff_13 hf_o372
          have tf378 : tp_fld (f370 h0) 15 = o372_x15.toInt := tff_15 hf_o372
          have tf379 : tp_fld (f370 h0) 19 = o372_x19.toInt := tff_19 hf_o372
          have tf380 : tp_fld (f370 h0) 20 = o372_x20.toInt := tff_20 hf_o372
          have tf381 : tp_fld (f370 h0) 22 = o372_x22.toInt := tff_22 hf_o372
          have tf382 : tp_fld (f370 h0) 28 = o372_x28.toInt := tff_28 hf_o372
          have tk383 : (o372_x10.toInt ≤ o372_x11.toInt ∧ o372_x11.toInt ≤ o372_x9.toInt ∧ (o372_x12.toInt = 0 ∨ o372_x10.toInt < o372_x11.toInt) ∧ (o372_x12.toInt = 1 → o372_x11.toInt = o372_x10.toInt + 1 → o372_x13.toInt ≤ 26)) ∧ (o372_x15.toInt = 0 → o35_x15.toInt = 0 ∧ o35_x11.toInt ≤ o372_x10.toInt ∧ (1 : Int) ≠ 0) ∧ (o372_x15.toInt ≠ 0 → o372_x10.toInt = o35_x10.toInt) ∧ o372_x9.toInt = o35_x9.toInt ∧ o372_x19.toInt = o35_x19.toInt ∧ o372_x20.toInt = o35_x20.toInt ∧ o372_x22.toInt = o35_x22.toInt ∧ o372_x28.toInt = o35_x28.toInt := by have q9 := hw369p; first | (simp only [tf373, tf374, tf375, tf376, tf377, tf378, tf40, tf38, tf37, tf36, tf379, tf41, tf380, tf42, tf381, tf43, tf382, tf367, mo_i1, mo_l1] at q9; exact q9) | (rw [tf373, tf374, tf375, tf376, tf377, tf378, tf40, tf38, tf37, tf36, tf379, tf41, tf380, tf42, tf381, tf43, tf382, tf367] at q9; exact q9)
          refine lv_aload_n hx hb dX12_readClause_64 rfl (lv_at hl 3 rfl) ?_
          obtain ⟨q384, eq384⟩ := tp_pos (tp_in hG ht_h0 (by decide)) hf_o372
          refine va_get (D := (dC, dI)) (ci := 12) (v := .int o372_x15) (C := RX12) (T := TX12) (N := 53) hx hb hts hfX12 hown hK hP q384 eq384 rfl 15 (by decide) (hts (.fieldLink RX12 261 "ColdShipsModel" "bad" "Z") wa_994) (fun _ h9 => h9) rfl dX12_readClause_65 ?_
          refine lv_if_eq (tgt := 72) hx hb dX12_readClause_68 (by decide) (fun c385 => ?_) (fun c385 => ?_)
          · have ic385 : o372_x15.toInt = 0 := zi_eq rfl rfl c385
            refine lv_aload_n hx hb dX12_readClause_72 rfl (lv_at hl 3 rfl) ?_
            refine lv_dup hx hb dX12_readClause_73 rfl ?_
            refine va_get (D := (dC, dI)) (ci := 12) (v := .int o372_x19) (C := RX12) (T := TX12) (N := 53) hx hb hts hfX12 hown hK hP q384 eq384 rfl 19 (by decide) (hts (.fieldLink RX12 391 "ColdShipsModel" "nClauses" "I") wa_987) (fun _ h9 => h9) rfl dX12_readClause_74 ?_
            refine lv_iconst (v := 1) hx hb dX12_readClause_77 (by decide) ?_
            refine lv_iadd hx hb dX12_readClause_78 ?_
            refine lv_topi (fun z386 ez386 => ?_)
            have iz386 : z386.toInt = o372_x19.toInt + 1 := zi_add ez386 rfl rfl (by omega) (by omega)
            refine va_put (D := (dC, dI)) (ci := 12) (v := .int z386) (ty := .int) (C := RX12) (T := TX12) (N := 53) hx hb hts hfX12 tyX12 tyX12_ok nmX12 hown hK hP hD hS q384 eq384 rfl 19 (by decide) (hts (.fieldLink RX12 391 "ColdShipsModel" "nClauses" "I") wa_987) (fun _ h9 => h9) rfl (tyX12_ok 19 (by decide)) rfl rfl (Nat.le_of_ble_eq_true rfl) dX12_readClause_79 (tp_k (.inr (12, [.int o372_x0, .int o372_x1, .ref (ρ h0 2), .ref (ρ h0 3), .ref (ρ h0 4), .ref (ρ h0 5), .ref (ρ h0 6), .int o372_x7, .ref (ρ h0 8), .int o372_x9, .int o372_x10, .int o372_x11, .int o372_x12, .long o372_x13, .int o372_x14, .int o372_x15, .int o372_x16, .int o372_x17, .int o372_x18, .int z386, .int o372_x20, .ref (ρ h0 21), .int o372_x22, .ref (ρ h0 23), .ref (ρ h0 24), .int o372_x25, .ref (ρ h0 26), .ref (ρ h0 27), .int o372_x28, .int o372_x29, .ref (ρ h0 30), .ref (ρ h0 31), .int o372_x32, .long o372_x33, .long o372_x34, .long o372_x35, .int o372_x36, .int o372_x37, .int o372_x38, .ref (ρ h0 39), .ref (ρ h0 40), .ref (ρ h0 41), .ref (ρ h0 42), .ref (ρ h0 43), .ref (ρ h0 44), .ref (ρ h0 45), .ref (ρ h0 46), .int o372_x47, .int o372_x48, .ref (ρ h0 49), .ref (ρ h0 50), .ref (ρ h0 51), .ref (ρ h0 52)])) hD (tp_in hG ht_h0 (by decide)) eq384 (fun f387 H locs hP hD hS g389 k388 => ?_))
            have hT := hT.up ht_h0 g389 k388 ⟨_, _, _, _, _, _, _, _, _, _, _, _, _, _, _, _, _, _, _, _, _, _, _, _, _, _, _, _, rfl, ro372_0, ro372_1, ro372_2, ro372_3, ro372_4, ro372_5, (by omega), ro372_7, ro372_8, ro372_9, ro372_10, ro372_11, ro372_12, ro372_13⟩
            have hR := hR.up ht_h0 (by decide) k388
            refine lv_iload_n hx hb dX12_readClause_82 rfl (lv_at hl 2 rfl) ?_
            refine lv_if_eq (tgt := 126) hx hb dX12_readClause_83 (by decide) (fun c390 => ?_) (fun c390 => ?_)
            · have ic390 : r46.toInt = 0 := zi_eq rfl rfl c390
              refine lv_iload_n hx hb dX12_readClause_126 rfl (lv_at hl 1 rfl) ?_
              refine lv_if_eq (tgt := 143) hx hb dX12_readClause_127 (by decide) (fun c391 => ?_) (fun c391 => ?_)
              · have ic391 : r49.toInt = 0 := zi_eq rfl rfl c391
                have h5 : mo_NC (mo_R g27) (mo_R g30) (mo_R g33) o372_x20.toInt o372_x22.toInt := (by rw [show o372_x20.toInt = o35_x20.toInt by omega, show o372_x22.toInt = o35_x22.toInt by omega]; exact h5)
                refine lv_iconst (v := 5) hx hb dX12_readClause_143 (by decide) ?_
                refine lv_aload_n hx hb dX12_readClause_144 rfl (lv_at hl 3 rfl) ?_
                obtain ⟨q392, eq392⟩ := tp_pos (tp_in hG ht_h0 (by decide)) g389
                refine va_get (D := (dC, dI)) (ci := 12) (v := .int o372_x20) (C := RX12) (T := TX12) (N := 53) hx hb hts hfX12 hown hK hP q392 eq392 rfl 20 (by decide) (hts (.fieldLink RX12 411 "ColdShipsModel" "nPays" "I") wa_988) (fun _ h9 => h9) rfl dX12_readClause_145 ?_
                refine lv_imul hx hb dX12_readClause_148 ?_
                refine lv_topi (fun z393 ez393 => ?_)
                have iz393 : z393.toInt = 5 * o372_x20.toInt := zi_mul ez393 rfl rfl (by omega) (by omega)
                refine lv_istore (lv' := [(4, .int z393), (3, .int r52), (2, .int r49), (1, .int r46), (0, .ref h0)]) hx hb dX12_readClause_149 hl (by decide) rfl (fun ls hl => ?_)
                refine lv_aload_n hx hb dX12_readClause_151 rfl (lv_at hl 4 rfl) ?_
                refine lv_dup hx hb dX12_readClause_152 rfl ?_
                refine va_get (D := (dC, dI)) (ci := 12) (v := .int o372_x20) (C := RX12) (T := TX12) (N := 53) hx hb hts hfX12 hown hK hP q392 eq392 rfl 20 (by decide) (hts (.fieldLink RX12 411 "ColdShipsModel" "nPays" "I") wa_988) (fun _ h9 => h9) rfl dX12_readClause_153 ?_
                refine lv_iconst (v := 1) hx hb dX12_readClause_156 (by decide) ?_
                refine lv_iadd hx hb dX12_readClause_157 ?_
                refine lv_topi (fun z394 ez394 => ?_)
                have iz394 : z394.toInt = o372_x20.toInt + 1 := zi_add ez394 rfl rfl (by omega) (by omega)
                refine va_put (D := (dC, dI)) (ci := 12) (v := .int z394) (ty := .int) (C := RX12) (T := TX12) (N := 53) hx hb hts hfX12 tyX12 tyX12_ok nmX12 hown hK hP hD hS q392 eq392 rfl 20 (by decide) (hts (.fieldLink RX12 411 "ColdShipsModel" "nPays" "I") wa_988) (fun _ h9 => h9) rfl (tyX12_ok 20 (by decide)) rfl rfl (Nat.le_of_ble_eq_true rfl) dX12_readClause_158 (tp_k (.inr (12, [.int o372_x0, .int o372_x1, .ref (ρ h0 2), .ref (ρ h0 3), .ref (ρ h0 4), .ref (ρ h0 5), .ref (ρ h0 6), .int o372_x7, .ref (ρ h0 8), .int o372_x9, .int o372_x10, .int o372_x11, .int o372_x12, .long o372_x13, .int o372_x14, .int o372_x15, .int o372_x16, .int o372_x17, .int o372_x18, .int z386, .int z394, .ref (ρ h0 21), .int o372_x22, .ref (ρ h0 23), .ref (ρ h0 24), .int o372_x25, .ref (ρ h0 26), .ref (ρ h0 27), .int o372_x28, .int o372_x29, .ref (ρ h0 30), .ref (ρ h0 31), .int o372_x32, .long o372_x33, .long o372_x34, .long o372_x35, .int o372_x36, .int o372_x37, .int o372_x38, .ref (ρ h0 39), .ref (ρ h0 40), .ref (ρ h0 41), .ref (ρ h0 42), .ref (ρ h0 43), .ref (ρ h0 44), .ref (ρ h0 45), .ref (ρ h0 46), .int o372_x47, .int o372_x48, .ref (ρ h0 49), .ref (ρ h0 50), .ref (ρ h0 51), .ref (ρ h0 52)])) hD (tp_in hG ht_h0 (by decide)) eq392 (fun f395 H locs hP hD hS g397 k396 => ?_))
                have hT := hT.up ht_h0 g397 k396 ⟨_, _, _, _, _, _, _, _, _, _, _, _, _, _, _, _, _, _, _, _, _, _, _, _, _, _, _, _, rfl, ro372_0, ro372_1, ro372_2, ro372_3, ro372_4, ro372_5, (by omega), (by omega), ro372_8, ro372_9, ro372_10, ro372_11, ro372_12, ro372_13⟩
                have hR := hR.up ht_h0 (by decide) k396
                refine lv_aload_n hx hb dX12_readClause_161 rfl (lv_at hl 4 rfl) ?_
                obtain ⟨q398, eq398⟩ := tp_pos (tp_in hG ht_h0 (by decide)) g397
                refine va_get (D := (dC, dI)) (ci := 12) (v := .ref (ρ h0 21)) (C := RX12) (T := TX12) (N := 53) hx hb hts hfX12 hown hK hP q398 eq398 rfl 21 (by decide) (hts (.fieldLink RX12 34 "ColdShipsModel" "nClause" "[I") wa_156) (fun _ h9 => h9) rfl dX12_readClause_162 ?_
                refine lv_iload hx hb dX12_readClause_165 (lv_at hl 0 rfl) ?_
                refine lv_iload_n hx hb dX12_readClause_167 rfl (lv_at hl 1 rfl) ?_
                refine lv_if_eq (tgt := 175) hx hb dX12_readClause_168 (by decide) (fun c399 => ?_) (fun c399 => ?_)
                · have ic399 : r52.toInt = 0 := zi_eq rfl rfl c399
                  exfalso; omega
                · have ic399 : r52.toInt ≠ 0 := zi_eqf rfl rfl c399
                  refine lv_iconst (v := 0) hx hb dX12_readClause_171 (by decide) ?_
                  refine lv_goto (tgt := 176) hx hb dX12_readClause_172 (by decide) ?_
                  have hf_400 : f370 (ρ h0 21) = .inl (κ 0, 60, .inl g27) := (hF371 _ (by rw [y7]; decide)).trans hf_o26
                  have hf_401 : f387 (ρ h0 21) = .inl (κ 0, 60, .inl g27) := (k388 _ (tp_ne y7 ht_h0 (by decide))).trans hf_400
                  have hf_402 : f395 (ρ h0 21) = .inl (κ 0, 60, .inl g27) := (k396 _ (tp_ne y7 ht_h0 (by decide))).trans hf_401
                  obtain ⟨q403, eq403⟩ := tp_pos (tp_in hG y7 (by decide)) hf_402
                  refine va_iast hx hb hK hP hD hS q403 0 eq403 rfl (vp_in_iff.mpr ⟨by omega, by omega⟩) dX12_readClause_176 (tp_k (.inl (κ 0, 60, .inl (upd g27 z393.toNatClampNeg (0 : Int32)))) hD (tp_in hG y7 (by decide)) eq403 (fun f404 H locs hP hD hS g406 k405 => ?_))
                  have hT := hT.up y7 g406 k405 tp_o51
                  have hR := hR.up y7 (by decide) k405
                  have hU408 : mo_U (mo_R g27) (mo_R (upd g27 z393.toNatClampNeg (0 : Int32))) (5 * o372_x20.toInt) (0) := mo_up (by omega) (show (0 : Int32).toInt = 0 from rfl) (by omega)
                  generalize (upd g27 z393.toNatClampNeg (0 : Int32)) = g407 at g406 hU408
                  refine lv_aload_n hx hb dX12_readClause_177 rfl (lv_at hl 4 rfl) ?_
                  have hf_409 : f404 h0 = .inr (12, [.int o372_x0, .int o372_x1, .ref (ρ h0 2), .ref (ρ h0 3), .ref (ρ h0 4), .ref (ρ h0 5), .ref (ρ h0 6), .int o372_x7, .ref (ρ h0 8), .int o372_x9, .int o372_x10, .int o372_x11, .int o372_x12, .long o372_x13, .int o372_x14, .int o372_x15, .int o372_x16, .int o372_x17, .int o372_x18, .int z386, .int z394, .ref (ρ h0 21), .int o372_x22, .ref (ρ h0 23), .ref (ρ h0 24), .int o372_x25, .ref (ρ h0 26), .ref (ρ h0 27), .int o372_x28, .int o372_x29, .ref (ρ h0 30), .ref (ρ h0 31), .int o372_x32, .long o372_x33, .long o372_x34, .long o372_x35, .int o372_x36, .int o372_x37, .int o372_x38, .ref (ρ h0 39), .ref (ρ h0 40), .ref (ρ h0 41), .ref (ρ h0 42), .ref (ρ h0 43), .ref (ρ h0 44), .ref (ρ h0 45), .ref (ρ h0 46), .int o372_x47, .int o372_x48, .ref (ρ h0 49), .ref (ρ h0 50), .ref (ρ h0 51), .ref (ρ h0 52)]) := (k405 _ (tp_ne ht_h0 y7 (by decide))).trans g397
                  obtain ⟨q410, eq410⟩ := tp_pos (tp_in hG ht_h0 (by decide)) hf_409
                  refine va_get (D := (dC, dI)) (ci := 12) (v := .ref (ρ h0 21)) (C := RX12) (T := TX12) (N := 53) hx hb hts hfX12 hown hK hP q410 eq410 rfl 21 (by decide) (hts (.fieldLink RX12 34 "ColdShipsModel" "nClause" "[I") wa_156) (fun _ h9 => h9) rfl dX12_readClause_178 ?_
                  refine lv_iload hx hb dX12_readClause_181 (lv_at hl 0 rfl) ?_
                  refine lv_iconst (v := 1) hx hb dX12_readClause_183 (by decide) ?_
                  refine lv_iadd hx hb dX12_readClause_184 ?_
                  refine lv_topi (fun z411 ez411 => ?_)
                  have iz411 : z411.toInt = z393.toInt + 1 := zi_add ez411 rfl rfl (by omega) (by omega)
                  refine lv_aload_n hx hb dX12_readClause_185 rfl (lv_at hl 4 rfl) ?_
                  refine va_get (D := (dC, dI)) (ci := 12) (v := .int o372_x22) (C := RX12) (T := TX12) (N := 53) hx hb hts hfX12 hown hK hP q410 eq410 rfl 22 (by decide) (hts (.fieldLink RX12 297 "ColdShipsModel" "nCode" "I") wa_989) (fun _ h9 => h9) rfl dX12_readClause_186 ?_
                  obtain ⟨q412, eq412⟩ := tp_pos (tp_in hG y7 (by decide)) g406
                  refine va_iast hx hb hK hP hD hS q412 0 eq412 rfl (vp_in_iff.mpr ⟨by omega, by omega⟩) dX12_readClause_189 (tp_k (.inl (κ 0, 60, .inl (upd g407 z411.toNatClampNeg o372_x22))) hD (tp_in hG y7 (by decide)) eq412 (fun f413 H locs hP hD hS g415 k414 => ?_))
                  have hT := hT.up y7 g415 k414 tp_o51
                  have hR := hR.up y7 (by decide) k414
                  have hU417 : mo_U (mo_R g407) (mo_R (upd g407 z411.toNatClampNeg o372_x22)) (5 * o372_x20.toInt + 1) (o372_x22.toInt) := mo_up (by omega) (rfl : o372_x22.toInt = _) (by omega)
                  generalize (upd g407 z411.toNatClampNeg o372_x22) = g416 at g415 hU417
                  refine lv_aload_n hx hb dX12_readClause_190 rfl (lv_at hl 4 rfl) ?_
                  refine lv_iconst (v := 0) hx hb dX12_readClause_191 (by decide) ?_
                  have hf_418 : f413 h0 = .inr (12, [.int o372_x0, .int o372_x1, .ref (ρ h0 2), .ref (ρ h0 3), .ref (ρ h0 4), .ref (ρ h0 5), .ref (ρ h0 6), .int o372_x7, .ref (ρ h0 8), .int o372_x9, .int o372_x10, .int o372_x11, .int o372_x12, .long o372_x13, .int o372_x14, .int o372_x15, .int o372_x16, .int o372_x17, .int o372_x18, .int z386, .int z394, .ref (ρ h0 21), .int o372_x22, .ref (ρ h0 23), .ref (ρ h0 24), .int o372_x25, .ref (ρ h0 26), .ref (ρ h0 27), .int o372_x28, .int o372_x29, .ref (ρ h0 30), .ref (ρ h0 31), .int o372_x32, .long o372_x33, .long o372_x34, .long o372_x35, .int o372_x36, .int o372_x37, .int o372_x38, .ref (ρ h0 39), .ref (ρ h0 40), .ref (ρ h0 41), .ref (ρ h0 42), .ref (ρ h0 43), .ref (ρ h0 44), .ref (ρ h0 45), .ref (ρ h0 46), .int o372_x47, .int o372_x48, .ref (ρ h0 49), .ref (ρ h0 50), .ref (ρ h0 51), .ref (ρ h0 52)]) := (k414 _ (tp_ne ht_h0 y7 (by decide))).trans hf_409
                  have tf419 : tp_fld (f413 h0) 22 = o372_x22.toInt := tff_22 hf_418
                  have hf_420 : f370 (ρ h0 23) = .inl (κ 0, 400, .inl g30) := (hF371 _ (by rw [y8]; decide)).trans hf_o29
                  have hf_421 : f387 (ρ h0 23) = .inl (κ 0, 400, .inl g30) := (k388 _ (tp_ne y8 ht_h0 (by decide))).trans hf_420
                  have hf_422 : f395 (ρ h0 23) = .inl (κ 0, 400, .inl g30) := (k396 _ (tp_ne y8 ht_h0 (by decide))).trans hf_421
                  have hf_423 : f404 (ρ h0 23) = .inl (κ 0, 400, .inl g30) := (k405 _ (tp_ne y8 y7 (by decide))).trans hf_422
                  have hf_424 : f413 (ρ h0 23) = .inl (κ 0, 400, .inl g30) := (k414 _ (tp_ne y8 y7 (by decide))).trans hf_423
                  have tf425 : mo_i (f413 (ρ h0 23)) = g30 := tfa_i hf_424
                  have hf_426 : f370 (ρ h0 24) = .inl (κ 0, 400, .inl g33) := (hF371 _ (by rw [y9]; decide)).trans hf_o32
                  have hf_427 : f387 (ρ h0 24) = .inl (κ 0, 400, .inl g33) := (k388 _ (tp_ne y9 ht_h0 (by decide))).trans hf_426
                  have hf_428 : f395 (ρ h0 24) = .inl (κ 0, 400, .inl g33) := (k396 _ (tp_ne y9 ht_h0 (by decide))).trans hf_427
                  have hf_429 : f404 (ρ h0 24) = .inl (κ 0, 400, .inl g33) := (k405 _ (tp_ne y9 y7 (by decide))).trans hf_428
                  have hf_430 : f413 (ρ h0 24) = .inl (κ 0, 400, .inl g33) := (k414 _ (tp_ne y9 y7 (by decide))).trans hf_429
                  have tf431 : mo_i (f413 (ρ h0 24)) = g33 := tfa_i hf_430
                  have tf432 : tp_fld (f413 h0) 9 = o372_x9.toInt := tff_9 hf_418
                  have tf433 : tp_fld (f413 h0) 19 = z386.toInt := tff_19 hf_418
                  have tf434 : tp_fld (f413 h0) 20 = z394.toInt := tff_20 hf_418
                  have tf435 : tp_fld (f413 h0) 10 = o372_x10.toInt := tff_10 hf_418
                  have tf436 : tp_fld (f413 h0) 11 = o372_x11.toInt := tff_11 hf_418
                  have tf437 : tp_fld (f413 h0) 12 = o372_x12.toInt := tff_12 hf_418
                  have tf438 : mo_fj (f413 h0) 13 = o372_x13.toInt := tff_13 hf_418
                  have tf439 : tp_fld (f413 h0) 15 = o372_x15.toInt := tff_15 hf_418
                  obtain ⟨q440, eq440⟩ := tp_pos (tp_in hG ht_h0 (by decide)) hf_418
                  have hFc := tp_fr hD hS hA
                  refine va_callv (va_runV (As := [.int 0]) (rest := []) ⟨hx, hb, hml, hown, hts⟩ (t_X12_readExpression l dC dI _ κ τ ν ρ L f413 hG hT h0 (0) ht_h0 (by first | decide | omega) (by first | (simp only [tf435, tf436, tf432, tf437, tf438, mo_i1, mo_l1]; exact (show (o372_x10.toInt ≤ o372_x11.toInt ∧ o372_x11.toInt ≤ o372_x9.toInt ∧ (o372_x12.toInt = 0 ∨ o372_x10.toInt < o372_x11.toInt) ∧ (o372_x12.toInt = 1 → o372_x11.toInt = o372_x10.toInt + 1 → o372_x13.toInt ≤ 26)) from by have : (0 : Int32).toInt = 0 := rfl; first | omega | decide)) | (rw [tf435, tf436, tf432, tf437, tf438]; exact (show (o372_x10.toInt ≤ o372_x11.toInt ∧ o372_x11.toInt ≤ o372_x9.toInt ∧ (o372_x12.toInt = 0 ∨ o372_x10.toInt < o372_x11.toInt) ∧ (o372_x12.toInt = 1 → o372_x11.toInt = o372_x10.toInt + 1 → o372_x13.toInt ≤ 26)) from by have : (0 : Int32).toInt = 0 := rfl; first | omega | decide))) (by first | (simp only [tf439, mo_i1, mo_l1]; exact (show o372_x15.toInt = 0 from by have : (0 : Int32).toInt = 0 := rfl; first | omega | decide)) | (rw [tf439]; exact (show o372_x15.toInt = 0 from by have : (0 : Int32).toInt = 0 := rfl; first | omega | decide))) (by first | (simp only [tf419, tf435, mo_i1, mo_l1]; exact (show o372_x22.toInt ≤ o372_x10.toInt from by have : (0 : Int32).toInt = 0 := rfl; first | omega | decide)) | (rw [tf419, tf435]; exact (show o372_x22.toInt ≤ o372_x10.toInt from by have : (0 : Int32).toInt = 0 := rfl; first | omega | decide)))) (cwV 1 hts gX12_readClause_X12_readExpression rfl rfl rfl ⟨rfl, pd_X12_readExpression⟩ ⟨Nat.le_of_ble_eq_true rfl, Nat.le_of_ble_eq_true rfl⟩) ⟨pz_blind, va_recv hK hP (ci := 12) (q0 := q440) rfl eq440, pz_pre hP hK hD hN⟩ rfl rfl hl.1 rfl (lv_room (Nat.le_of_ble_eq_true rfl)) dX12_readClause_192 ⟨Nat.le_of_ble_eq_true rfl, Nat.le_of_ble_eq_true rfl⟩) hS (fun q _ h => hFc q h) hFc (fun f443 t H1 locs ht hvm hw442 hB hz1 hk1 hS => ?_)
                  obtain ⟨hT, hF444, hw442p⟩ := hw442
                  have hR := hR.then hF444 (by decide)
                  have hP := hB.1; rw [ht] at hP; have hD := tp_ad f443 hD; clear hB hFc hz1 hk1; subst ht; generalize t.heap = H at hP hS ⊢
                  obtain ⟨o445_x0, o445_x1, o445_x7, o445_x9, o445_x10, o445_x11, o445_x12, o445_x13, o445_x14, o445_x15, o445_x16, o445_x17, o445_x18, o445_x19, o445_x20, o445_x22, o445_x25, o445_x28, o445_x29, o445_x32, o445_x33, o445_x34, o445_x35, o445_x36, o445_x37, o445_x38, o445_x47, o445_x48, hf_o445, ro445_0, ro445_1, ro445_2, ro445_3, ro445_4, ro445_5, ro445_6, ro445_7, ro445_8, ro445_9, ro445_10, ro445_11, ro445_12, ro445_13⟩ := tpo_13 hT ht_h0
                  have tf446 : tp_fld (f443 h0) 10 = o445_x10.toInt := tff_10 hf_o445
                  have tf447 : tp_fld (f443 h0) 11 = o445_x11.toInt := tff_11 hf_o445
                  have tf448 : tp_fld (f443 h0) 9 = o445_x9.toInt := tff_9 hf_o445
                  have tf449 : tp_fld (f443 h0) 12 = o445_x12.toInt := tff_12 hf_o445
                  have tf450 : mo_fj (f443 h0) 13 = o445_x13.toInt := tff_13 hf_o445
                  have tf451 : tp_fld (f443 h0) 22 = o445_x22.toInt := tff_22 hf_o445
                  have tf452 : tp_fld (f443 h0) 15 = o445_x15.toInt := tff_15 hf_o445
                  obtain ⟨g454, hf_o453⟩ := tpo_53 hT y8
                  have tf455 : mo_i (f443 (ρ h0 23)) = g454 := tfa_i hf_o453
                  obtain ⟨g457, hf_o456⟩ := tpo_54 hT y9
                  have tf458 : mo_i (f443 (ρ h0 24)) = g457 := tfa_i hf_o456
                  have tf459 : tp_fld (f443 h0) 19 = o445_x19.toInt := tff_19 hf_o445
                  have tf460 : tp_fld (f443 h0) 20 = o445_x20.toInt := tff_20 hf_o445
                  have tk461 : (o445_x10.toInt ≤ o445_x11.toInt ∧ o445_x11.toInt ≤ o445_x9.toInt ∧ (o445_x12.toInt = 0 ∨ o445_x10.toInt < o445_x11.toInt) ∧ (o445_x12.toInt = 1 → o445_x11.toInt = o445_x10.toInt + 1 → o445_x13.toInt ≤ 26)) ∧ o372_x22.toInt ≤ o445_x22.toInt ∧ (o445_x15.toInt = 0 → o445_x22.toInt ≤ o445_x10.toInt ∧ mo_W2 (mo_R g454) (mo_R g457) o372_x22.toInt o445_x22.toInt ∧ mo_FR o372_x22.toInt (mo_R g30) (mo_R g33) (mo_R g454) (mo_R g457)) ∧ o445_x9.toInt = o372_x9.toInt ∧ o445_x19.toInt = z386.toInt ∧ o445_x20.toInt = z394.toInt := by have q9 := hw442p; first | (simp only [tf446, tf447, tf448, tf449, tf450, tf419, tf451, tf452, tf455, tf458, tf425, tf431, tf432, tf459, tf433, tf460, tf434, mo_i1, mo_l1] at q9; exact q9) | (rw [tf446, tf447, tf448, tf449, tf450, tf419, tf451, tf452, tf455, tf458, tf425, tf431, tf432, tf459, tf433, tf460, tf434] at q9; exact q9)
                  refine lv_aload_n hx hb dX12_readClause_195 rfl (lv_at hl 4 rfl) ?_
                  obtain ⟨q462, eq462⟩ := tp_pos (tp_in hG ht_h0 (by decide)) hf_o445
                  refine va_get (D := (dC, dI)) (ci := 12) (v := .ref (ρ h0 21)) (C := RX12) (T := TX12) (N := 53) hx hb hts hfX12 hown hK hP q462 eq462 rfl 21 (by decide) (hts (.fieldLink RX12 34 "ColdShipsModel" "nClause" "[I") wa_156) (fun _ h9 => h9) rfl dX12_readClause_196 ?_
                  refine lv_iload hx hb dX12_readClause_199 (lv_at hl 0 rfl) ?_
                  refine lv_iconst (v := 2) hx hb dX12_readClause_201 (by decide) ?_
                  refine lv_iadd hx hb dX12_readClause_202 ?_
                  refine lv_topi (fun z463 ez463 => ?_)
                  have iz463 : z463.toInt = z393.toInt + 2 := zi_add ez463 rfl rfl (by omega) (by omega)
                  refine lv_aload_n hx hb dX12_readClause_203 rfl (lv_at hl 4 rfl) ?_
                  refine va_get (D := (dC, dI)) (ci := 12) (v := .int o445_x22) (C := RX12) (T := TX12) (N := 53) hx hb hts hfX12 hown hK hP q462 eq462 rfl 22 (by decide) (hts (.fieldLink RX12 297 "ColdShipsModel" "nCode" "I") wa_989) (fun _ h9 => h9) rfl dX12_readClause_204 ?_
                  have hf_464 : f443 (ρ h0 21) = .inl (κ 0, 60, .inl g416) := (hF444 _ (by rw [y7]; decide)).trans g415
                  obtain ⟨q465, eq465⟩ := tp_pos (tp_in hG y7 (by decide)) hf_464
                  refine va_iast hx hb hK hP hD hS q465 0 eq465 rfl (vp_in_iff.mpr ⟨by omega, by omega⟩) dX12_readClause_207 (tp_k (.inl (κ 0, 60, .inl (upd g416 z463.toNatClampNeg o445_x22))) hD (tp_in hG y7 (by decide)) eq465 (fun f466 H locs hP hD hS g468 k467 => ?_))
                  have hT := hT.up y7 g468 k467 tp_o51
                  have hR := hR.up y7 (by decide) k467
                  have hU470 : mo_U (mo_R g416) (mo_R (upd g416 z463.toNatClampNeg o445_x22)) (5 * o372_x20.toInt + 2) (o445_x22.toInt) := mo_up (by omega) (rfl : o445_x22.toInt = _) (by omega)
                  generalize (upd g416 z463.toNatClampNeg o445_x22) = g469 at g468 hU470
                  refine lv_aload_n hx hb dX12_readClause_208 rfl (lv_at hl 4 rfl) ?_
                  have hf_471 : f466 h0 = .inr (12, [.int o445_x0, .int o445_x1, .ref (ρ h0 2), .ref (ρ h0 3), .ref (ρ h0 4), .ref (ρ h0 5), .ref (ρ h0 6), .int o445_x7, .ref (ρ h0 8), .int o445_x9, .int o445_x10, .int o445_x11, .int o445_x12, .long o445_x13, .int o445_x14, .int o445_x15, .int o445_x16, .int o445_x17, .int o445_x18, .int o445_x19, .int o445_x20, .ref (ρ h0 21), .int o445_x22, .ref (ρ h0 23), .ref (ρ h0 24), .int o445_x25, .ref (ρ h0 26), .ref (ρ h0 27), .int o445_x28, .int o445_x29, .ref (ρ h0 30), .ref (ρ h0 31), .int o445_x32, .long o445_x33, .long o445_x34, .long o445_x35, .int o445_x36, .int o445_x37, .int o445_x38, .ref (ρ h0 39), .ref (ρ h0 40), .ref (ρ h0 41), .ref (ρ h0 42), .ref (ρ h0 43), .ref (ρ h0 44), .ref (ρ h0 45), .ref (ρ h0 46), .int o445_x47, .int o445_x48, .ref (ρ h0 49), .ref (ρ h0 50), .ref (ρ h0 51), .ref (ρ h0 52)]) := (k467 _ (tp_ne ht_h0 y7 (by decide))).trans hf_o445
                  obtain ⟨q472, eq472⟩ := tp_pos (tp_in hG ht_h0 (by decide)) hf_471
                  refine va_get (D := (dC, dI)) (ci := 12) (v := .ref (ρ h0 21)) (C := RX12) (T := TX12) (N := 53) hx hb hts hfX12 hown hK hP q472 eq472 rfl 21 (by decide) (hts (.fieldLink RX12 34 "ColdShipsModel" "nClause" "[I") wa_156) (fun _ h9 => h9) rfl dX12_readClause_209 ?_
                  refine lv_iload hx hb dX12_readClause_212 (lv_at hl 0 rfl) ?_
                  refine lv_iconst (v := 3) hx hb dX12_readClause_214 (by decide) ?_
                  refine lv_iadd hx hb dX12_readClause_215 ?_
                  refine lv_topi (fun z473 ez473 => ?_)
                  have iz473 : z473.toInt = z393.toInt + 3 := zi_add ez473 rfl rfl (by omega) (by omega)
                  refine lv_aload_n hx hb dX12_readClause_216 rfl (lv_at hl 4 rfl) ?_
                  refine va_get (D := (dC, dI)) (ci := 12) (v := .int o445_x22) (C := RX12) (T := TX12) (N := 53) hx hb hts hfX12 hown hK hP q472 eq472 rfl 22 (by decide) (hts (.fieldLink RX12 297 "ColdShipsModel" "nCode" "I") wa_989) (fun _ h9 => h9) rfl dX12_readClause_217 ?_
                  obtain ⟨q474, eq474⟩ := tp_pos (tp_in hG y7 (by decide)) g468
                  refine va_iast hx hb hK hP hD hS q474 0 eq474 rfl (vp_in_iff.mpr ⟨by omega, by omega⟩) dX12_readClause_220 (tp_k (.inl (κ 0, 60, .inl (upd g469 z473.toNatClampNeg o445_x22))) hD (tp_in hG y7 (by decide)) eq474 (fun f475 H locs hP hD hS g477 k476 => ?_))
                  have hT := hT.up y7 g477 k476 tp_o51
                  have hR := hR.up y7 (by decide) k476
                  have hU479 : mo_U (mo_R g469) (mo_R (upd g469 z473.toNatClampNeg o445_x22)) (5 * o372_x20.toInt + 3) (o445_x22.toInt) := mo_up (by omega) (rfl : o445_x22.toInt = _) (by omega)
                  generalize (upd g469 z473.toNatClampNeg o445_x22) = g478 at g477 hU479
                  refine lv_aload_n hx hb dX12_readClause_221 rfl (lv_at hl 4 rfl) ?_
                  have hf_480 : f475 h0 = .inr (12, [.int o445_x0, .int o445_x1, .ref (ρ h0 2), .ref (ρ h0 3), .ref (ρ h0 4), .ref (ρ h0 5), .ref (ρ h0 6), .int o445_x7, .ref (ρ h0 8), .int o445_x9, .int o445_x10, .int o445_x11, .int o445_x12, .long o445_x13, .int o445_x14, .int o445_x15, .int o445_x16, .int o445_x17, .int o445_x18, .int o445_x19, .int o445_x20, .ref (ρ h0 21), .int o445_x22, .ref (ρ h0 23), .ref (ρ h0 24), .int o445_x25, .ref (ρ h0 26), .ref (ρ h0 27), .int o445_x28, .int o445_x29, .ref (ρ h0 30), .ref (ρ h0 31), .int o445_x32, .long o445_x33, .long o445_x34, .long o445_x35, .int o445_x36, .int o445_x37, .int o445_x38, .ref (ρ h0 39), .ref (ρ h0 40), .ref (ρ h0 41), .ref (ρ h0 42), .ref (ρ h0 43), .ref (ρ h0 44), .ref (ρ h0 45), .ref (ρ h0 46), .int o445_x47, .int o445_x48, .ref (ρ h0 49), .ref (ρ h0 50), .ref (ρ h0 51), .ref (ρ h0 52)]) := (k476 _ (tp_ne ht_h0 y7 (by decide))).trans hf_471
                  obtain ⟨q481, eq481⟩ := tp_pos (tp_in hG ht_h0 (by decide)) hf_480
                  refine va_get (D := (dC, dI)) (ci := 12) (v := .int o445_x15) (C := RX12) (T := TX12) (N := 53) hx hb hts hfX12 hown hK hP q481 eq481 rfl 15 (by decide) (hts (.fieldLink RX12 261 "ColdShipsModel" "bad" "Z") wa_994) (fun _ h9 => h9) rfl dX12_readClause_222 ?_
                  refine lv_if_ne (tgt := 247) hx hb dX12_readClause_225 (by decide) (fun c482 => ?_) (fun c482 => ?_)
                  · have ic482 : o445_x15.toInt ≠ 0 := zi_ne rfl rfl c482
                    refine lv_aload_n hx hb dX12_readClause_247 rfl (lv_at hl 4 rfl) ?_
                    refine va_get (D := (dC, dI)) (ci := 12) (v := .ref (ρ h0 21)) (C := RX12) (T := TX12) (N := 53) hx hb hts hfX12 hown hK hP q481 eq481 rfl 21 (by decide) (hts (.fieldLink RX12 34 "ColdShipsModel" "nClause" "[I") wa_156) (fun _ h9 => h9) rfl dX12_readClause_248 ?_
                    refine lv_iload hx hb dX12_readClause_251 (lv_at hl 0 rfl) ?_
                    refine lv_iconst (v := 4) hx hb dX12_readClause_253 (by decide) ?_
                    refine lv_iadd hx hb dX12_readClause_254 ?_
                    refine lv_topi (fun z483 ez483 => ?_)
                    have iz483 : z483.toInt = z393.toInt + 4 := zi_add ez483 rfl rfl (by omega) (by omega)
                    refine lv_aload_n hx hb dX12_readClause_255 rfl (lv_at hl 4 rfl) ?_
                    refine va_get (D := (dC, dI)) (ci := 12) (v := .int o445_x22) (C := RX12) (T := TX12) (N := 53) hx hb hts hfX12 hown hK hP q481 eq481 rfl 22 (by decide) (hts (.fieldLink RX12 297 "ColdShipsModel" "nCode" "I") wa_989) (fun _ h9 => h9) rfl dX12_readClause_256 ?_
                    obtain ⟨q484, eq484⟩ := tp_pos (tp_in hG y7 (by decide)) g477
                    refine va_iast hx hb hK hP hD hS q484 0 eq484 rfl (vp_in_iff.mpr ⟨by omega, by omega⟩) dX12_readClause_259 (tp_k (.inl (κ 0, 60, .inl (upd g478 z483.toNatClampNeg o445_x22))) hD (tp_in hG y7 (by decide)) eq484 (fun f485 H locs hP hD hS g487 k486 => ?_))
                    have hT := hT.up y7 g487 k486 tp_o51
                    have hR := hR.up y7 (by decide) k486
                    have hU489 : mo_U (mo_R g478) (mo_R (upd g478 z483.toNatClampNeg o445_x22)) (5 * o372_x20.toInt + 4) (o445_x22.toInt) := mo_up (by omega) (rfl : o445_x22.toInt = _) (by omega)
                    generalize (upd g478 z483.toNatClampNeg o445_x22) = g488 at g487 hU489
                    have hf_490 : f485 h0 = .inr (12, [.int o445_x0, .int o445_x1, .ref (ρ h0 2), .ref (ρ h0 3), .ref (ρ h0 4), .ref (ρ h0 5), .ref (ρ h0 6), .int o445_x7, .ref (ρ h0 8), .int o445_x9, .int o445_x10, .int o445_x11, .int o445_x12, .long o445_x13, .int o445_x14, .int o445_x15, .int o445_x16, .int o445_x17, .int o445_x18, .int o445_x19, .int o445_x20, .ref (ρ h0 21), .int o445_x22, .ref (ρ h0 23), .ref (ρ h0 24), .int o445_x25, .ref (ρ h0 26), .ref (ρ h0 27), .int o445_x28, .int o445_x29, .ref (ρ h0 30), .ref (ρ h0 31), .int o445_x32, .long o445_x33, .long o445_x34, .long o445_x35, .int o445_x36, .int o445_x37, .int o445_x38, .ref (ρ h0 39), .ref (ρ h0 40), .ref (ρ h0 41), .ref (ρ h0 42), .ref (ρ h0 43), .ref (ρ h0 44), .ref (ρ h0 45), .ref (ρ h0 46), .int o445_x47, .int o445_x48, .ref (ρ h0 49), .ref (ρ h0 50), .ref (ρ h0 51), .ref (ρ h0 52)]) := (k486 _ (tp_ne ht_h0 y7 (by decide))).trans hf_480
                    have tf491 : tp_fld (f485 h0) 10 = o445_x10.toInt := tff_10 hf_490
                    have tf492 : tp_fld (f485 h0) 11 = o445_x11.toInt := tff_11 hf_490
                    have tf493 : tp_fld (f485 h0) 9 = o445_x9.toInt := tff_9 hf_490
                    have tf494 : tp_fld (f485 h0) 12 = o445_x12.toInt := tff_12 hf_490
                    have tf495 : mo_fj (f485 h0) 13 = o445_x13.toInt := tff_13 hf_490
                    have tf496 : tp_fld (f485 h0) 15 = o445_x15.toInt := tff_15 hf_490
                    have tf497 : tp_fld (f485 h0) 22 = o445_x22.toInt := tff_22 hf_490
                    have tf498 : tp_fld (f485 h0) 20 = o445_x20.toInt := tff_20 hf_490
                    have tf499 : tp_fld (f485 h0) 19 = o445_x19.toInt := tff_19 hf_490
                    have tf500 : mo_i (f485 (ρ h0 21)) = g488 := tfa_i g487
                    have hf_501 : f466 (ρ h0 23) = .inl (κ 0, 400, .inl g454) := (k467 _ (tp_ne y8 y7 (by decide))).trans hf_o453
                    have hf_502 : f475 (ρ h0 23) = .inl (κ 0, 400, .inl g454) := (k476 _ (tp_ne y8 y7 (by decide))).trans hf_501
                    have hf_503 : f485 (ρ h0 23) = .inl (κ 0, 400, .inl g454) := (k486 _ (tp_ne y8 y7 (by decide))).trans hf_502
                    have tf504 : mo_i (f485 (ρ h0 23)) = g454 := tfa_i hf_503
                    have hf_505 : f466 (ρ h0 24) = .inl (κ 0, 400, .inl g457) := (k467 _ (tp_ne y9 y7 (by decide))).trans hf_o456
                    have hf_506 : f475 (ρ h0 24) = .inl (κ 0, 400, .inl g457) := (k476 _ (tp_ne y9 y7 (by decide))).trans hf_505
                    have hf_507 : f485 (ρ h0 24) = .inl (κ 0, 400, .inl g457) := (k486 _ (tp_ne y9 y7 (by decide))).trans hf_506
                    have tf508 : mo_i (f485 (ρ h0 24)) = g457 := tfa_i hf_507
                    exact W.vret hx hb hr (fun t ht hW => ⟨⟨f485, rfl, ⟨hT, hR, (by first | (simp only [tf491, tf492, tf493, tf494, tf495, tf496, tf497, tf498, tf499, tf500, tf504, tf508, tf36, mo_i1, mo_l1]; exact (show (o445_x10.toInt ≤ o445_x11.toInt ∧ o445_x11.toInt ≤ o445_x9.toInt ∧ (o445_x12.toInt = 0 ∨ o445_x10.toInt < o445_x11.toInt) ∧ (o445_x12.toInt = 1 → o445_x11.toInt = o445_x10.toInt + 1 → o445_x13.toInt ≤ 26)) ∧ (o445_x15.toInt = 0 → o445_x22.toInt ≤ o445_x10.toInt ∧ o445_x20.toInt ≤ o445_x19.toInt ∧ mo_NC (mo_R g488) (mo_R g454) (mo_R g457) o445_x20.toInt o445_x22.toInt) ∧ o445_x9.toInt = o35_x9.toInt from ⟨by omega, fun q9 => by exfalso; omega, by omega⟩)) | (rw [tf491, tf492, tf493, tf494, tf495, tf496, tf497, tf498, tf499, tf500, tf504, tf508, tf36]; exact (show (o445_x10.toInt ≤ o445_x11.toInt ∧ o445_x11.toInt ≤ o445_x9.toInt ∧ (o445_x12.toInt = 0 ∨ o445_x10.toInt < o445_x11.toInt) ∧ (o445_x12.toInt = 1 → o445_x11.toInt = o445_x10.toInt + 1 → o445_x13.toInt ≤ 26)) ∧ (o445_x15.toInt = 0 → o445_x22.toInt ≤ o445_x10.toInt ∧ o445_x20.toInt ≤ o445_x19.toInt ∧ mo_NC (mo_R g488) (mo_R g454) (mo_R g457) o445_x20.toInt o445_x22.toInt) ∧ o445_x9.toInt = o35_x9.toInt from ⟨by omega, fun q9 => by exfalso; omega, by omega⟩)))⟩, by rw [ht]; exact hP, va_K.moved hW.alike hK, hD⟩, hS.F ht⟩) hS.2.2 dX12_readClause_260
                  · have ic482 : o445_x15.toInt = 0 := zi_nef rfl rfl c482
                    refine lv_aload_n hx hb dX12_readClause_228 rfl (lv_at hl 4 rfl) ?_
                    refine lv_ldc2 (own := RX12) (v := 294) hx hb hown (hts (.constantLong RX12 417 (294)) wa_1028) dX12_readClause_229 ?_
                    have tf509 : tp_fld (f475 h0) 12 = o445_x12.toInt := tff_12 hf_480
                    have tf510 : mo_fj (f475 h0) 13 = o445_x13.toInt := tff_13 hf_480
                    refine pz_calli (va_runV (As := [.long 294]) (rest := []) ⟨hx, hb, hml, hown, hts⟩ (t_X12_isWord l dC dI _ κ τ ν ρ L f475 hG hT h0 (294) ht_h0) (cwV 1 hts gX12_readClause_X12_isWord rfl rfl rfl ⟨rfl, pd_X12_isWord⟩ ⟨Nat.le_of_ble_eq_true rfl, Nat.le_of_ble_eq_true rfl⟩) ⟨pz_blind, va_recv hK hP (ci := 12) (q0 := q481) rfl eq481, pz_pre hP hK hD hN⟩ rfl rfl hl.1 rfl (lv_room (Nat.le_of_ble_eq_true rfl)) dX12_readClause_232 ⟨Nat.le_of_ble_eq_true rfl, Nat.le_of_ble_eq_true rfl⟩) (fun r511 hw512 => ?_)
                    obtain ⟨hw512r, hw512p⟩ := hw512
                    have tk513 : (r511.toInt ≠ 0 → o445_x12.toInt = 1 ∧ o445_x13.toInt = (294 : Int)) := by have q9 := hw512p; first | (simp only [tf509, tf510, mo_i1, mo_l1] at q9; exact q9) | (rw [tf509, tf510] at q9; exact q9)
                    refine lv_if_eq (tgt := 247) hx hb dX12_readClause_235 (by decide) (fun c514 => ?_) (fun c514 => ?_)
                    · have ic514 : r511.toInt = 0 := zi_eq rfl rfl c514
                      refine lv_aload_n hx hb dX12_readClause_247 rfl (lv_at hl 4 rfl) ?_
                      refine va_get (D := (dC, dI)) (ci := 12) (v := .ref (ρ h0 21)) (C := RX12) (T := TX12) (N := 53) hx hb hts hfX12 hown hK hP q481 eq481 rfl 21 (by decide) (hts (.fieldLink RX12 34 "ColdShipsModel" "nClause" "[I") wa_156) (fun _ h9 => h9) rfl dX12_readClause_248 ?_
                      refine lv_iload hx hb dX12_readClause_251 (lv_at hl 0 rfl) ?_
                      refine lv_iconst (v := 4) hx hb dX12_readClause_253 (by decide) ?_
                      refine lv_iadd hx hb dX12_readClause_254 ?_
                      refine lv_topi (fun z515 ez515 => ?_)
                      have iz515 : z515.toInt = z393.toInt + 4 := zi_add ez515 rfl rfl (by omega) (by omega)
                      refine lv_aload_n hx hb dX12_readClause_255 rfl (lv_at hl 4 rfl) ?_
                      refine va_get (D := (dC, dI)) (ci := 12) (v := .int o445_x22) (C := RX12) (T := TX12) (N := 53) hx hb hts hfX12 hown hK hP q481 eq481 rfl 22 (by decide) (hts (.fieldLink RX12 297 "ColdShipsModel" "nCode" "I") wa_989) (fun _ h9 => h9) rfl dX12_readClause_256 ?_
                      obtain ⟨q516, eq516⟩ := tp_pos (tp_in hG y7 (by decide)) g477
                      refine va_iast hx hb hK hP hD hS q516 0 eq516 rfl (vp_in_iff.mpr ⟨by omega, by omega⟩) dX12_readClause_259 (tp_k (.inl (κ 0, 60, .inl (upd g478 z515.toNatClampNeg o445_x22))) hD (tp_in hG y7 (by decide)) eq516 (fun f517 H locs hP hD hS g519 k518 => ?_))
                      have hT := hT.up y7 g519 k518 tp_o51
                      have hR := hR.up y7 (by decide) k518
                      have hU521 : mo_U (mo_R g478) (mo_R (upd g478 z515.toNatClampNeg o445_x22)) (5 * o372_x20.toInt + 4) (o445_x22.toInt) := mo_up (by omega) (rfl : o445_x22.toInt = _) (by omega)
                      generalize (upd g478 z515.toNatClampNeg o445_x22) = g520 at g519 hU521
                      have hf_522 : f517 h0 = .inr (12, [.int o445_x0, .int o445_x1, .ref (ρ h0 2), .ref (ρ h0 3), .ref (ρ h0 4), .ref (ρ h0 5), .ref (ρ h0 6), .int o445_x7, .ref (ρ h0 8), .int o445_x9, .int o445_x10, .int o445_x11, .int o445_x12, .long o445_x13, .int o445_x14, .int o445_x15, .int o445_x16, .int o445_x17, .int o445_x18, .int o445_x19, .int o445_x20, .ref (ρ h0 21), .int o445_x22, .ref (ρ h0 23), .ref (ρ h0 24), .int o445_x25, .ref (ρ h0 26), .ref (ρ h0 27), .int o445_x28, .int o445_x29, .ref (ρ h0 30), .ref (ρ h0 31), .int o445_x32, .long o445_x33, .long o445_x34, .long o445_x35, .int o445_x36, .int o445_x37, .int o445_x38, .ref (ρ h0 39), .ref (ρ h0 40), .ref (ρ h0 41), .ref (ρ h0 42), .ref (ρ h0 43), .ref (ρ h0 44), .ref (ρ h0 45), .ref (ρ h0 46), .int o445_x47, .int o445_x48, .ref (ρ h0 49), .ref (ρ h0 50), .ref (ρ h0 51), .ref (ρ h0 52)]) := (k518 _ (tp_ne ht_h0 y7 (by decide))).trans hf_480
                      have tf523 : tp_fld (f517 h0) 10 = o445_x10.toInt := tff_10 hf_522
                      have tf524 : tp_fld (f517 h0) 11 = o445_x11.toInt := tff_11 hf_522
                      have tf525 : tp_fld (f517 h0) 9 = o445_x9.toInt := tff_9 hf_522
                      have tf526 : tp_fld (f517 h0) 12 = o445_x12.toInt := tff_12 hf_522
                      have tf527 : mo_fj (f517 h0) 13 = o445_x13.toInt := tff_13 hf_522
                      have tf528 : tp_fld (f517 h0) 15 = o445_x15.toInt := tff_15 hf_522
                      have tf529 : tp_fld (f517 h0) 22 = o445_x22.toInt := tff_22 hf_522
                      have tf530 : tp_fld (f517 h0) 20 = o445_x20.toInt := tff_20 hf_522
                      have tf531 : tp_fld (f517 h0) 19 = o445_x19.toInt := tff_19 hf_522
                      have tf532 : mo_i (f517 (ρ h0 21)) = g520 := tfa_i g519
                      have hf_533 : f466 (ρ h0 23) = .inl (κ 0, 400, .inl g454) := (k467 _ (tp_ne y8 y7 (by decide))).trans hf_o453
                      have hf_534 : f475 (ρ h0 23) = .inl (κ 0, 400, .inl g454) := (k476 _ (tp_ne y8 y7 (by decide))).trans hf_533
                      have hf_535 : f517 (ρ h0 23) = .inl (κ 0, 400, .inl g454) := (k518 _ (tp_ne y8 y7 (by decide))).trans hf_534
                      have tf536 : mo_i (f517 (ρ h0 23)) = g454 := tfa_i hf_535
                      have hf_537 : f466 (ρ h0 24) = .inl (κ 0, 400, .inl g457) := (k467 _ (tp_ne y9 y7 (by decide))).trans hf_o456
                      have hf_538 : f475 (ρ h0 24) = .inl (κ 0, 400, .inl g457) := (k476 _ (tp_ne y9 y7 (by decide))).trans hf_537
                      have hf_539 : f517 (ρ h0 24) = .inl (κ 0, 400, .inl g457) := (k518 _ (tp_ne y9 y7 (by decide))).trans hf_538
                      have tf540 : mo_i (f517 (ρ h0 24)) = g457 := tfa_i hf_539
                      exact W.vret hx hb hr (fun t ht hW => ⟨⟨f517, rfl, ⟨hT, hR, (by first | (simp only [tf523, tf524, tf525, tf526, tf527, tf528, tf529, tf530, tf531, tf532, tf536, tf540, tf36, mo_i1, mo_l1]; exact (show (o445_x10.toInt ≤ o445_x11.toInt ∧ o445_x11.toInt ≤ o445_x9.toInt ∧ (o445_x12.toInt = 0 ∨ o445_x10.toInt < o445_x11.toInt) ∧ (o445_x12.toInt = 1 → o445_x11.toInt = o445_x10.toInt + 1 → o445_x13.toInt ≤ 26)) ∧ (o445_x15.toInt = 0 → o445_x22.toInt ≤ o445_x10.toInt ∧ o445_x20.toInt ≤ o445_x19.toInt ∧ mo_NC (mo_R g520) (mo_R g454) (mo_R g457) o445_x20.toInt o445_x22.toInt) ∧ o445_x9.toInt = o35_x9.toInt from ⟨by omega, fun q9 => ⟨by omega, by omega, h5.add (by omega) (by omega) hU408 hU417 hU470 hU479 hU521 ((tk461.2.2.1 (by omega)).2.2) ((tk461.2.2.1 (by omega)).2.1) (mo_W2.rf _ _ (by omega)) (by omega) (by omega) (by omega)⟩, by omega⟩)) | (rw [tf523, tf524, tf525, tf526, tf527, tf528, tf529, tf530, tf531, tf532, tf536, tf540, tf36]; exact (show (o445_x10.toInt ≤ o445_x11.toInt ∧ o445_x11.toInt ≤ o445_x9.toInt ∧ (o445_x12.toInt = 0 ∨ o445_x10.toInt < o445_x11.toInt) ∧ (o445_x12.toInt = 1 → o445_x11.toInt = o445_x10.toInt + 1 → o445_x13.toInt ≤ 26)) ∧ (o445_x15.toInt = 0 → o445_x22.toInt ≤ o445_x10.toInt ∧ o445_x20.toInt ≤ o445_x19.toInt ∧ mo_NC (mo_R g520) (mo_R g454) (mo_R g457) o445_x20.toInt o445_x22.toInt) ∧ o445_x9.toInt = o35_x9.toInt from ⟨by omega, fun q9 => ⟨by omega, by omega, h5.add (by omega) (by omega) hU408 hU417 hU470 hU479 hU521 ((tk461.2.2.1 (by omega)).2.2) ((tk461.2.2.1 (by omega)).2.1) (mo_W2.rf _ _ (by omega)) (by omega) (by omega) (by omega)⟩, by omega⟩)))⟩, by rw [ht]; exact hP, va_K.moved hW.alike hK, hD⟩, hS.F ht⟩) hS.2.2 dX12_readClause_260
                    · have ic514 : r511.toInt ≠ 0 := zi_eqf rfl rfl c514
                      refine lv_aload_n hx hb dX12_readClause_238 rfl (lv_at hl 4 rfl) ?_
                      have tf541 : tp_fld (f475 h0) 11 = o445_x11.toInt := tff_11 hf_480
                      have tf542 : tp_fld (f475 h0) 9 = o445_x9.toInt := tff_9 hf_480
                      have tf543 : tp_fld (f475 h0) 15 = o445_x15.toInt := tff_15 hf_480
                      have tf544 : tp_fld (f475 h0) 19 = o445_x19.toInt := tff_19 hf_480
                      have tf545 : tp_fld (f475 h0) 20 = o445_x20.toInt := tff_20 hf_480
                      have tf546 : tp_fld (f475 h0) 22 = o445_x22.toInt := tff_22 hf_480
                      have tf547 : tp_fld (f475 h0) 28 = o445_x28.toInt := tff_28 hf_480
                      have hFc := tp_fr hD hS hA
                      refine va_callv (va_runV (As := []) (rest := []) ⟨hx, hb, hml, hown, hts⟩ (t_X12_next l dC dI _ κ τ ν ρ L f475 hG hT h0 ht_h0 (by first | (simp only [tf541, tf542, mo_i1, mo_l1]; exact (show o445_x11.toInt ≤ o445_x9.toInt from by first | omega | decide)) | (rw [tf541, tf542]; exact (show o445_x11.toInt ≤ o445_x9.toInt from by first | omega | decide)))) (cwV 0 hts gX12_readClause_X12_next rfl rfl rfl ⟨rfl, pd_X12_next⟩ ⟨Nat.le_of_ble_eq_true rfl, Nat.le_of_ble_eq_true rfl⟩) ⟨pz_blind, va_recv hK hP (ci := 12) (q0 := q481) rfl eq481, pz_pre hP hK hD hN⟩ rfl rfl hl.1 rfl (lv_room (Nat.le_of_ble_eq_true rfl)) dX12_readClause_239 ⟨Nat.le_of_ble_eq_true rfl, Nat.le_of_ble_eq_true rfl⟩) hS (fun q _ h => hFc q h) hFc (fun f550 t H1 locs ht hvm hw549 hB hz1 hk1 hS => ?_)
                      obtain ⟨hT, hF551, hw549p⟩ := hw549
                      have hR := hR.then hF551 (by decide)
                      have hP := hB.1; rw [ht] at hP; have hD := tp_ad f550 hD; clear hB hFc hz1 hk1; subst ht; generalize t.heap = H at hP hS ⊢
                      obtain ⟨o552_x0, o552_x1, o552_x7, o552_x9, o552_x10, o552_x11, o552_x12, o552_x13, o552_x14, o552_x15, o552_x16, o552_x17, o552_x18, o552_x19, o552_x20, o552_x22, o552_x25, o552_x28, o552_x29, o552_x32, o552_x33, o552_x34, o552_x35, o552_x36, o552_x37, o552_x38, o552_x47, o552_x48, hf_o552, ro552_0, ro552_1, ro552_2, ro552_3, ro552_4, ro552_5, ro552_6, ro552_7, ro552_8, ro552_9, ro552_10, ro552_11, ro552_12, ro552_13⟩ := tpo_13 hT ht_h0
                      have tf553 : tp_fld (f550 h0) 10 = o552_x10.toInt := tff_10 hf_o552
                      have tf554 : tp_fld (f550 h0) 11 = o552_x11.toInt := tff_11 hf_o552
                      have tf555 : tp_fld (f550 h0) 9 = o552_x9.toInt := tff_9 hf_o552
                      have tf556 : tp_fld (f550 h0) 12 = o552_x12.toInt := tff_12 hf_o552
                      have tf557 : mo_fj (f550 h0) 13 = o552_x13.toInt := tff_13 hf_o552
                      have tf558 : tp_fld (f550 h0) 15 = o552_x15.toInt := tff_15 hf_o552
                      have tf559 : tp_fld (f550 h0) 19 = o552_x19.toInt := tff_19 hf_o552
                      have tf560 : tp_fld (f550 h0) 20 = o552_x20.toInt := tff_20 hf_o552
                      have tf561 : tp_fld (f550 h0) 22 = o552_x22.toInt := tff_22 hf_o552
                      have tf562 : tp_fld (f550 h0) 28 = o552_x28.toInt := tff_28 hf_o552
                      have tk563 : (o552_x10.toInt ≤ o552_x11.toInt ∧ o552_x11.toInt ≤ o552_x9.toInt ∧ (o552_x12.toInt = 0 ∨ o552_x10.toInt < o552_x11.toInt) ∧ (o552_x12.toInt = 1 → o552_x11.toInt = o552_x10.toInt + 1 → o552_x13.toInt ≤ 26)) ∧ o445_x11.toInt ≤ o552_x10.toInt ∧ o552_x9.toInt = o445_x9.toInt ∧ o552_x15.toInt = o445_x15.toInt ∧ o552_x19.toInt = o445_x19.toInt ∧ o552_x20.toInt = o445_x20.toInt ∧ o552_x22.toInt = o445_x22.toInt ∧ o552_x28.toInt = o445_x28.toInt := by have q9 := hw549p; first | (simp only [tf553, tf554, tf555, tf556, tf557, tf541, tf542, tf558, tf543, tf559, tf544, tf560, tf545, tf561, tf546, tf562, tf547, mo_i1, mo_l1] at q9; exact q9) | (rw [tf553, tf554, tf555, tf556, tf557, tf541, tf542, tf558, tf543, tf559, tf544, tf560, tf545, tf561, tf546, tf562, tf547] at q9; exact q9)
                      refine lv_aload_n hx hb dX12_readClause_242 rfl (lv_at hl 4 rfl) ?_
                      refine lv_iconst (v := 1) hx hb dX12_readClause_243 (by decide) ?_
                      have hf_564 : f466 (ρ h0 23) = .inl (κ 0, 400, .inl g454) := (k467 _ (tp_ne y8 y7 (by decide))).trans hf_o453
                      have hf_565 : f475 (ρ h0 23) = .inl (κ 0, 400, .inl g454) := (k476 _ (tp_ne y8 y7 (by decide))).trans hf_564
                      have hf_566 : f550 (ρ h0 23) = .inl (κ 0, 400, .inl g454) := (hF551 _ (by rw [y8]; decide)).trans hf_565
                      have tf567 : mo_i (f550 (ρ h0 23)) = g454 := tfa_i hf_566
                      have hf_568 : f466 (ρ h0 24) = .inl (κ 0, 400, .inl g457) := (k467 _ (tp_ne y9 y7 (by decide))).trans hf_o456
                      have hf_569 : f475 (ρ h0 24) = .inl (κ 0, 400, .inl g457) := (k476 _ (tp_ne y9 y7 (by decide))).trans hf_568
                      have hf_570 : f550 (ρ h0 24) = .inl (κ 0, 400, .inl g457) := (hF551 _ (by rw [y9]; decide)).trans hf_569
                      have tf571 : mo_i (f550 (ρ h0 24)) = g457 := tfa_i hf_570
                      obtain ⟨q572, eq572⟩ := tp_pos (tp_in hG ht_h0 (by decide)) hf_o552
                      have hFc := tp_fr hD hS hA
                      refine va_callv (va_runV (As := [.int 1]) (rest := []) ⟨hx, hb, hml, hown, hts⟩ (t_X12_readExpression l dC dI _ κ τ ν ρ L f550 hG hT h0 (1) ht_h0 (by first | decide | omega) (by first | (simp only [tf553, tf554, tf555, tf556, tf557, mo_i1, mo_l1]; exact (show (o552_x10.toInt ≤ o552_x11.toInt ∧ o552_x11.toInt ≤ o552_x9.toInt ∧ (o552_x12.toInt = 0 ∨ o552_x10.toInt < o552_x11.toInt) ∧ (o552_x12.toInt = 1 → o552_x11.toInt = o552_x10.toInt + 1 → o552_x13.toInt ≤ 26)) from by have : (1 : Int32).toInt = 1 := rfl; first | omega | decide)) | (rw [tf553, tf554, tf555, tf556, tf557]; exact (show (o552_x10.toInt ≤ o552_x11.toInt ∧ o552_x11.toInt ≤ o552_x9.toInt ∧ (o552_x12.toInt = 0 ∨ o552_x10.toInt < o552_x11.toInt) ∧ (o552_x12.toInt = 1 → o552_x11.toInt = o552_x10.toInt + 1 → o552_x13.toInt ≤ 26)) from by have : (1 : Int32).toInt = 1 := rfl; first | omega | decide))) (by first | (simp only [tf558, mo_i1, mo_l1]; exact (show o552_x15.toInt = 0 from by have : (1 : Int32).toInt = 1 := rfl; first | omega | decide)) | (rw [tf558]; exact (show o552_x15.toInt = 0 from by have : (1 : Int32).toInt = 1 := rfl; first | omega | decide))) (by first | (simp only [tf561, tf553, mo_i1, mo_l1]; exact (show o552_x22.toInt ≤ o552_x10.toInt from by have : (1 : Int32).toInt = 1 := rfl; first | omega | decide)) | (rw [tf561, tf553]; exact (show o552_x22.toInt ≤ o552_x10.toInt from by have : (1 : Int32).toInt = 1 := rfl; first | omega | decide)))) (cwV 1 hts gX12_readClause_X12_readExpression rfl rfl rfl ⟨rfl, pd_X12_readExpression⟩ ⟨Nat.le_of_ble_eq_true rfl, Nat.le_of_ble_eq_true rfl⟩) ⟨pz_blind, va_recv hK hP (ci := 12) (q0 := q572) rfl eq572, pz_pre hP hK hD hN⟩ rfl rfl hl.1 rfl (lv_room (Nat.le_of_ble_eq_true rfl)) dX12_readClause_244 ⟨Nat.le_of_ble_eq_true rfl, Nat.le_of_ble_eq_true rfl⟩) hS (fun q _ h => hFc q h) hFc (fun f575 t H1 locs ht hvm hw574 hB hz1 hk1 hS => ?_)
                      obtain ⟨hT, hF576, hw574p⟩ := hw574
                      have hR := hR.then hF576 (by decide)
                      have hP := hB.1; rw [ht] at hP; have hD := tp_ad f575 hD; clear hB hFc hz1 hk1; subst ht; generalize t.heap = H at hP hS ⊢
                      obtain ⟨o577_x0, o577_x1, o577_x7, o577_x9, o577_x10, o577_x11, o577_x12, o577_x13, o577_x14, o577_x15, o577_x16, o577_x17, o577_x18, o577_x19, o577_x20, o577_x22, o577_x25, o577_x28, o577_x29, o577_x32, o577_x33, o577_x34, o577_x35, o577_x36, o577_x37, o577_x38, o577_x47, o577_x48, hf_o577, ro577_0, ro577_1, ro577_2, ro577_3, ro577_4, ro577_5, ro577_6, ro577_7, ro577_8, ro577_9, ro577_10, ro577_11, ro577_12, ro577_13⟩ := tpo_13 hT ht_h0
                      have tf578 : tp_fld (f575 h0) 10 = o577_x10.toInt := tff_10 hf_o577
                      have tf579 : tp_fld (f575 h0) 11 = o577_x11.toInt := tff_11 hf_o577
                      have tf580 : tp_fld (f575 h0) 9 = o577_x9.toInt := tff_9 hf_o577
                      have tf581 : tp_fld (f575 h0) 12 = o577_x12.toInt := tff_12 hf_o577
                      have tf582 : mo_fj (f575 h0) 13 = o577_x13.toInt := tff_13 hf_o577
                      have tf583 : tp_fld (f575 h0) 22 = o577_x22.toInt := tff_22 hf_o577
                      have tf584 : tp_fld (f575 h0) 15 = o577_x15.toInt := tff_15 hf_o577
                      obtain ⟨g586, hf_o585⟩ := tpo_53 hT y8
                      have tf587 : mo_i (f575 (ρ h0 23)) = g586 := tfa_i hf_o585
                      obtain ⟨g589, hf_o588⟩ := tpo_54 hT y9
                      have tf590 : mo_i (f575 (ρ h0 24)) = g589 := tfa_i hf_o588
                      have tf591 : tp_fld (f575 h0) 19 = o577_x19.toInt := tff_19 hf_o577
                      have tf592 : tp_fld (f575 h0) 20 = o577_x20.toInt := tff_20 hf_o577
                      have tk593 : (o577_x10.toInt ≤ o577_x11.toInt ∧ o577_x11.toInt ≤ o577_x9.toInt ∧ (o577_x12.toInt = 0 ∨ o577_x10.toInt < o577_x11.toInt) ∧ (o577_x12.toInt = 1 → o577_x11.toInt = o577_x10.toInt + 1 → o577_x13.toInt ≤ 26)) ∧ o552_x22.toInt ≤ o577_x22.toInt ∧ (o577_x15.toInt = 0 → o577_x22.toInt ≤ o577_x10.toInt ∧ mo_W2 (mo_R g586) (mo_R g589) o552_x22.toInt o577_x22.toInt ∧ mo_FR o552_x22.toInt (mo_R g454) (mo_R g457) (mo_R g586) (mo_R g589)) ∧ o577_x9.toInt = o552_x9.toInt ∧ o577_x19.toInt = o552_x19.toInt ∧ o577_x20.toInt = o552_x20.toInt := by have q9 := hw574p; first | (simp only [tf578, tf579, tf580, tf581, tf582, tf561, tf583, tf584, tf587, tf590, tf567, tf571, tf555, tf591, tf559, tf592, tf560, mo_i1, mo_l1] at q9; exact q9) | (rw [tf578, tf579, tf580, tf581, tf582, tf561, tf583, tf584, tf587, tf590, tf567, tf571, tf555, tf591, tf559, tf592, tf560] at q9; exact q9)
                      refine lv_aload_n hx hb dX12_readClause_247 rfl (lv_at hl 4 rfl) ?_
                      obtain ⟨q594, eq594⟩ := tp_pos (tp_in hG ht_h0 (by decide)) hf_o577
                      refine va_get (D := (dC, dI)) (ci := 12) (v := .ref (ρ h0 21)) (C := RX12) (T := TX12) (N := 53) hx hb hts hfX12 hown hK hP q594 eq594 rfl 21 (by decide) (hts (.fieldLink RX12 34 "ColdShipsModel" "nClause" "[I") wa_156) (fun _ h9 => h9) rfl dX12_readClause_248 ?_
                      refine lv_iload hx hb dX12_readClause_251 (lv_at hl 0 rfl) ?_
                      refine lv_iconst (v := 4) hx hb dX12_readClause_253 (by decide) ?_
                      refine lv_iadd hx hb dX12_readClause_254 ?_
                      refine lv_topi (fun z595 ez595 => ?_)
                      have iz595 : z595.toInt = z393.toInt + 4 := zi_add ez595 rfl rfl (by omega) (by omega)
                      refine lv_aload_n hx hb dX12_readClause_255 rfl (lv_at hl 4 rfl) ?_
                      refine va_get (D := (dC, dI)) (ci := 12) (v := .int o577_x22) (C := RX12) (T := TX12) (N := 53) hx hb hts hfX12 hown hK hP q594 eq594 rfl 22 (by decide) (hts (.fieldLink RX12 297 "ColdShipsModel" "nCode" "I") wa_989) (fun _ h9 => h9) rfl dX12_readClause_256 ?_
                      have hf_596 : f550 (ρ h0 21) = .inl (κ 0, 60, .inl g478) := (hF551 _ (by rw [y7]; decide)).trans g477
                      have hf_597 : f575 (ρ h0 21) = .inl (κ 0, 60, .inl g478) := (hF576 _ (by rw [y7]; decide)).trans hf_596
                      obtain ⟨q598, eq598⟩ := tp_pos (tp_in hG y7 (by decide)) hf_597
                      refine va_iast hx hb hK hP hD hS q598 0 eq598 rfl (vp_in_iff.mpr ⟨by omega, by omega⟩) dX12_readClause_259 (tp_k (.inl (κ 0, 60, .inl (upd g478 z595.toNatClampNeg o577_x22))) hD (tp_in hG y7 (by decide)) eq598 (fun f599 H locs hP hD hS g601 k600 => ?_))
                      have hT := hT.up y7 g601 k600 tp_o51
                      have hR := hR.up y7 (by decide) k600
                      have hU603 : mo_U (mo_R g478) (mo_R (upd g478 z595.toNatClampNeg o577_x22)) (5 * o372_x20.toInt + 4) (o577_x22.toInt) := mo_up (by omega) (rfl : o577_x22.toInt = _) (by omega)
                      generalize (upd g478 z595.toNatClampNeg o577_x22) = g602 at g601 hU603
                      have hf_604 : f599 h0 = .inr (12, [.int o577_x0, .int o577_x1, .ref (ρ h0 2), .ref (ρ h0 3), .ref (ρ h0 4), .ref (ρ h0 5), .ref (ρ h0 6), .int o577_x7, .ref (ρ h0 8), .int o577_x9, .int o577_x10, .int o577_x11, .int o577_x12, .long o577_x13, .int o577_x14, .int o577_x15, .int o577_x16, .int o577_x17, .int o577_x18, .int o577_x19, .int o577_x20, .ref (ρ h0 21), .int o577_x22, .ref (ρ h0 23), .ref (ρ h0 24), .int o577_x25, .ref (ρ h0 26), .ref (ρ h0 27), .int o577_x28, .int o577_x29, .ref (ρ h0 30), .ref (ρ h0 31), .int o577_x32, .long o577_x33, .long o577_x34, .long o577_x35, .int o577_x36, .int o577_x37, .int o577_x38, .ref (ρ h0 39), .ref (ρ h0 40), .ref (ρ h0 41), .ref (ρ h0 42), .ref (ρ h0 43), .ref (ρ h0 44), .ref (ρ h0 45), .ref (ρ h0 46), .int o577_x47, .int o577_x48, .ref (ρ h0 49), .ref (ρ h0 50), .ref (ρ h0 51), .ref (ρ h0 52)]) := (k600 _ (tp_ne ht_h0 y7 (by decide))).trans hf_o577
                      have tf605 : tp_fld (f599 h0) 10 = o577_x10.toInt := tff_10 hf_604
                      have tf606 : tp_fld (f599 h0) 11 = o577_x11.toInt := tff_11 hf_604
                      have tf607 : tp_fld (f599 h0) 9 = o577_x9.toInt := tff_9 hf_604
                      have tf608 : tp_fld (f599 h0) 12 = o577_x12.toInt := tff_12 hf_604
                      have tf609 : mo_fj (f599 h0) 13 = o577_x13.toInt := tff_13 hf_604
                      have tf610 : tp_fld (f599 h0) 15 = o577_x15.toInt := tff_15 hf_604
                      have tf611 : tp_fld (f599 h0) 22 = o577_x22.toInt := tff_22 hf_604
                      have tf612 : tp_fld (f599 h0) 20 = o577_x20.toInt := tff_20 hf_604
                      have tf613 : tp_fld (f599 h0) 19 = o577_x19.toInt := tff_19 hf_604
                      have tf614 : mo_i (f599 (ρ h0 21)) = g602 := tfa_i g601
                      have hf_615 : f599 (ρ h0 23) = .inl (κ 0, 400, .inl g586) := (k600 _ (tp_ne y8 y7 (by decide))).trans hf_o585
                      have tf616 : mo_i (f599 (ρ h0 23)) = g586 := tfa_i hf_615
                      have hf_617 : f599 (ρ h0 24) = .inl (κ 0, 400, .inl g589) := (k600 _ (tp_ne y9 y7 (by decide))).trans hf_o588
                      have tf618 : mo_i (f599 (ρ h0 24)) = g589 := tfa_i hf_617
                      exact W.vret hx hb hr (fun t ht hW => ⟨⟨f599, rfl, ⟨hT, hR, (by first | (simp only [tf605, tf606, tf607, tf608, tf609, tf610, tf611, tf612, tf613, tf614, tf616, tf618, tf36, mo_i1, mo_l1]; exact (show (o577_x10.toInt ≤ o577_x11.toInt ∧ o577_x11.toInt ≤ o577_x9.toInt ∧ (o577_x12.toInt = 0 ∨ o577_x10.toInt < o577_x11.toInt) ∧ (o577_x12.toInt = 1 → o577_x11.toInt = o577_x10.toInt + 1 → o577_x13.toInt ≤ 26)) ∧ (o577_x15.toInt = 0 → o577_x22.toInt ≤ o577_x10.toInt ∧ o577_x20.toInt ≤ o577_x19.toInt ∧ mo_NC (mo_R g602) (mo_R g586) (mo_R g589) o577_x20.toInt o577_x22.toInt) ∧ o577_x9.toInt = o35_x9.toInt from ⟨by omega, fun q9 => ⟨by omega, by omega, h5.add (by omega) (by omega) hU408 hU417 hU470 hU479 hU603 (((tk461.2.2.1 (by omega)).2.2).then (fun k k0 k1 => (tk593.2.2.1 q9).2.2 k k0 (by omega))) (((tk461.2.2.1 (by omega)).2.1.same (fun i i0 i1 => (tk593.2.2.1 q9).2.2 i (by omega) (by omega)))) ((by have q8 := (tk593.2.2.1 q9).2.1; rw [show o552_x22.toInt = o445_x22.toInt by omega] at q8; exact q8)) (by omega) (by omega) (by omega)⟩, by omega⟩)) | (rw [tf605, tf606, tf607, tf608, tf609, tf610, tf611, tf612, tf613, tf614, tf616, tf618, tf36]; exact (show (o577_x10.toInt ≤ o577_x11.toInt ∧ o577_x11.toInt ≤ o577_x9.toInt ∧ (o577_x12.toInt = 0 ∨ o577_x10.toInt < o577_x11.toInt) ∧ (o577_x12.toInt = 1 → o577_x11.toInt = o577_x10.toInt + 1 → o577_x13.toInt ≤ 26)) ∧ (o577_x15.toInt = 0 → o577_x22.toInt ≤ o577_x10.toInt ∧ o577_x20.toInt ≤ o577_x19.toInt ∧ mo_NC (mo_R g602) (mo_R g586) (mo_R g589) o577_x20.toInt o577_x22.toInt) ∧ o577_x9.toInt = o35_x9.toInt from ⟨by omega, fun q9 => ⟨by omega, by omega, h5.add (by omega) (by omega) hU408 hU417 hU470 hU479 hU603 (((tk461.2.2.1 (by omega)).2.2).then (fun k k0 k1 => (tk593.2.2.1 q9).2.2 k k0 (by omega))) (((tk461.2.2.1 (by omega)).2.1.same (fun i i0 i1 => (tk593.2.2.1 q9).2.2 i (by omega) (by omega)))) ((by have q8 := (tk593.2.2.1 q9).2.1; rw [show o552_x22.toInt = o445_x22.toInt by omega] at q8; exact q8)) (by omega) (by omega) (by omega)⟩, by omega⟩)))⟩, by rw [ht]; exact hP, va_K.moved hW.alike hK, hD⟩, hS.F ht⟩) hS.2.2 dX12_readClause_260
              · have ic391 : r49.toInt ≠ 0 := zi_eqf rfl rfl c391
                exfalso; omega
            · have ic390 : r46.toInt ≠ 0 := zi_eqf rfl rfl c390
              exfalso; omega
          · have ic385 : o372_x15.toInt ≠ 0 := zi_eqf rfl rfl c385
            have hf_619 : f370 (ρ h0 21) = .inl (κ 0, 60, .inl g27) := (hF371 _ (by rw [y7]; decide)).trans hf_o26
            have tf620 : mo_i (f370 (ρ h0 21)) = g27 := tfa_i hf_619
            have hf_621 : f370 (ρ h0 23) = .inl (κ 0, 400, .inl g30) := (hF371 _ (by rw [y8]; decide)).trans hf_o29
            have tf622 : mo_i (f370 (ρ h0 23)) = g30 := tfa_i hf_621
            have hf_623 : f370 (ρ h0 24) = .inl (κ 0, 400, .inl g33) := (hF371 _ (by rw [y9]; decide)).trans hf_o32
            have tf624 : mo_i (f370 (ρ h0 24)) = g33 := tfa_i hf_623
            exact W.vret hx hb hr (fun t ht hW => ⟨⟨f370, rfl, ⟨hT, hR, (by first | (simp only [tf373, tf374, tf375, tf376, tf377, tf378, tf381, tf380, tf379, tf620, tf622, tf624, tf36, mo_i1, mo_l1]; exact (show (o372_x10.toInt ≤ o372_x11.toInt ∧ o372_x11.toInt ≤ o372_x9.toInt ∧ (o372_x12.toInt = 0 ∨ o372_x10.toInt < o372_x11.toInt) ∧ (o372_x12.toInt = 1 → o372_x11.toInt = o372_x10.toInt + 1 → o372_x13.toInt ≤ 26)) ∧ (o372_x15.toInt = 0 → o372_x22.toInt ≤ o372_x10.toInt ∧ o372_x20.toInt ≤ o372_x19.toInt ∧ mo_NC (mo_R g27) (mo_R g30) (mo_R g33) o372_x20.toInt o372_x22.toInt) ∧ o372_x9.toInt = o35_x9.toInt from ⟨by omega, fun q9 => by exfalso; omega, by omega⟩)) | (rw [tf373, tf374, tf375, tf376, tf377, tf378, tf381, tf380, tf379, tf620, tf622, tf624, tf36]; exact (show (o372_x10.toInt ≤ o372_x11.toInt ∧ o372_x11.toInt ≤ o372_x9.toInt ∧ (o372_x12.toInt = 0 ∨ o372_x10.toInt < o372_x11.toInt) ∧ (o372_x12.toInt = 1 → o372_x11.toInt = o372_x10.toInt + 1 → o372_x13.toInt ≤ 26)) ∧ (o372_x15.toInt = 0 → o372_x22.toInt ≤ o372_x10.toInt ∧ o372_x20.toInt ≤ o372_x19.toInt ∧ mo_NC (mo_R g27) (mo_R g30) (mo_R g33) o372_x20.toInt o372_x22.toInt) ∧ o372_x9.toInt = o35_x9.toInt from ⟨by omega, fun q9 => by exfalso; omega, by omega⟩)))⟩, by rw [ht]; exact hP, va_K.moved hW.alike hK, hD⟩, hS.F ht⟩) hS.2.2 dX12_readClause_71
      · have ic340 : r52.toInt = 0 := zi_nef rfl rfl c340
        refine lv_aload_n hx hb dX12_readClause_37 rfl (lv_at hl 3 rfl) ?_
        refine lv_ldc2 (own := RX12) (v := 206277) hx hb hown (hts (.constantLong RX12 389 (206277)) wa_1025) dX12_readClause_38 ?_
        refine pz_calli (va_runV (As := [.long 206277]) (rest := [.ref h0]) ⟨hx, hb, hml, hown, hts⟩ (t_X12_isWord l dC dI _ κ τ ν ρ L f hG hT h0 (206277) ht_h0) (cwV 1 hts gX12_readClause_X12_isWord rfl rfl rfl ⟨rfl, pd_X12_isWord⟩ ⟨Nat.le_of_ble_eq_true rfl, Nat.le_of_ble_eq_true rfl⟩) ⟨pz_blind, va_recv hK hP (ci := 12) (q0 := q45) rfl eq45, pz_pre hP hK hD hN⟩ rfl rfl hl.1 rfl (lv_room (Nat.le_of_ble_eq_true rfl)) dX12_readClause_41 ⟨Nat.le_of_ble_eq_true rfl, Nat.le_of_ble_eq_true rfl⟩) (fun r625 hw626 => ?_)
        obtain ⟨hw626r, hw626p⟩ := hw626
        have tk627 : (r625.toInt ≠ 0 → o35_x12.toInt = 1 ∧ o35_x13.toInt = (206277 : Int)) := by have q9 := hw626p; first | (simp only [tf39, tf44, mo_i1, mo_l1] at q9; exact q9) | (rw [tf39, tf44] at q9; exact q9)
        refine lv_if_eq (tgt := 60) hx hb dX12_readClause_44 (by decide) (fun c628 => ?_) (fun c628 => ?_)
        · have ic628 : r625.toInt = 0 := zi_eq rfl rfl c628
          refine lv_iconst (v := 0) hx hb dX12_readClause_60 (by decide) ?_
          have tf629 : tp_fld (f h0) 28 = o35_x28.toInt := tff_28 hf_o35
          have hFc := tp_fr hD hS hA
          refine va_callv (va_runV (As := [.int 0]) (rest := []) ⟨hx, hb, hml, hown, hts⟩ (t_X12_must l dC dI _ κ τ ν ρ L f hG hT h0 (0) ht_h0 (by first | decide | omega) (by first | (simp only [tf37, tf38, tf36, tf39, tf44, mo_i1, mo_l1]; exact (show (o35_x10.toInt ≤ o35_x11.toInt ∧ o35_x11.toInt ≤ o35_x9.toInt ∧ (o35_x12.toInt = 0 ∨ o35_x10.toInt < o35_x11.toInt) ∧ (o35_x12.toInt = 1 → o35_x11.toInt = o35_x10.toInt + 1 → o35_x13.toInt ≤ 26)) from by have : (0 : Int32).toInt = 0 := rfl; first | omega | decide)) | (rw [tf37, tf38, tf36, tf39, tf44]; exact (show (o35_x10.toInt ≤ o35_x11.toInt ∧ o35_x11.toInt ≤ o35_x9.toInt ∧ (o35_x12.toInt = 0 ∨ o35_x10.toInt < o35_x11.toInt) ∧ (o35_x12.toInt = 1 → o35_x11.toInt = o35_x10.toInt + 1 → o35_x13.toInt ≤ 26)) from by have : (0 : Int32).toInt = 0 := rfl; first | omega | decide)))) (cwV 1 hts gX12_readClause_X12_must rfl rfl rfl ⟨rfl, pd_X12_must⟩ ⟨Nat.le_of_ble_eq_true rfl, Nat.le_of_ble_eq_true rfl⟩) ⟨pz_blind, va_recv hK hP (ci := 12) (q0 := q45) rfl eq45, pz_pre hP hK hD hN⟩ rfl rfl hl.1 rfl (lv_room (Nat.le_of_ble_eq_true rfl)) dX12_readClause_61 ⟨Nat.le_of_ble_eq_true rfl, Nat.le_of_ble_eq_true rfl⟩) hS (fun q _ h => hFc q h) hFc (fun f632 t H1 locs ht hvm hw631 hB hz1 hk1 hS => ?_)
          obtain ⟨hT, hF633, hw631p⟩ := hw631
          have hR := hR.then hF633 (by decide)
          have hP := hB.1; rw [ht] at hP; have hD := tp_ad f632 hD; clear hB hFc hz1 hk1; subst ht; generalize t.heap = H at hP hS ⊢
          obtain ⟨o634_x0, o634_x1, o634_x7, o634_x9, o634_x10, o634_x11, o634_x12, o634_x13, o634_x14, o634_x15, o634_x16, o634_x17, o634_x18, o634_x19, o634_x20, o634_x22, o634_x25, o634_x28, o634_x29, o634_x32, o634_x33, o634_x34, o634_x35, o634_x36, o634_x37, o634_x38, o634_x47, o634_x48, hf_o634, ro634_0, ro634_1, ro634_2, ro634_3, ro634_4, ro634_5, ro634_6, ro634_7, ro634_8, ro634_9, ro634_10, ro634_11, ro634_12, ro634_13⟩ := tpo_13 hT ht_h0
          have tf635 : tp_fld (f632 h0) 10 = o634_x10.toInt := tff_10 hf_o634
          have tf636 : tp_fld (f632 h0) 11 = o634_x11.toInt := tff_11 hf_o634
          have tf637 : tp_fld (f632 h0) 9 = o634_x9.toInt := tff_9 hf_o634
          have tf638 : tp_fld (f632 h0) 12 = o634_x12.toInt := tff_12 hf_o634
          have tf639 : mo_fj (f632 h0) 13 = o634_x13.toInt := tff_13 hf_o634
          have tf640 : tp_fld (f632 h0) 15 = o634_x15.toInt := tff_15 hf_o634
          have tf641 : tp_fld (f632 h0) 19 = o634_x19.toInt := tff_19 hf_o634
          have tf642 : tp_fld (f632 h0) 20 = o634_x20.toInt := tff_20 hf_o634
          have tf643 : tp_fld (f632 h0) 22 = o634_x22.toInt := tff_22 hf_o634
          have tf644 : tp_fld (f632 h0) 28 = o634_x28.toInt := tff_28 hf_o634
          have tk645 : (o634_x10.toInt ≤ o634_x11.toInt ∧ o634_x11.toInt ≤ o634_x9.toInt ∧ (o634_x12.toInt = 0 ∨ o634_x10.toInt < o634_x11.toInt) ∧ (o634_x12.toInt = 1 → o634_x11.toInt = o634_x10.toInt + 1 → o634_x13.toInt ≤ 26)) ∧ (o634_x15.toInt = 0 → o35_x15.toInt = 0 ∧ o35_x11.toInt ≤ o634_x10.toInt ∧ (0 : Int) ≠ 0) ∧ (o634_x15.toInt ≠ 0 → o634_x10.toInt = o35_x10.toInt) ∧ o634_x9.toInt = o35_x9.toInt ∧ o634_x19.toInt = o35_x19.toInt ∧ o634_x20.toInt = o35_x20.toInt ∧ o634_x22.toInt = o35_x22.toInt ∧ o634_x28.toInt = o35_x28.toInt := by have q9 := hw631p; first | (simp only [tf635, tf636, tf637, tf638, tf639, tf640, tf40, tf38, tf37, tf36, tf641, tf41, tf642, tf42, tf643, tf43, tf644, tf629, mo_i1, mo_l1] at q9; exact q9) | (rw [tf635, tf636, tf637, tf638, tf639, tf640, tf40, tf38, tf37, tf36, tf641, tf41, tf642, tf42, tf643, tf43, tf644, tf629] at q9; exact q9)
          refine lv_aload_n hx hb dX12_readClause_64 rfl (lv_at hl 3 rfl) ?_
          obtain ⟨q646, eq646⟩ := tp_pos (tp_in hG ht_h0 (by decide)) hf_o634
          refine va_get (D := (dC, dI)) (ci := 12) (v := .int o634_x15) (C := RX12) (T := TX12) (N := 53) hx hb hts hfX12 hown hK hP q646 eq646 rfl 15 (by decide) (hts (.fieldLink RX12 261 "ColdShipsModel" "bad" "Z") wa_994) (fun _ h9 => h9) rfl dX12_readClause_65 ?_
          refine lv_if_eq (tgt := 72) hx hb dX12_readClause_68 (by decide) (fun c647 => ?_) (fun c647 => ?_)
          · have ic647 : o634_x15.toInt = 0 := zi_eq rfl rfl c647
            exfalso; omega
          · have ic647 : o634_x15.toInt ≠ 0 := zi_eqf rfl rfl c647
            have hf_648 : f632 (ρ h0 21) = .inl (κ 0, 60, .inl g27) := (hF633 _ (by rw [y7]; decide)).trans hf_o26
            have tf649 : mo_i (f632 (ρ h0 21)) = g27 := tfa_i hf_648
            have hf_650 : f632 (ρ h0 23) = .inl (κ 0, 400, .inl g30) := (hF633 _ (by rw [y8]; decide)).trans hf_o29
            have tf651 : mo_i (f632 (ρ h0 23)) = g30 := tfa_i hf_650
            have hf_652 : f632 (ρ h0 24) = .inl (κ 0, 400, .inl g33) := (hF633 _ (by rw [y9]; decide)).trans hf_o32
            have tf653 : mo_i (f632 (ρ h0 24)) = g33 := tfa_i hf_652
            exact W.vret hx hb hr (fun t ht hW => ⟨⟨f632, rfl, ⟨hT, hR, (by first | (simp only [tf635, tf636, tf637, tf638, tf639, tf640, tf643, tf642, tf641, tf649, tf651, tf653, tf36, mo_i1, mo_l1]; exact (show (o634_x10.toInt ≤ o634_x11.toInt ∧ o634_x11.toInt ≤ o634_x9.toInt ∧ (o634_x12.toInt = 0 ∨ o634_x10.toInt < o634_x11.toInt) ∧ (o634_x12.toInt = 1 → o634_x11.toInt = o634_x10.toInt + 1 → o634_x13.toInt ≤ 26)) ∧ (o634_x15.toInt = 0 → o634_x22.toInt ≤ o634_x10.toInt ∧ o634_x20.toInt ≤ o634_x19.toInt ∧ mo_NC (mo_R g27) (mo_R g30) (mo_R g33) o634_x20.toInt o634_x22.toInt) ∧ o634_x9.toInt = o35_x9.toInt from ⟨by omega, fun q9 => by exfalso; omega, by omega⟩)) | (rw [tf635, tf636, tf637, tf638, tf639, tf640, tf643, tf642, tf641, tf649, tf651, tf653, tf36]; exact (show (o634_x10.toInt ≤ o634_x11.toInt ∧ o634_x11.toInt ≤ o634_x9.toInt ∧ (o634_x12.toInt = 0 ∨ o634_x10.toInt < o634_x11.toInt) ∧ (o634_x12.toInt = 1 → o634_x11.toInt = o634_x10.toInt + 1 → o634_x13.toInt ≤ 26)) ∧ (o634_x15.toInt = 0 → o634_x22.toInt ≤ o634_x10.toInt ∧ o634_x20.toInt ≤ o634_x19.toInt ∧ mo_NC (mo_R g27) (mo_R g30) (mo_R g33) o634_x20.toInt o634_x22.toInt) ∧ o634_x9.toInt = o35_x9.toInt from ⟨by omega, fun q9 => by exfalso; omega, by omega⟩)))⟩, by rw [ht]; exact hP, va_K.moved hW.alike hK, hD⟩, hS.F ht⟩) hS.2.2 dX12_readClause_71
        · have ic628 : r625.toInt ≠ 0 := zi_eqf rfl rfl c628
          refine lv_aload_n hx hb dX12_readClause_47 rfl (lv_at hl 3 rfl) ?_
          refine va_get (D := (dC, dI)) (ci := 12) (v := .int o35_x19) (C := RX12) (T := TX12) (N := 53) hx hb hts hfX12 hown hK hP q45 eq45 rfl 19 (by decide) (hts (.fieldLink RX12 391 "ColdShipsModel" "nClauses" "I") wa_987) (fun _ h9 => h9) rfl dX12_readClause_48 ?_
          refine lv_bipush (v := 12) hx hb dX12_readClause_51 (by decide) ?_
          refine lv_icmp_ge (tgt := 60) hx hb dX12_readClause_53 (by decide) (fun c654 => ?_) (fun c654 => ?_)
          · have ic654 : o35_x19.toInt ≥ 12 := zi_ge rfl rfl c654
            refine lv_iconst (v := 0) hx hb dX12_readClause_60 (by decide) ?_
            have tf655 : tp_fld (f h0) 28 = o35_x28.toInt := tff_28 hf_o35
            have hFc := tp_fr hD hS hA
            refine va_callv (va_runV (As := [.int 0]) (rest := []) ⟨hx, hb, hml, hown, hts⟩ (t_X12_must l dC dI _ κ τ ν ρ L f hG hT h0 (0) ht_h0 (by first | decide | omega) (by first | (simp only [tf37, tf38, tf36, tf39, tf44, mo_i1, mo_l1]; exact (show (o35_x10.toInt ≤ o35_x11.toInt ∧ o35_x11.toInt ≤ o35_x9.toInt ∧ (o35_x12.toInt = 0 ∨ o35_x10.toInt < o35_x11.toInt) ∧ (o35_x12.toInt = 1 → o35_x11.toInt = o35_x10.toInt + 1 → o35_x13.toInt ≤ 26)) from by have : (0 : Int32).toInt = 0 := rfl; first | omega | decide)) | (rw [tf37, tf38, tf36, tf39, tf44]; exact (show (o35_x10.toInt ≤ o35_x11.toInt ∧ o35_x11.toInt ≤ o35_x9.toInt ∧ (o35_x12.toInt = 0 ∨ o35_x10.toInt < o35_x11.toInt) ∧ (o35_x12.toInt = 1 → o35_x11.toInt = o35_x10.toInt + 1 → o35_x13.toInt ≤ 26)) from by have : (0 : Int32).toInt = 0 := rfl; first | omega | decide)))) (cwV 1 hts gX12_readClause_X12_must rfl rfl rfl ⟨rfl, pd_X12_must⟩ ⟨Nat.le_of_ble_eq_true rfl, Nat.le_of_ble_eq_true rfl⟩) ⟨pz_blind, va_recv hK hP (ci := 12) (q0 := q45) rfl eq45, pz_pre hP hK hD hN⟩ rfl rfl hl.1 rfl (lv_room (Nat.le_of_ble_eq_true rfl)) dX12_readClause_61 ⟨Nat.le_of_ble_eq_true rfl, Nat.le_of_ble_eq_true rfl⟩) hS (fun q _ h => hFc q h) hFc (fun f658 t H1 locs ht hvm hw657 hB hz1 hk1 hS => ?_)
            obtain ⟨hT, hF659, hw657p⟩ := hw657
            have hR := hR.then hF659 (by decide)
            have hP := hB.1; rw [ht] at hP; have hD := tp_ad f658 hD; clear hB hFc hz1 hk1; subst ht; generalize t.heap = H at hP hS ⊢
            obtain ⟨o660_x0, o660_x1, o660_x7, o660_x9, o660_x10, o660_x11, o660_x12, o660_x13, o660_x14, o660_x15, o660_x16, o660_x17, o660_x18, o660_x19, o660_x20, o660_x22, o660_x25, o660_x28, o660_x29, o660_x32, o660_x33, o660_x34, o660_x35, o660_x36, o660_x37, o660_x38, o660_x47, o660_x48, hf_o660, ro660_0, ro660_1, ro660_2, ro660_3, ro660_4, ro660_5, ro660_6, ro660_7, ro660_8, ro660_9, ro660_10, ro660_11, ro660_12, ro660_13⟩ := tpo_13 hT ht_h0
            have tf661 : tp_fld (f658 h0) 10 = o660_x10.toInt := tff_10 hf_o660
            have tf662 : tp_fld (f658 h0) 11 = o660_x11.toInt := tff_11 hf_o660
            have tf663 : tp_fld (f658 h0) 9 = o660_x9.toInt := tff_9 hf_o660
            have tf664 : tp_fld (f658 h0) 12 = o660_x12.toInt := tff_12 hf_o660
            have tf665 : mo_fj (f658 h0) 13 = o660_x13.toInt := tff_13 hf_o660
            have tf666 : tp_fld (f658 h0) 15 = o660_x15.toInt := tff_15 hf_o660
            have tf667 : tp_fld (f658 h0) 19 = o660_x19.toInt := tff_19 hf_o660
            have tf668 : tp_fld (f658 h0) 20 = o660_x20.toInt := tff_20 hf_o660
            have tf669 : tp_fld (f658 h0) 22 = o660_x22.toInt := tff_22 hf_o660
            have tf670 : tp_fld (f658 h0) 28 = o660_x28.toInt := tff_28 hf_o660
            have tk671 : (o660_x10.toInt ≤ o660_x11.toInt ∧ o660_x11.toInt ≤ o660_x9.toInt ∧ (o660_x12.toInt = 0 ∨ o660_x10.toInt < o660_x11.toInt) ∧ (o660_x12.toInt = 1 → o660_x11.toInt = o660_x10.toInt + 1 → o660_x13.toInt ≤ 26)) ∧ (o660_x15.toInt = 0 → o35_x15.toInt = 0 ∧ o35_x11.toInt ≤ o660_x10.toInt ∧ (0 : Int) ≠ 0) ∧ (o660_x15.toInt ≠ 0 → o660_x10.toInt = o35_x10.toInt) ∧ o660_x9.toInt = o35_x9.toInt ∧ o660_x19.toInt = o35_x19.toInt ∧ o660_x20.toInt = o35_x20.toInt ∧ o660_x22.toInt = o35_x22.toInt ∧ o660_x28.toInt = o35_x28.toInt := by have q9 := hw657p; first | (simp only [tf661, tf662, tf663, tf664, tf665, tf666, tf40, tf38, tf37, tf36, tf667, tf41, tf668, tf42, tf669, tf43, tf670, tf655, mo_i1, mo_l1] at q9; exact q9) | (rw [tf661, tf662, tf663, tf664, tf665, tf666, tf40, tf38, tf37, tf36, tf667, tf41, tf668, tf42, tf669, tf43, tf670, tf655] at q9; exact q9)
            refine lv_aload_n hx hb dX12_readClause_64 rfl (lv_at hl 3 rfl) ?_
            obtain ⟨q672, eq672⟩ := tp_pos (tp_in hG ht_h0 (by decide)) hf_o660
            refine va_get (D := (dC, dI)) (ci := 12) (v := .int o660_x15) (C := RX12) (T := TX12) (N := 53) hx hb hts hfX12 hown hK hP q672 eq672 rfl 15 (by decide) (hts (.fieldLink RX12 261 "ColdShipsModel" "bad" "Z") wa_994) (fun _ h9 => h9) rfl dX12_readClause_65 ?_
            refine lv_if_eq (tgt := 72) hx hb dX12_readClause_68 (by decide) (fun c673 => ?_) (fun c673 => ?_)
            · have ic673 : o660_x15.toInt = 0 := zi_eq rfl rfl c673
              exfalso; omega
            · have ic673 : o660_x15.toInt ≠ 0 := zi_eqf rfl rfl c673
              have hf_674 : f658 (ρ h0 21) = .inl (κ 0, 60, .inl g27) := (hF659 _ (by rw [y7]; decide)).trans hf_o26
              have tf675 : mo_i (f658 (ρ h0 21)) = g27 := tfa_i hf_674
              have hf_676 : f658 (ρ h0 23) = .inl (κ 0, 400, .inl g30) := (hF659 _ (by rw [y8]; decide)).trans hf_o29
              have tf677 : mo_i (f658 (ρ h0 23)) = g30 := tfa_i hf_676
              have hf_678 : f658 (ρ h0 24) = .inl (κ 0, 400, .inl g33) := (hF659 _ (by rw [y9]; decide)).trans hf_o32
              have tf679 : mo_i (f658 (ρ h0 24)) = g33 := tfa_i hf_678
              exact W.vret hx hb hr (fun t ht hW => ⟨⟨f658, rfl, ⟨hT, hR, (by first | (simp only [tf661, tf662, tf663, tf664, tf665, tf666, tf669, tf668, tf667, tf675, tf677, tf679, tf36, mo_i1, mo_l1]; exact (show (o660_x10.toInt ≤ o660_x11.toInt ∧ o660_x11.toInt ≤ o660_x9.toInt ∧ (o660_x12.toInt = 0 ∨ o660_x10.toInt < o660_x11.toInt) ∧ (o660_x12.toInt = 1 → o660_x11.toInt = o660_x10.toInt + 1 → o660_x13.toInt ≤ 26)) ∧ (o660_x15.toInt = 0 → o660_x22.toInt ≤ o660_x10.toInt ∧ o660_x20.toInt ≤ o660_x19.toInt ∧ mo_NC (mo_R g27) (mo_R g30) (mo_R g33) o660_x20.toInt o660_x22.toInt) ∧ o660_x9.toInt = o35_x9.toInt from ⟨by omega, fun q9 => by exfalso; omega, by omega⟩)) | (rw [tf661, tf662, tf663, tf664, tf665, tf666, tf669, tf668, tf667, tf675, tf677, tf679, tf36]; exact (show (o660_x10.toInt ≤ o660_x11.toInt ∧ o660_x11.toInt ≤ o660_x9.toInt ∧ (o660_x12.toInt = 0 ∨ o660_x10.toInt < o660_x11.toInt) ∧ (o660_x12.toInt = 1 → o660_x11.toInt = o660_x10.toInt + 1 → o660_x13.toInt ≤ 26)) ∧ (o660_x15.toInt = 0 → o660_x22.toInt ≤ o660_x10.toInt ∧ o660_x20.toInt ≤ o660_x19.toInt ∧ mo_NC (mo_R g27) (mo_R g30) (mo_R g33) o660_x20.toInt o660_x22.toInt) ∧ o660_x9.toInt = o35_x9.toInt from ⟨by omega, fun q9 => by exfalso; omega, by omega⟩)))⟩, by rw [ht]; exact hP, va_K.moved hW.alike hK, hD⟩, hS.F ht⟩) hS.2.2 dX12_readClause_71
          · have ic654 : o35_x19.toInt < 12 := zi_gef rfl rfl c654
            refine lv_iconst (v := 1) hx hb dX12_readClause_56 (by decide) ?_
            refine lv_goto (tgt := 61) hx hb dX12_readClause_57 (by decide) ?_
            have tf680 : tp_fld (f h0) 28 = o35_x28.toInt := tff_28 hf_o35
            have hFc := tp_fr hD hS hA
            refine va_callv (va_runV (As := [.int 1]) (rest := []) ⟨hx, hb, hml, hown, hts⟩ (t_X12_must l dC dI _ κ τ ν ρ L f hG hT h0 (1) ht_h0 (by first | decide | omega) (by first | (simp only [tf37, tf38, tf36, tf39, tf44, mo_i1, mo_l1]; exact (show (o35_x10.toInt ≤ o35_x11.toInt ∧ o35_x11.toInt ≤ o35_x9.toInt ∧ (o35_x12.toInt = 0 ∨ o35_x10.toInt < o35_x11.toInt) ∧ (o35_x12.toInt = 1 → o35_x11.toInt = o35_x10.toInt + 1 → o35_x13.toInt ≤ 26)) from by have : (1 : Int32).toInt = 1 := rfl; first | omega | decide)) | (rw [tf37, tf38, tf36, tf39, tf44]; exact (show (o35_x10.toInt ≤ o35_x11.toInt ∧ o35_x11.toInt ≤ o35_x9.toInt ∧ (o35_x12.toInt = 0 ∨ o35_x10.toInt < o35_x11.toInt) ∧ (o35_x12.toInt = 1 → o35_x11.toInt = o35_x10.toInt + 1 → o35_x13.toInt ≤ 26)) from by have : (1 : Int32).toInt = 1 := rfl; first | omega | decide)))) (cwV 1 hts gX12_readClause_X12_must rfl rfl rfl ⟨rfl, pd_X12_must⟩ ⟨Nat.le_of_ble_eq_true rfl, Nat.le_of_ble_eq_true rfl⟩) ⟨pz_blind, va_recv hK hP (ci := 12) (q0 := q45) rfl eq45, pz_pre hP hK hD hN⟩ rfl rfl hl.1 rfl (lv_room (Nat.le_of_ble_eq_true rfl)) dX12_readClause_61 ⟨Nat.le_of_ble_eq_true rfl, Nat.le_of_ble_eq_true rfl⟩) hS (fun q _ h => hFc q h) hFc (fun f683 t H1 locs ht hvm hw682 hB hz1 hk1 hS => ?_)
            obtain ⟨hT, hF684, hw682p⟩ := hw682
            have hR := hR.then hF684 (by decide)
            have hP := hB.1; rw [ht] at hP; have hD := tp_ad f683 hD; clear hB hFc hz1 hk1; subst ht; generalize t.heap = H at hP hS ⊢
            obtain ⟨o685_x0, o685_x1, o685_x7, o685_x9, o685_x10, o685_x11, o685_x12, o685_x13, o685_x14, o685_x15, o685_x16, o685_x17, o685_x18, o685_x19, o685_x20, o685_x22, o685_x25, o685_x28, o685_x29, o685_x32, o685_x33, o685_x34, o685_x35, o685_x36, o685_x37, o685_x38, o685_x47, o685_x48, hf_o685, ro685_0, ro685_1, ro685_2, ro685_3, ro685_4, ro685_5, ro685_6, ro685_7, ro685_8, ro685_9, ro685_10, ro685_11, ro685_12, ro685_13⟩ := tpo_13 hT ht_h0
            have tf686 : tp_fld (f683 h0) 10 = o685_x10.toInt := tff_10 hf_o685
            have tf687 : tp_fld (f683 h0) 11 = o685_x11.toInt := tff_11 hf_o685
            have tf688 : tp_fld (f683 h0) 9 = o685_x9.toInt := tff_9 hf_o685
            have tf689 : tp_fld (f683 h0) 12 = o685_x12.toInt := tff_12 hf_o685
            have tf690 : mo_fj (f683 h0) 13 = o685_x13.toInt := tff_13 hf_o685
            have tf691 : tp_fld (f683 h0) 15 = o685_x15.toInt := tff_15 hf_o685
            have tf692 : tp_fld (f683 h0) 19 = o685_x19.toInt := tff_19 hf_o685
            have tf693 : tp_fld (f683 h0) 20 = o685_x20.toInt := tff_20 hf_o685
            have tf694 : tp_fld (f683 h0) 22 = o685_x22.toInt := tff_22 hf_o685
            have tf695 : tp_fld (f683 h0) 28 = o685_x28.toInt := tff_28 hf_o685
            have tk696 : (o685_x10.toInt ≤ o685_x11.toInt ∧ o685_x11.toInt ≤ o685_x9.toInt ∧ (o685_x12.toInt = 0 ∨ o685_x10.toInt < o685_x11.toInt) ∧ (o685_x12.toInt = 1 → o685_x11.toInt = o685_x10.toInt + 1 → o685_x13.toInt ≤ 26)) ∧ (o685_x15.toInt = 0 → o35_x15.toInt = 0 ∧ o35_x11.toInt ≤ o685_x10.toInt ∧ (1 : Int) ≠ 0) ∧ (o685_x15.toInt ≠ 0 → o685_x10.toInt = o35_x10.toInt) ∧ o685_x9.toInt = o35_x9.toInt ∧ o685_x19.toInt = o35_x19.toInt ∧ o685_x20.toInt = o35_x20.toInt ∧ o685_x22.toInt = o35_x22.toInt ∧ o685_x28.toInt = o35_x28.toInt := by have q9 := hw682p; first | (simp only [tf686, tf687, tf688, tf689, tf690, tf691, tf40, tf38, tf37, tf36, tf692, tf41, tf693, tf42, tf694, tf43, tf695, tf680, mo_i1, mo_l1] at q9; exact q9) | (rw [tf686, tf687, tf688, tf689, tf690, tf691, tf40, tf38, tf37, tf36, tf692, tf41, tf693, tf42, tf694, tf43, tf695, tf680] at q9; exact q9)
            refine lv_aload_n hx hb dX12_readClause_64 rfl (lv_at hl 3 rfl) ?_
            obtain ⟨q697, eq697⟩ := tp_pos (tp_in hG ht_h0 (by decide)) hf_o685
            refine va_get (D := (dC, dI)) (ci := 12) (v := .int o685_x15) (C := RX12) (T := TX12) (N := 53) hx hb hts hfX12 hown hK hP q697 eq697 rfl 15 (by decide) (hts (.fieldLink RX12 261 "ColdShipsModel" "bad" "Z") wa_994) (fun _ h9 => h9) rfl dX12_readClause_65 ?_
            refine lv_if_eq (tgt := 72) hx hb dX12_readClause_68 (by decide) (fun c698 => ?_) (fun c698 => ?_)
            · have ic698 : o685_x15.toInt = 0 := zi_eq rfl rfl c698
              refine lv_aload_n hx hb dX12_readClause_72 rfl (lv_at hl 3 rfl) ?_
              refine lv_dup hx hb dX12_readClause_73 rfl ?_
              refine va_get (D := (dC, dI)) (ci := 12) (v := .int o685_x19) (C := RX12) (T := TX12) (N := 53) hx hb hts hfX12 hown hK hP q697 eq697 rfl 19 (by decide) (hts (.fieldLink RX12 391 "ColdShipsModel" "nClauses" "I") wa_987) (fun _ h9 => h9) rfl dX12_readClause_74 ?_
              refine lv_iconst (v := 1) hx hb dX12_readClause_77 (by decide) ?_
              refine lv_iadd hx hb dX12_readClause_78 ?_
              refine lv_topi (fun z699 ez699 => ?_)
              have iz699 : z699.toInt = o685_x19.toInt + 1 := zi_add ez699 rfl rfl (by omega) (by omega)
              refine va_put (D := (dC, dI)) (ci := 12) (v := .int z699) (ty := .int) (C := RX12) (T := TX12) (N := 53) hx hb hts hfX12 tyX12 tyX12_ok nmX12 hown hK hP hD hS q697 eq697 rfl 19 (by decide) (hts (.fieldLink RX12 391 "ColdShipsModel" "nClauses" "I") wa_987) (fun _ h9 => h9) rfl (tyX12_ok 19 (by decide)) rfl rfl (Nat.le_of_ble_eq_true rfl) dX12_readClause_79 (tp_k (.inr (12, [.int o685_x0, .int o685_x1, .ref (ρ h0 2), .ref (ρ h0 3), .ref (ρ h0 4), .ref (ρ h0 5), .ref (ρ h0 6), .int o685_x7, .ref (ρ h0 8), .int o685_x9, .int o685_x10, .int o685_x11, .int o685_x12, .long o685_x13, .int o685_x14, .int o685_x15, .int o685_x16, .int o685_x17, .int o685_x18, .int z699, .int o685_x20, .ref (ρ h0 21), .int o685_x22, .ref (ρ h0 23), .ref (ρ h0 24), .int o685_x25, .ref (ρ h0 26), .ref (ρ h0 27), .int o685_x28, .int o685_x29, .ref (ρ h0 30), .ref (ρ h0 31), .int o685_x32, .long o685_x33, .long o685_x34, .long o685_x35, .int o685_x36, .int o685_x37, .int o685_x38, .ref (ρ h0 39), .ref (ρ h0 40), .ref (ρ h0 41), .ref (ρ h0 42), .ref (ρ h0 43), .ref (ρ h0 44), .ref (ρ h0 45), .ref (ρ h0 46), .int o685_x47, .int o685_x48, .ref (ρ h0 49), .ref (ρ h0 50), .ref (ρ h0 51), .ref (ρ h0 52)])) hD (tp_in hG ht_h0 (by decide)) eq697 (fun f700 H locs hP hD hS g702 k701 => ?_))
              have hT := hT.up ht_h0 g702 k701 ⟨_, _, _, _, _, _, _, _, _, _, _, _, _, _, _, _, _, _, _, _, _, _, _, _, _, _, _, _, rfl, ro685_0, ro685_1, ro685_2, ro685_3, ro685_4, ro685_5, (by omega), ro685_7, ro685_8, ro685_9, ro685_10, ro685_11, ro685_12, ro685_13⟩
              have hR := hR.up ht_h0 (by decide) k701
              refine lv_iload_n hx hb dX12_readClause_82 rfl (lv_at hl 2 rfl) ?_
              refine lv_if_eq (tgt := 126) hx hb dX12_readClause_83 (by decide) (fun c703 => ?_) (fun c703 => ?_)
              · have ic703 : r46.toInt = 0 := zi_eq rfl rfl c703
                refine lv_iload_n hx hb dX12_readClause_126 rfl (lv_at hl 1 rfl) ?_
                refine lv_if_eq (tgt := 143) hx hb dX12_readClause_127 (by decide) (fun c704 => ?_) (fun c704 => ?_)
                · have ic704 : r49.toInt = 0 := zi_eq rfl rfl c704
                  have h5 : mo_NC (mo_R g27) (mo_R g30) (mo_R g33) o685_x20.toInt o685_x22.toInt := (by rw [show o685_x20.toInt = o35_x20.toInt by omega, show o685_x22.toInt = o35_x22.toInt by omega]; exact h5)
                  refine lv_iconst (v := 5) hx hb dX12_readClause_143 (by decide) ?_
                  refine lv_aload_n hx hb dX12_readClause_144 rfl (lv_at hl 3 rfl) ?_
                  obtain ⟨q705, eq705⟩ := tp_pos (tp_in hG ht_h0 (by decide)) g702
                  refine va_get (D := (dC, dI)) (ci := 12) (v := .int o685_x20) (C := RX12) (T := TX12) (N := 53) hx hb hts hfX12 hown hK hP q705 eq705 rfl 20 (by decide) (hts (.fieldLink RX12 411 "ColdShipsModel" "nPays" "I") wa_988) (fun _ h9 => h9) rfl dX12_readClause_145 ?_
                  refine lv_imul hx hb dX12_readClause_148 ?_
                  refine lv_topi (fun z706 ez706 => ?_)
                  have iz706 : z706.toInt = 5 * o685_x20.toInt := zi_mul ez706 rfl rfl (by omega) (by omega)
                  refine lv_istore (lv' := [(4, .int z706), (3, .int r52), (2, .int r49), (1, .int r46), (0, .ref h0)]) hx hb dX12_readClause_149 hl (by decide) rfl (fun ls hl => ?_)
                  refine lv_aload_n hx hb dX12_readClause_151 rfl (lv_at hl 4 rfl) ?_
                  refine lv_dup hx hb dX12_readClause_152 rfl ?_
                  refine va_get (D := (dC, dI)) (ci := 12) (v := .int o685_x20) (C := RX12) (T := TX12) (N := 53) hx hb hts hfX12 hown hK hP q705 eq705 rfl 20 (by decide) (hts (.fieldLink RX12 411 "ColdShipsModel" "nPays" "I") wa_988) (fun _ h9 => h9) rfl dX12_readClause_153 ?_
                  refine lv_iconst (v := 1) hx hb dX12_readClause_156 (by decide) ?_
                  refine lv_iadd hx hb dX12_readClause_157 ?_
                  refine lv_topi (fun z707 ez707 => ?_)
                  have iz707 : z707.toInt = o685_x20.toInt + 1 := zi_add ez707 rfl rfl (by omega) (by omega)
                  refine va_put (D := (dC, dI)) (ci := 12) (v := .int z707) (ty := .int) (C := RX12) (T := TX12) (N := 53) hx hb hts hfX12 tyX12 tyX12_ok nmX12 hown hK hP hD hS q705 eq705 rfl 20 (by decide) (hts (.fieldLink RX12 411 "ColdShipsModel" "nPays" "I") wa_988) (fun _ h9 => h9) rfl (tyX12_ok 20 (by decide)) rfl rfl (Nat.le_of_ble_eq_true rfl) dX12_readClause_158 (tp_k (.inr (12, [.int o685_x0, .int o685_x1, .ref (ρ h0 2), .ref (ρ h0 3), .ref (ρ h0 4), .ref (ρ h0 5), .ref (ρ h0 6), .int o685_x7, .ref (ρ h0 8), .int o685_x9, .int o685_x10, .int o685_x11, .int o685_x12, .long o685_x13, .int o685_x14, .int o685_x15, .int o685_x16, .int o685_x17, .int o685_x18, .int z699, .int z707, .ref (ρ h0 21), .int o685_x22, .ref (ρ h0 23), .ref (ρ h0 24), .int o685_x25, .ref (ρ h0 26), .ref (ρ h0 27), .int o685_x28, .int o685_x29, .ref (ρ h0 30), .ref (ρ h0 31), .int o685_x32, .long o685_x33, .long o685_x34, .long o685_x35, .int o685_x36, .int o685_x37, .int o685_x38, .ref (ρ h0 39), .ref (ρ h0 40), .ref (ρ h0 41), .ref (ρ h0 42), .ref (ρ h0 43), .ref (ρ h0 44), .ref (ρ h0 45), .ref (ρ h0 46), .int o685_x47, .int o685_x48, .ref (ρ h0 49), .ref (ρ h0 50), .ref (ρ h0 51), .ref (ρ h0 52)])) hD (tp_in hG ht_h0 (by decide)) eq705 (fun f708 H locs hP hD hS g710 k709 => ?_))
                  have hT := hT.up ht_h0 g710 k709 ⟨_, _, _, _, _, _, _, _, _, _, _, _, _, _, _, _, _, _, _, _, _, _, _, _, _, _, _, _, rfl, ro685_0, ro685_1, ro685_2, ro685_3, ro685_4, ro685_5, (by omega), (by omega), ro685_8, ro685_9, ro685_10, ro685_11, ro685_12, ro685_13⟩
                  have hR := hR.up ht_h0 (by decide) k709
                  refine lv_aload_n hx hb dX12_readClause_161 rfl (lv_at hl 4 rfl) ?_
                  obtain ⟨q711, eq711⟩ := tp_pos (tp_in hG ht_h0 (by decide)) g710
                  refine va_get (D := (dC, dI)) (ci := 12) (v := .ref (ρ h0 21)) (C := RX12) (T := TX12) (N := 53) hx hb hts hfX12 hown hK hP q711 eq711 rfl 21 (by decide) (hts (.fieldLink RX12 34 "ColdShipsModel" "nClause" "[I") wa_156) (fun _ h9 => h9) rfl dX12_readClause_162 ?_
                  refine lv_iload hx hb dX12_readClause_165 (lv_at hl 0 rfl) ?_
                  refine lv_iload_n hx hb dX12_readClause_167 rfl (lv_at hl 1 rfl) ?_
                  refine lv_if_eq (tgt := 175) hx hb dX12_readClause_168 (by decide) (fun c712 => ?_) (fun c712 => ?_)
                  · have ic712 : r52.toInt = 0 := zi_eq rfl rfl c712
                    refine lv_iconst (v := 1) hx hb dX12_readClause_175 (by decide) ?_
                    have hf_713 : f683 (ρ h0 21) = .inl (κ 0, 60, .inl g27) := (hF684 _ (by rw [y7]; decide)).trans hf_o26
                    have hf_714 : f700 (ρ h0 21) = .inl (κ 0, 60, .inl g27) := (k701 _ (tp_ne y7 ht_h0 (by decide))).trans hf_713
                    have hf_715 : f708 (ρ h0 21) = .inl (κ 0, 60, .inl g27) := (k709 _ (tp_ne y7 ht_h0 (by decide))).trans hf_714
                    obtain ⟨q716, eq716⟩ := tp_pos (tp_in hG y7 (by decide)) hf_715
                    refine va_iast hx hb hK hP hD hS q716 0 eq716 rfl (vp_in_iff.mpr ⟨by omega, by omega⟩) dX12_readClause_176 (tp_k (.inl (κ 0, 60, .inl (upd g27 z706.toNatClampNeg (1 : Int32)))) hD (tp_in hG y7 (by decide)) eq716 (fun f717 H locs hP hD hS g719 k718 => ?_))
                    have hT := hT.up y7 g719 k718 tp_o51
                    have hR := hR.up y7 (by decide) k718
                    have hU721 : mo_U (mo_R g27) (mo_R (upd g27 z706.toNatClampNeg (1 : Int32))) (5 * o685_x20.toInt) (1) := mo_up (by omega) (show (1 : Int32).toInt = 1 from rfl) (by omega)
                    generalize (upd g27 z706.toNatClampNeg (1 : Int32)) = g720 at g719 hU721
                    refine lv_aload_n hx hb dX12_readClause_177 rfl (lv_at hl 4 rfl) ?_
                    have hf_722 : f717 h0 = .inr (12, [.int o685_x0, .int o685_x1, .ref (ρ h0 2), .ref (ρ h0 3), .ref (ρ h0 4), .ref (ρ h0 5), .ref (ρ h0 6), .int o685_x7, .ref (ρ h0 8), .int o685_x9, .int o685_x10, .int o685_x11, .int o685_x12, .long o685_x13, .int o685_x14, .int o685_x15, .int o685_x16, .int o685_x17, .int o685_x18, .int z699, .int z707, .ref (ρ h0 21), .int o685_x22, .ref (ρ h0 23), .ref (ρ h0 24), .int o685_x25, .ref (ρ h0 26), .ref (ρ h0 27), .int o685_x28, .int o685_x29, .ref (ρ h0 30), .ref (ρ h0 31), .int o685_x32, .long o685_x33, .long o685_x34, .long o685_x35, .int o685_x36, .int o685_x37, .int o685_x38, .ref (ρ h0 39), .ref (ρ h0 40), .ref (ρ h0 41), .ref (ρ h0 42), .ref (ρ h0 43), .ref (ρ h0 44), .ref (ρ h0 45), .ref (ρ h0 46), .int o685_x47, .int o685_x48, .ref (ρ h0 49), .ref (ρ h0 50), .ref (ρ h0 51), .ref (ρ h0 52)]) := (k718 _ (tp_ne ht_h0 y7 (by decide))).trans g710
                    obtain ⟨q723, eq723⟩ := tp_pos (tp_in hG ht_h0 (by decide)) hf_722
                    refine va_get (D := (dC, dI)) (ci := 12) (v := .ref (ρ h0 21)) (C := RX12) (T := TX12) (N := 53) hx hb hts hfX12 hown hK hP q723 eq723 rfl 21 (by decide) (hts (.fieldLink RX12 34 "ColdShipsModel" "nClause" "[I") wa_156) (fun _ h9 => h9) rfl dX12_readClause_178 ?_
                    refine lv_iload hx hb dX12_readClause_181 (lv_at hl 0 rfl) ?_
                    refine lv_iconst (v := 1) hx hb dX12_readClause_183 (by decide) ?_
                    refine lv_iadd hx hb dX12_readClause_184 ?_
                    refine lv_topi (fun z724 ez724 => ?_)
                    have iz724 : z724.toInt = z706.toInt + 1 := zi_add ez724 rfl rfl (by omega) (by omega)
                    refine lv_aload_n hx hb dX12_readClause_185 rfl (lv_at hl 4 rfl) ?_
                    refine va_get (D := (dC, dI)) (ci := 12) (v := .int o685_x22) (C := RX12) (T := TX12) (N := 53) hx hb hts hfX12 hown hK hP q723 eq723 rfl 22 (by decide) (hts (.fieldLink RX12 297 "ColdShipsModel" "nCode" "I") wa_989) (fun _ h9 => h9) rfl dX12_readClause_186 ?_
                    obtain ⟨q725, eq725⟩ := tp_pos (tp_in hG y7 (by decide)) g719
                    refine va_iast hx hb hK hP hD hS q725 0 eq725 rfl (vp_in_iff.mpr ⟨by omega, by omega⟩) dX12_readClause_189 (tp_k (.inl (κ 0, 60, .inl (upd g720 z724.toNatClampNeg o685_x22))) hD (tp_in hG y7 (by decide)) eq725 (fun f726 H locs hP hD hS g728 k727 => ?_))
                    have hT := hT.up y7 g728 k727 tp_o51
                    have hR := hR.up y7 (by decide) k727
                    have hU730 : mo_U (mo_R g720) (mo_R (upd g720 z724.toNatClampNeg o685_x22)) (5 * o685_x20.toInt + 1) (o685_x22.toInt) := mo_up (by omega) (rfl : o685_x22.toInt = _) (by omega)
                    generalize (upd g720 z724.toNatClampNeg o685_x22) = g729 at g728 hU730
                    refine lv_aload_n hx hb dX12_readClause_190 rfl (lv_at hl 4 rfl) ?_
                    refine lv_iconst (v := 0) hx hb dX12_readClause_191 (by decide) ?_
                    have hf_731 : f726 h0 = .inr (12, [.int o685_x0, .int o685_x1, .ref (ρ h0 2), .ref (ρ h0 3), .ref (ρ h0 4), .ref (ρ h0 5), .ref (ρ h0 6), .int o685_x7, .ref (ρ h0 8), .int o685_x9, .int o685_x10, .int o685_x11, .int o685_x12, .long o685_x13, .int o685_x14, .int o685_x15, .int o685_x16, .int o685_x17, .int o685_x18, .int z699, .int z707, .ref (ρ h0 21), .int o685_x22, .ref (ρ h0 23), .ref (ρ h0 24), .int o685_x25, .ref (ρ h0 26), .ref (ρ h0 27), .int o685_x28, .int o685_x29, .ref (ρ h0 30), .ref (ρ h0 31), .int o685_x32, .long o685_x33, .long o685_x34, .long o685_x35, .int o685_x36, .int o685_x37, .int o685_x38, .ref (ρ h0 39), .ref (ρ h0 40), .ref (ρ h0 41), .ref (ρ h0 42), .ref (ρ h0 43), .ref (ρ h0 44), .ref (ρ h0 45), .ref (ρ h0 46), .int o685_x47, .int o685_x48, .ref (ρ h0 49), .ref (ρ h0 50), .ref (ρ h0 51), .ref (ρ h0 52)]) := (k727 _ (tp_ne ht_h0 y7 (by decide))).trans hf_722
                    have tf732 : tp_fld (f726 h0) 22 = o685_x22.toInt := tff_22 hf_731
                    have hf_733 : f683 (ρ h0 23) = .inl (κ 0, 400, .inl g30) := (hF684 _ (by rw [y8]; decide)).trans hf_o29
                    have hf_734 : f700 (ρ h0 23) = .inl (κ 0, 400, .inl g30) := (k701 _ (tp_ne y8 ht_h0 (by decide))).trans hf_733
                    have hf_735 : f708 (ρ h0 23) = .inl (κ 0, 400, .inl g30) := (k709 _ (tp_ne y8 ht_h0 (by decide))).trans hf_734
                    have hf_736 : f717 (ρ h0 23) = .inl (κ 0, 400, .inl g30) := (k718 _ (tp_ne y8 y7 (by decide))).trans hf_735
                    have hf_737 : f726 (ρ h0 23) = .inl (κ 0, 400, .inl g30) := (k727 _ (tp_ne y8 y7 (by decide))).trans hf_736
                    have tf738 : mo_i (f726 (ρ h0 23)) = g30 := tfa_i hf_737
                    have hf_739 : f683 (ρ h0 24) = .inl (κ 0, 400, .inl g33) := (hF684 _ (by rw [y9]; decide)).trans hf_o32
                    have hf_740 : f700 (ρ h0 24) = .inl (κ 0, 400, .inl g33) := (k701 _ (tp_ne y9 ht_h0 (by decide))).trans hf_739
                    have hf_741 : f708 (ρ h0 24) = .inl (κ 0, 400, .inl g33) := (k709 _ (tp_ne y9 ht_h0 (by decide))).trans hf_740
                    have hf_742 : f717 (ρ h0 24) = .inl (κ 0, 400, .inl g33) := (k718 _ (tp_ne y9 y7 (by decide))).trans hf_741
                    have hf_743 : f726 (ρ h0 24) = .inl (κ 0, 400, .inl g33) := (k727 _ (tp_ne y9 y7 (by decide))).trans hf_742
                    have tf744 : mo_i (f726 (ρ h0 24)) = g33 := tfa_i hf_743
                    have tf745 : tp_fld (f726 h0) 9 = o685_x9.toInt := tff_9 hf_731
                    have tf746 : tp_fld (f726 h0) 19 = z699.toInt := tff_19 hf_731
                    have tf747 : tp_fld (f726 h0) 20 = z707.toInt := tff_20 hf_731
                    have tf748 : tp_fld (f726 h0) 10 = o685_x10.toInt := tff_10 hf_731
                    have tf749 : tp_fld (f726 h0) 11 = o685_x11.toInt := tff_11 hf_731
                    have tf750 : tp_fld (f726 h0) 12 = o685_x12.toInt := tff_12 hf_731
                    have tf751 : mo_fj (f726 h0) 13 = o685_x13.toInt := tff_13 hf_731
                    have tf752 : tp_fld (f726 h0) 15 = o685_x15.toInt := tff_15 hf_731
                    obtain ⟨q753, eq753⟩ := tp_pos (tp_in hG ht_h0 (by decide)) hf_731
                    have hFc := tp_fr hD hS hA
                    refine va_callv (va_runV (As := [.int 0]) (rest := []) ⟨hx, hb, hml, hown, hts⟩ (t_X12_readExpression l dC dI _ κ τ ν ρ L f726 hG hT h0 (0) ht_h0 (by first | decide | omega) (by first | (simp only [tf748, tf749, tf745, tf750, tf751, mo_i1, mo_l1]; exact (show (o685_x10.toInt ≤ o685_x11.toInt ∧ o685_x11.toInt ≤ o685_x9.toInt ∧ (o685_x12.toInt = 0 ∨ o685_x10.toInt < o685_x11.toInt) ∧ (o685_x12.toInt = 1 → o685_x11.toInt = o685_x10.toInt + 1 → o685_x13.toInt ≤ 26)) from by have : (0 : Int32).toInt = 0 := rfl; first | omega | decide)) | (rw [tf748, tf749, tf745, tf750, tf751]; exact (show (o685_x10.toInt ≤ o685_x11.toInt ∧ o685_x11.toInt ≤ o685_x9.toInt ∧ (o685_x12.toInt = 0 ∨ o685_x10.toInt < o685_x11.toInt) ∧ (o685_x12.toInt = 1 → o685_x11.toInt = o685_x10.toInt + 1 → o685_x13.toInt ≤ 26)) from by have : (0 : Int32).toInt = 0 := rfl; first | omega | decide))) (by first | (simp only [tf752, mo_i1, mo_l1]; exact (show o685_x15.toInt = 0 from by have : (0 : Int32).toInt = 0 := rfl; first | omega | decide)) | (rw [tf752]; exact (show o685_x15.toInt = 0 from by have : (0 : Int32).toInt = 0 := rfl; first | omega | decide))) (by first | (simp only [tf732, tf748, mo_i1, mo_l1]; exact (show o685_x22.toInt ≤ o685_x10.toInt from by have : (0 : Int32).toInt = 0 := rfl; first | omega | decide)) | (rw [tf732, tf748]; exact (show o685_x22.toInt ≤ o685_x10.toInt from by have : (0 : Int32).toInt = 0 := rfl; first | omega | decide)))) (cwV 1 hts gX12_readClause_X12_readExpression rfl rfl rfl ⟨rfl, pd_X12_readExpression⟩ ⟨Nat.le_of_ble_eq_true rfl, Nat.le_of_ble_eq_true rfl⟩) ⟨pz_blind, va_recv hK hP (ci := 12) (q0 := q753) rfl eq753, pz_pre hP hK hD hN⟩ rfl rfl hl.1 rfl (lv_room (Nat.le_of_ble_eq_true rfl)) dX12_readClause_192 ⟨Nat.le_of_ble_eq_true rfl, Nat.le_of_ble_eq_true rfl⟩) hS (fun q _ h => hFc q h) hFc (fun f756 t H1 locs ht hvm hw755 hB hz1 hk1 hS => ?_)
                    obtain ⟨hT, hF757, hw755p⟩ := hw755
                    have hR := hR.then hF757 (by decide)
                    have hP := hB.1; rw [ht] at hP; have hD := tp_ad f756 hD; clear hB hFc hz1 hk1; subst ht; generalize t.heap = H at hP hS ⊢
                    obtain ⟨o758_x0, o758_x1, o758_x7, o758_x9, o758_x10, o758_x11, o758_x12, o758_x13, o758_x14, o758_x15, o758_x16, o758_x17, o758_x18, o758_x19, o758_x20, o758_x22, o758_x25, o758_x28, o758_x29, o758_x32, o758_x33, o758_x34, o758_x35, o758_x36, o758_x37, o758_x38, o758_x47, o758_x48, hf_o758, ro758_0, ro758_1, ro758_2, ro758_3, ro758_4, ro758_5, ro758_6, ro758_7, ro758_8, ro758_9, ro758_10, ro758_11, ro758_12, ro758_13⟩ := tpo_13 hT ht_h0
                    have tf759 : tp_fld (f756 h0) 10 = o758_x10.toInt := tff_10 hf_o758
                    have tf760 : tp_fld (f756 h0) 11 = o758_x11.toInt := tff_11 hf_o758
                    have tf761 : tp_fld (f756 h0) 9 = o758_x9.toInt := tff_9 hf_o758
                    have tf762 : tp_fld (f756 h0) 12 = o758_x12.toInt := tff_12 hf_o758
                    have tf763 : mo_fj (f756 h0) 13 = o758_x13.toInt := tff_13 hf_o758
                    have tf764 : tp_fld (f756 h0) 22 = o758_x22.toInt := tff_22 hf_o758
                    have tf765 : tp_fld (f756 h0) 15 = o758_x15.toInt := tff_15 hf_o758
                    obtain ⟨g767, hf_o766⟩ := tpo_53 hT y8
                    have tf768 : mo_i (f756 (ρ h0 23)) = g767 := tfa_i hf_o766
                    obtain ⟨g770, hf_o769⟩ := tpo_54 hT y9
                    have tf771 : mo_i (f756 (ρ h0 24)) = g770 := tfa_i hf_o769
                    have tf772 : tp_fld (f756 h0) 19 = o758_x19.toInt := tff_19 hf_o758
                    have tf773 : tp_fld (f756 h0) 20 = o758_x20.toInt := tff_20 hf_o758
                    have tk774 : (o758_x10.toInt ≤ o758_x11.toInt ∧ o758_x11.toInt ≤ o758_x9.toInt ∧ (o758_x12.toInt = 0 ∨ o758_x10.toInt < o758_x11.toInt) ∧ (o758_x12.toInt = 1 → o758_x11.toInt = o758_x10.toInt + 1 → o758_x13.toInt ≤ 26)) ∧ o685_x22.toInt ≤ o758_x22.toInt ∧ (o758_x15.toInt = 0 → o758_x22.toInt ≤ o758_x10.toInt ∧ mo_W2 (mo_R g767) (mo_R g770) o685_x22.toInt o758_x22.toInt ∧ mo_FR o685_x22.toInt (mo_R g30) (mo_R g33) (mo_R g767) (mo_R g770)) ∧ o758_x9.toInt = o685_x9.toInt ∧ o758_x19.toInt = z699.toInt ∧ o758_x20.toInt = z707.toInt := by have q9 := hw755p; first | (simp only [tf759, tf760, tf761, tf762, tf763, tf732, tf764, tf765, tf768, tf771, tf738, tf744, tf745, tf772, tf746, tf773, tf747, mo_i1, mo_l1] at q9; exact q9) | (rw [tf759, tf760, tf761, tf762, tf763, tf732, tf764, tf765, tf768, tf771, tf738, tf744, tf745, tf772, tf746, tf773, tf747] at q9; exact q9)
                    refine lv_aload_n hx hb dX12_readClause_195 rfl (lv_at hl 4 rfl) ?_
                    obtain ⟨q775, eq775⟩ := tp_pos (tp_in hG ht_h0 (by decide)) hf_o758
                    refine va_get (D := (dC, dI)) (ci := 12) (v := .ref (ρ h0 21)) (C := RX12) (T := TX12) (N := 53) hx hb hts hfX12 hown hK hP q775 eq775 rfl 21 (by decide) (hts (.fieldLink RX12 34 "ColdShipsModel" "nClause" "[I") wa_156) (fun _ h9 => h9) rfl dX12_readClause_196 ?_
                    refine lv_iload hx hb dX12_readClause_199 (lv_at hl 0 rfl) ?_
                    refine lv_iconst (v := 2) hx hb dX12_readClause_201 (by decide) ?_
                    refine lv_iadd hx hb dX12_readClause_202 ?_
                    refine lv_topi (fun z776 ez776 => ?_)
                    have iz776 : z776.toInt = z706.toInt + 2 := zi_add ez776 rfl rfl (by omega) (by omega)
                    refine lv_aload_n hx hb dX12_readClause_203 rfl (lv_at hl 4 rfl) ?_
                    refine va_get (D := (dC, dI)) (ci := 12) (v := .int o758_x22) (C := RX12) (T := TX12) (N := 53) hx hb hts hfX12 hown hK hP q775 eq775 rfl 22 (by decide) (hts (.fieldLink RX12 297 "ColdShipsModel" "nCode" "I") wa_989) (fun _ h9 => h9) rfl dX12_readClause_204 ?_
                    have hf_777 : f756 (ρ h0 21) = .inl (κ 0, 60, .inl g729) := (hF757 _ (by rw [y7]; decide)).trans g728
                    obtain ⟨q778, eq778⟩ := tp_pos (tp_in hG y7 (by decide)) hf_777
                    refine va_iast hx hb hK hP hD hS q778 0 eq778 rfl (vp_in_iff.mpr ⟨by omega, by omega⟩) dX12_readClause_207 (tp_k (.inl (κ 0, 60, .inl (upd g729 z776.toNatClampNeg o758_x22))) hD (tp_in hG y7 (by decide)) eq778 (fun f779 H locs hP hD hS g781 k780 => ?_))
                    have hT := hT.up y7 g781 k780 tp_o51
                    have hR := hR.up y7 (by decide) k780
                    have hU783 : mo_U (mo_R g729) (mo_R (upd g729 z776.toNatClampNeg o758_x22)) (5 * o685_x20.toInt + 2) (o758_x22.toInt) := mo_up (by omega) (rfl : o758_x22.toInt = _) (by omega)
                    generalize (upd g729 z776.toNatClampNeg o758_x22) = g782 at g781 hU783
                    refine lv_aload_n hx hb dX12_readClause_208 rfl (lv_at hl 4 rfl) ?_
                    have hf_784 : f779 h0 = .inr (12, [.int o758_x0, .int o758_x1, .ref (ρ h0 2), .ref (ρ h0 3), .ref (ρ h0 4), .ref (ρ h0 5), .ref (ρ h0 6), .int o758_x7, .ref (ρ h0 8), .int o758_x9, .int o758_x10, .int o758_x11, .int o758_x12, .long o758_x13, .int o758_x14, .int o758_x15, .int o758_x16, .int o758_x17, .int o758_x18, .int o758_x19, .int o758_x20, .ref (ρ h0 21), .int o758_x22, .ref (ρ h0 23), .ref (ρ h0 24), .int o758_x25, .ref (ρ h0 26), .ref (ρ h0 27), .int o758_x28, .int o758_x29, .ref (ρ h0 30), .ref (ρ h0 31), .int o758_x32, .long o758_x33, .long o758_x34, .long o758_x35, .int o758_x36, .int o758_x37, .int o758_x38, .ref (ρ h0 39), .ref (ρ h0 40), .ref (ρ h0 41), .ref (ρ h0 42), .ref (ρ h0 43), .ref (ρ h0 44), .ref (ρ h0 45), .ref (ρ h0 46), .int o758_x47, .int o758_x48, .ref (ρ h0 49), .ref (ρ h0 50), .ref (ρ h0 51), .ref (ρ h0 52)]) := (k780 _ (tp_ne ht_h0 y7 (by decide))).trans hf_o758
                    obtain ⟨q785, eq785⟩ := tp_pos (tp_in hG ht_h0 (by decide)) hf_784
                    refine va_get (D := (dC, dI)) (ci := 12) (v := .ref (ρ h0 21)) (C := RX12) (T := TX12) (N := 53) hx hb hts hfX12 hown hK hP q785 eq785 rfl 21 (by decide) (hts (.fieldLink RX12 34 "ColdShipsModel" "nClause" "[I") wa_156) (fun _ h9 => h9) rfl dX12_readClause_209 ?_
                    refine lv_iload hx hb dX12_readClause_212 (lv_at hl 0 rfl) ?_
                    refine lv_iconst (v := 3) hx hb dX12_readClause_214 (by decide) ?_
                    refine lv_iadd hx hb dX12_readClause_215 ?_
                    refine lv_topi (fun z786 ez786 => ?_)
                    have iz786 : z786.toInt = z706.toInt + 3 := zi_add ez786 rfl rfl (by omega) (by omega)
                    refine lv_aload_n hx hb dX12_readClause_216 rfl (lv_at hl 4 rfl) ?_
                    refine va_get (D := (dC, dI)) (ci := 12) (v := .int o758_x22) (C := RX12) (T := TX12) (N := 53) hx hb hts hfX12 hown hK hP q785 eq785 rfl 22 (by decide) (hts (.fieldLink RX12 297 "ColdShipsModel" "nCode" "I") wa_989) (fun _ h9 => h9) rfl dX12_readClause_217 ?_
                    obtain ⟨q787, eq787⟩ := tp_pos (tp_in hG y7 (by decide)) g781
                    refine va_iast hx hb hK hP hD hS q787 0 eq787 rfl (vp_in_iff.mpr ⟨by omega, by omega⟩) dX12_readClause_220 (tp_k (.inl (κ 0, 60, .inl (upd g782 z786.toNatClampNeg o758_x22))) hD (tp_in hG y7 (by decide)) eq787 (fun f788 H locs hP hD hS g790 k789 => ?_))
                    have hT := hT.up y7 g790 k789 tp_o51
                    have hR := hR.up y7 (by decide) k789
                    have hU792 : mo_U (mo_R g782) (mo_R (upd g782 z786.toNatClampNeg o758_x22)) (5 * o685_x20.toInt + 3) (o758_x22.toInt) := mo_up (by omega) (rfl : o758_x22.toInt = _) (by omega)
                    generalize (upd g782 z786.toNatClampNeg o758_x22) = g791 at g790 hU792
                    refine lv_aload_n hx hb dX12_readClause_221 rfl (lv_at hl 4 rfl) ?_
                    have hf_793 : f788 h0 = .inr (12, [.int o758_x0, .int o758_x1, .ref (ρ h0 2), .ref (ρ h0 3), .ref (ρ h0 4), .ref (ρ h0 5), .ref (ρ h0 6), .int o758_x7, .ref (ρ h0 8), .int o758_x9, .int o758_x10, .int o758_x11, .int o758_x12, .long o758_x13, .int o758_x14, .int o758_x15, .int o758_x16, .int o758_x17, .int o758_x18, .int o758_x19, .int o758_x20, .ref (ρ h0 21), .int o758_x22, .ref (ρ h0 23), .ref (ρ h0 24), .int o758_x25, .ref (ρ h0 26), .ref (ρ h0 27), .int o758_x28, .int o758_x29, .ref (ρ h0 30), .ref (ρ h0 31), .int o758_x32, .long o758_x33, .long o758_x34, .long o758_x35, .int o758_x36, .int o758_x37, .int o758_x38, .ref (ρ h0 39), .ref (ρ h0 40), .ref (ρ h0 41), .ref (ρ h0 42), .ref (ρ h0 43), .ref (ρ h0 44), .ref (ρ h0 45), .ref (ρ h0 46), .int o758_x47, .int o758_x48, .ref (ρ h0 49), .ref (ρ h0 50), .ref (ρ h0 51), .ref (ρ h0 52)]) := (k789 _ (tp_ne ht_h0 y7 (by decide))).trans hf_784
                    obtain ⟨q794, eq794⟩ := tp_pos (tp_in hG ht_h0 (by decide)) hf_793
                    refine va_get (D := (dC, dI)) (ci := 12) (v := .int o758_x15) (C := RX12) (T := TX12) (N := 53) hx hb hts hfX12 hown hK hP q794 eq794 rfl 15 (by decide) (hts (.fieldLink RX12 261 "ColdShipsModel" "bad" "Z") wa_994) (fun _ h9 => h9) rfl dX12_readClause_222 ?_
                    refine lv_if_ne (tgt := 247) hx hb dX12_readClause_225 (by decide) (fun c795 => ?_) (fun c795 => ?_)
                    · have ic795 : o758_x15.toInt ≠ 0 := zi_ne rfl rfl c795
                      refine lv_aload_n hx hb dX12_readClause_247 rfl (lv_at hl 4 rfl) ?_
                      refine va_get (D := (dC, dI)) (ci := 12) (v := .ref (ρ h0 21)) (C := RX12) (T := TX12) (N := 53) hx hb hts hfX12 hown hK hP q794 eq794 rfl 21 (by decide) (hts (.fieldLink RX12 34 "ColdShipsModel" "nClause" "[I") wa_156) (fun _ h9 => h9) rfl dX12_readClause_248 ?_
                      refine lv_iload hx hb dX12_readClause_251 (lv_at hl 0 rfl) ?_
                      refine lv_iconst (v := 4) hx hb dX12_readClause_253 (by decide) ?_
                      refine lv_iadd hx hb dX12_readClause_254 ?_
                      refine lv_topi (fun z796 ez796 => ?_)
                      have iz796 : z796.toInt = z706.toInt + 4 := zi_add ez796 rfl rfl (by omega) (by omega)
                      refine lv_aload_n hx hb dX12_readClause_255 rfl (lv_at hl 4 rfl) ?_
                      refine va_get (D := (dC, dI)) (ci := 12) (v := .int o758_x22) (C := RX12) (T := TX12) (N := 53) hx hb hts hfX12 hown hK hP q794 eq794 rfl 22 (by decide) (hts (.fieldLink RX12 297 "ColdShipsModel" "nCode" "I") wa_989) (fun _ h9 => h9) rfl dX12_readClause_256 ?_
                      obtain ⟨q797, eq797⟩ := tp_pos (tp_in hG y7 (by decide)) g790
                      refine va_iast hx hb hK hP hD hS q797 0 eq797 rfl (vp_in_iff.mpr ⟨by omega, by omega⟩) dX12_readClause_259 (tp_k (.inl (κ 0, 60, .inl (upd g791 z796.toNatClampNeg o758_x22))) hD (tp_in hG y7 (by decide)) eq797 (fun f798 H locs hP hD hS g800 k799 => ?_))
                      have hT := hT.up y7 g800 k799 tp_o51
                      have hR := hR.up y7 (by decide) k799
                      have hU802 : mo_U (mo_R g791) (mo_R (upd g791 z796.toNatClampNeg o758_x22)) (5 * o685_x20.toInt + 4) (o758_x22.toInt) := mo_up (by omega) (rfl : o758_x22.toInt = _) (by omega)
                      generalize (upd g791 z796.toNatClampNeg o758_x22) = g801 at g800 hU802
                      have hf_803 : f798 h0 = .inr (12, [.int o758_x0, .int o758_x1, .ref (ρ h0 2), .ref (ρ h0 3), .ref (ρ h0 4), .ref (ρ h0 5), .ref (ρ h0 6), .int o758_x7, .ref (ρ h0 8), .int o758_x9, .int o758_x10, .int o758_x11, .int o758_x12, .long o758_x13, .int o758_x14, .int o758_x15, .int o758_x16, .int o758_x17, .int o758_x18, .int o758_x19, .int o758_x20, .ref (ρ h0 21), .int o758_x22, .ref (ρ h0 23), .ref (ρ h0 24), .int o758_x25, .ref (ρ h0 26), .ref (ρ h0 27), .int o758_x28, .int o758_x29, .ref (ρ h0 30), .ref (ρ h0 31), .int o758_x32, .long o758_x33, .long o758_x34, .long o758_x35, .int o758_x36, .int o758_x37, .int o758_x38, .ref (ρ h0 39), .ref (ρ h0 40), .ref (ρ h0 41), .ref (ρ h0 42), .ref (ρ h0 43), .ref (ρ h0 44), .ref (ρ h0 45), .ref (ρ h0 46), .int o758_x47, .int o758_x48, .ref (ρ h0 49), .ref (ρ h0 50), .ref (ρ h0 51), .ref (ρ h0 52)]) := (k799 _ (tp_ne ht_h0 y7 (by decide))).trans hf_793
                      have tf804 : tp_fld (f798 h0) 10 = o758_x10.toInt := tff_10 hf_803
                      have tf805 : tp_fld (f798 h0) 11 = o758_x11.toInt := tff_11 hf_803
                      have tf806 : tp_fld (f798 h0) 9 = o758_x9.toInt := tff_9 hf_803
                      have tf807 : tp_fld (f798 h0) 12 = o758_x12.toInt := tff_12 hf_803
                      have tf808 : mo_fj (f798 h0) 13 = o758_x13.toInt := tff_13 hf_803
                      have tf809 : tp_fld (f798 h0) 15 = o758_x15.toInt := tff_15 hf_803
                      have tf810 : tp_fld (f798 h0) 22 = o758_x22.toInt := tff_22 hf_803
                      have tf811 : tp_fld (f798 h0) 20 = o758_x20.toInt := tff_20 hf_803
                      have tf812 : tp_fld (f798 h0) 19 = o758_x19.toInt := tff_19 hf_803
                      have tf813 : mo_i (f798 (ρ h0 21)) = g801 := tfa_i g800
                      have hf_814 : f779 (ρ h0 23) = .inl (κ 0, 400, .inl g767) := (k780 _ (tp_ne y8 y7 (by decide))).trans hf_o766
                      have hf_815 : f788 (ρ h0 23) = .inl (κ 0, 400, .inl g767) := (k789 _ (tp_ne y8 y7 (by decide))).trans hf_814
                      have hf_816 : f798 (ρ h0 23) = .inl (κ 0, 400, .inl g767) := (k799 _ (tp_ne y8 y7 (by decide))).trans hf_815
                      have tf817 : mo_i (f798 (ρ h0 23)) = g767 := tfa_i hf_816
                      have hf_818 : f779 (ρ h0 24) = .inl (κ 0, 400, .inl g770) := (k780 _ (tp_ne y9 y7 (by decide))).trans hf_o769
                      have hf_819 : f788 (ρ h0 24) = .inl (κ 0, 400, .inl g770) := (k789 _ (tp_ne y9 y7 (by decide))).trans hf_818
                      have hf_820 : f798 (ρ h0 24) = .inl (κ 0, 400, .inl g770) := (k799 _ (tp_ne y9 y7 (by decide))).trans hf_819
                      have tf821 : mo_i (f798 (ρ h0 24)) = g770 := tfa_i hf_820
                      exact W.vret hx hb hr (fun t ht hW => ⟨⟨f798, rfl, ⟨hT, hR, (by first | (simp only [tf804, tf805, tf806, tf807, tf808, tf809, tf810, tf811, tf812, tf813, tf817, tf821, tf36, mo_i1, mo_l1]; exact (show (o758_x10.toInt ≤ o758_x11.toInt ∧ o758_x11.toInt ≤ o758_x9.toInt ∧ (o758_x12.toInt = 0 ∨ o758_x10.toInt < o758_x11.toInt) ∧ (o758_x12.toInt = 1 → o758_x11.toInt = o758_x10.toInt + 1 → o758_x13.toInt ≤ 26)) ∧ (o758_x15.toInt = 0 → o758_x22.toInt ≤ o758_x10.toInt ∧ o758_x20.toInt ≤ o758_x19.toInt ∧ mo_NC (mo_R g801) (mo_R g767) (mo_R g770) o758_x20.toInt o758_x22.toInt) ∧ o758_x9.toInt = o35_x9.toInt from ⟨by omega, fun q9 => by exfalso; omega, by omega⟩)) | (rw [tf804, tf805, tf806, tf807, tf808, tf809, tf810, tf811, tf812, tf813, tf817, tf821, tf36]; exact (show (o758_x10.toInt ≤ o758_x11.toInt ∧ o758_x11.toInt ≤ o758_x9.toInt ∧ (o758_x12.toInt = 0 ∨ o758_x10.toInt < o758_x11.toInt) ∧ (o758_x12.toInt = 1 → o758_x11.toInt = o758_x10.toInt + 1 → o758_x13.toInt ≤ 26)) ∧ (o758_x15.toInt = 0 → o758_x22.toInt ≤ o758_x10.toInt ∧ o758_x20.toInt ≤ o758_x19.toInt ∧ mo_NC (mo_R g801) (mo_R g767) (mo_R g770) o758_x20.toInt o758_x22.toInt) ∧ o758_x9.toInt = o35_x9.toInt from ⟨by omega, fun q9 => by exfalso; omega, by omega⟩)))⟩, by rw [ht]; exact hP, va_K.moved hW.alike hK, hD⟩, hS.F ht⟩) hS.2.2 dX12_readClause_260
                    · have ic795 : o758_x15.toInt = 0 := zi_nef rfl rfl c795
                      refine lv_aload_n hx hb dX12_readClause_228 rfl (lv_at hl 4 rfl) ?_
                      refine lv_ldc2 (own := RX12) (v := 294) hx hb hown (hts (.constantLong RX12 417 (294)) wa_1028) dX12_readClause_229 ?_
                      have tf822 : tp_fld (f788 h0) 12 = o758_x12.toInt := tff_12 hf_793
                      have tf823 : mo_fj (f788 h0) 13 = o758_x13.toInt := tff_13 hf_793
                      refine pz_calli (va_runV (As := [.long 294]) (rest := []) ⟨hx, hb, hml, hown, hts⟩ (t_X12_isWord l dC dI _ κ τ ν ρ L f788 hG hT h0 (294) ht_h0) (cwV 1 hts gX12_readClause_X12_isWord rfl rfl rfl ⟨rfl, pd_X12_isWord⟩ ⟨Nat.le_of_ble_eq_true rfl, Nat.le_of_ble_eq_true rfl⟩) ⟨pz_blind, va_recv hK hP (ci := 12) (q0 := q794) rfl eq794, pz_pre hP hK hD hN⟩ rfl rfl hl.1 rfl (lv_room (Nat.le_of_ble_eq_true rfl)) dX12_readClause_232 ⟨Nat.le_of_ble_eq_true rfl, Nat.le_of_ble_eq_true rfl⟩) (fun r824 hw825 => ?_)
                      obtain ⟨hw825r, hw825p⟩ := hw825
                      have tk826 : (r824.toInt ≠ 0 → o758_x12.toInt = 1 ∧ o758_x13.toInt = (294 : Int)) := by have q9 := hw825p; first | (simp only [tf822, tf823, mo_i1, mo_l1] at q9; exact q9) | (rw [tf822, tf823] at q9; exact q9)
                      refine lv_if_eq (tgt := 247) hx hb dX12_readClause_235 (by decide) (fun c827 => ?_) (fun c827 => ?_)
                      · have ic827 : r824.toInt = 0 := zi_eq rfl rfl c827
                        refine lv_aload_n hx hb dX12_readClause_247 rfl (lv_at hl 4 rfl) ?_
                        refine va_get (D := (dC, dI)) (ci := 12) (v := .ref (ρ h0 21)) (C := RX12) (T := TX12) (N := 53) hx hb hts hfX12 hown hK hP q794 eq794 rfl 21 (by decide) (hts (.fieldLink RX12 34 "ColdShipsModel" "nClause" "[I") wa_156) (fun _ h9 => h9) rfl dX12_readClause_248 ?_
                        refine lv_iload hx hb dX12_readClause_251 (lv_at hl 0 rfl) ?_
                        refine lv_iconst (v := 4) hx hb dX12_readClause_253 (by decide) ?_
                        refine lv_iadd hx hb dX12_readClause_254 ?_
                        refine lv_topi (fun z828 ez828 => ?_)
                        have iz828 : z828.toInt = z706.toInt + 4 := zi_add ez828 rfl rfl (by omega) (by omega)
                        refine lv_aload_n hx hb dX12_readClause_255 rfl (lv_at hl 4 rfl) ?_
                        refine va_get (D := (dC, dI)) (ci := 12) (v := .int o758_x22) (C := RX12) (T := TX12) (N := 53) hx hb hts hfX12 hown hK hP q794 eq794 rfl 22 (by decide) (hts (.fieldLink RX12 297 "ColdShipsModel" "nCode" "I") wa_989) (fun _ h9 => h9) rfl dX12_readClause_256 ?_
                        obtain ⟨q829, eq829⟩ := tp_pos (tp_in hG y7 (by decide)) g790
                        refine va_iast hx hb hK hP hD hS q829 0 eq829 rfl (vp_in_iff.mpr ⟨by omega, by omega⟩) dX12_readClause_259 (tp_k (.inl (κ 0, 60, .inl (upd g791 z828.toNatClampNeg o758_x22))) hD (tp_in hG y7 (by decide)) eq829 (fun f830 H locs hP hD hS g832 k831 => ?_))
                        have hT := hT.up y7 g832 k831 tp_o51
                        have hR := hR.up y7 (by decide) k831
                        have hU834 : mo_U (mo_R g791) (mo_R (upd g791 z828.toNatClampNeg o758_x22)) (5 * o685_x20.toInt + 4) (o758_x22.toInt) := mo_up (by omega) (rfl : o758_x22.toInt = _) (by omega)
                        generalize (upd g791 z828.toNatClampNeg o758_x22) = g833 at g832 hU834
                        have hf_835 : f830 h0 = .inr (12, [.int o758_x0, .int o758_x1, .ref (ρ h0 2), .ref (ρ h0 3), .ref (ρ h0 4), .ref (ρ h0 5), .ref (ρ h0 6), .int o758_x7, .ref (ρ h0 8), .int o758_x9, .int o758_x10, .int o758_x11, .int o758_x12, .long o758_x13, .int o758_x14, .int o758_x15, .int o758_x16, .int o758_x17, .int o758_x18, .int o758_x19, .int o758_x20, .ref (ρ h0 21), .int o758_x22, .ref (ρ h0 23), .ref (ρ h0 24), .int o758_x25, .ref (ρ h0 26), .ref (ρ h0 27), .int o758_x28, .int o758_x29, .ref (ρ h0 30), .ref (ρ h0 31), .int o758_x32, .long o758_x33, .long o758_x34, .long o758_x35, .int o758_x36, .int o758_x37, .int o758_x38, .ref (ρ h0 39), .ref (ρ h0 40), .ref (ρ h0 41), .ref (ρ h0 42), .ref (ρ h0 43), .ref (ρ h0 44), .ref (ρ h0 45), .ref (ρ h0 46), .int o758_x47, .int o758_x48, .ref (ρ h0 49), .ref (ρ h0 50), .ref (ρ h0 51), .ref (ρ h0 52)]) := (k831 _ (tp_ne ht_h0 y7 (by decide))).trans hf_793
                        have tf836 : tp_fld (f830 h0) 10 = o758_x10.toInt := tff_10 hf_835
                        have tf837 : tp_fld (f830 h0) 11 = o758_x11.toInt := tff_11 hf_835
                        have tf838 : tp_fld (f830 h0) 9 = o758_x9.toInt := tff_9 hf_835
                        have tf839 : tp_fld (f830 h0) 12 = o758_x12.toInt := tff_12 hf_835
                        have tf840 : mo_fj (f830 h0) 13 = o758_x13.toInt := tff_13 hf_835
                        have tf841 : tp_fld (f830 h0) 15 = o758_x15.toInt := tff_15 hf_835
                        have tf842 : tp_fld (f830 h0) 22 = o758_x22.toInt := tff_22 hf_835
                        have tf843 : tp_fld (f830 h0) 20 = o758_x20.toInt := tff_20 hf_835
                        have tf844 : tp_fld (f830 h0) 19 = o758_x19.toInt := tff_19 hf_835
                        have tf845 : mo_i (f830 (ρ h0 21)) = g833 := tfa_i g832
                        have hf_846 : f779 (ρ h0 23) = .inl (κ 0, 400, .inl g767) := (k780 _ (tp_ne y8 y7 (by decide))).trans hf_o766
                        have hf_847 : f788 (ρ h0 23) = .inl (κ 0, 400, .inl g767) := (k789 _ (tp_ne y8 y7 (by decide))).trans hf_846
                        have hf_848 : f830 (ρ h0 23) = .inl (κ 0, 400, .inl g767) := (k831 _ (tp_ne y8 y7 (by decide))).trans hf_847
                        have tf849 : mo_i (f830 (ρ h0 23)) = g767 := tfa_i hf_848
                        have hf_850 : f779 (ρ h0 24) = .inl (κ 0, 400, .inl g770) := (k780 _ (tp_ne y9 y7 (by decide))).trans hf_o769
                        have hf_851 : f788 (ρ h0 24) = .inl (κ 0, 400, .inl g770) := (k789 _ (tp_ne y9 y7 (by decide))).trans hf_850
                        have hf_852 : f830 (ρ h0 24) = .inl (κ 0, 400, .inl g770) := (k831 _ (tp_ne y9 y7 (by decide))).trans hf_851
                        have tf853 : mo_i (f830 (ρ h0 24)) = g770 := tfa_i hf_852
                        exact W.vret hx hb hr (fun t ht hW => ⟨⟨f830, rfl, ⟨hT, hR, (by first | (simp only [tf836, tf837, tf838, tf839, tf840, tf841, tf842, tf843, tf844, tf845, tf849, tf853, tf36, mo_i1, mo_l1]; exact (show (o758_x10.toInt ≤ o758_x11.toInt ∧ o758_x11.toInt ≤ o758_x9.toInt ∧ (o758_x12.toInt = 0 ∨ o758_x10.toInt < o758_x11.toInt) ∧ (o758_x12.toInt = 1 → o758_x11.toInt = o758_x10.toInt + 1 → o758_x13.toInt ≤ 26)) ∧ (o758_x15.toInt = 0 → o758_x22.toInt ≤ o758_x10.toInt ∧ o758_x20.toInt ≤ o758_x19.toInt ∧ mo_NC (mo_R g833) (mo_R g767) (mo_R g770) o758_x20.toInt o758_x22.toInt) ∧ o758_x9.toInt = o35_x9.toInt from ⟨by omega, fun q9 => ⟨by omega, by omega, h5.add (by omega) (by omega) hU721 hU730 hU783 hU792 hU834 ((tk774.2.2.1 (by omega)).2.2) ((tk774.2.2.1 (by omega)).2.1) (mo_W2.rf _ _ (by omega)) (by omega) (by omega) (by omega)⟩, by omega⟩)) | (rw [tf836, tf837, tf838, tf839, tf840, tf841, tf842, tf843, tf844, tf845, tf849, tf853, tf36]; exact (show (o758_x10.toInt ≤ o758_x11.toInt ∧ o758_x11.toInt ≤ o758_x9.toInt ∧ (o758_x12.toInt = 0 ∨ o758_x10.toInt < o758_x11.toInt) ∧ (o758_x12.toInt = 1 → o758_x11.toInt = o758_x10.toInt + 1 → o758_x13.toInt ≤ 26)) ∧ (o758_x15.toInt = 0 → o758_x22.toInt ≤ o758_x10.toInt ∧ o758_x20.toInt ≤ o758_x19.toInt ∧ mo_NC (mo_R g833) (mo_R g767) (mo_R g770) o758_x20.toInt o758_x22.toInt) ∧ o758_x9.toInt = o35_x9.toInt from ⟨by omega, fun q9 => ⟨by omega, by omega, h5.add (by omega) (by omega) hU721 hU730 hU783 hU792 hU834 ((tk774.2.2.1 (by omega)).2.2) ((tk774.2.2.1 (by omega)).2.1) (mo_W2.rf _ _ (by omega)) (by omega) (by omega) (by omega)⟩, by omega⟩)))⟩, by rw [ht]; exact hP, va_K.moved hW.alike hK, hD⟩, hS.F ht⟩) hS.2.2 dX12_readClause_260
                      · have ic827 : r824.toInt ≠ 0 := zi_eqf rfl rfl c827
                        refine lv_aload_n hx hb dX12_readClause_238 rfl (lv_at hl 4 rfl) ?_
                        have tf854 : tp_fld (f788 h0) 11 = o758_x11.toInt := tff_11 hf_793
                        have tf855 : tp_fld (f788 h0) 9 = o758_x9.toInt := tff_9 hf_793
                        have tf856 : tp_fld (f788 h0) 15 = o758_x15.toInt := tff_15 hf_793
                        have tf857 : tp_fld (f788 h0) 19 = o758_x19.toInt := tff_19 hf_793
                        have tf858 : tp_fld (f788 h0) 20 = o758_x20.toInt := tff_20 hf_793
                        have tf859 : tp_fld (f788 h0) 22 = o758_x22.toInt := tff_22 hf_793
                        have tf860 : tp_fld (f788 h0) 28 = o758_x28.toInt := tff_28 hf_793
                        have hFc := tp_fr hD hS hA
                        refine va_callv (va_runV (As := []) (rest := []) ⟨hx, hb, hml, hown, hts⟩ (t_X12_next l dC dI _ κ τ ν ρ L f788 hG hT h0 ht_h0 (by first | (simp only [tf854, tf855, mo_i1, mo_l1]; exact (show o758_x11.toInt ≤ o758_x9.toInt from by first | omega | decide)) | (rw [tf854, tf855]; exact (show o758_x11.toInt ≤ o758_x9.toInt from by first | omega | decide)))) (cwV 0 hts gX12_readClause_X12_next rfl rfl rfl ⟨rfl, pd_X12_next⟩ ⟨Nat.le_of_ble_eq_true rfl, Nat.le_of_ble_eq_true rfl⟩) ⟨pz_blind, va_recv hK hP (ci := 12) (q0 := q794) rfl eq794, pz_pre hP hK hD hN⟩ rfl rfl hl.1 rfl (lv_room (Nat.le_of_ble_eq_true rfl)) dX12_readClause_239 ⟨Nat.le_of_ble_eq_true rfl, Nat.le_of_ble_eq_true rfl⟩) hS (fun q _ h => hFc q h) hFc (fun f863 t H1 locs ht hvm hw862 hB hz1 hk1 hS => ?_)
                        obtain ⟨hT, hF864, hw862p⟩ := hw862
                        have hR := hR.then hF864 (by decide)
                        have hP := hB.1; rw [ht] at hP; have hD := tp_ad f863 hD; clear hB hFc hz1 hk1; subst ht; generalize t.heap = H at hP hS ⊢
                        obtain ⟨o865_x0, o865_x1, o865_x7, o865_x9, o865_x10, o865_x11, o865_x12, o865_x13, o865_x14, o865_x15, o865_x16, o865_x17, o865_x18, o865_x19, o865_x20, o865_x22, o865_x25, o865_x28, o865_x29, o865_x32, o865_x33, o865_x34, o865_x35, o865_x36, o865_x37, o865_x38, o865_x47, o865_x48, hf_o865, ro865_0, ro865_1, ro865_2, ro865_3, ro865_4, ro865_5, ro865_6, ro865_7, ro865_8, ro865_9, ro865_10, ro865_11, ro865_12, ro865_13⟩ := tpo_13 hT ht_h0
                        have tf866 : tp_fld (f863 h0) 10 = o865_x10.toInt := tff_10 hf_o865
                        have tf867 : tp_fld (f863 h0) 11 = o865_x11.toInt := tff_11 hf_o865
                        have tf868 : tp_fld (f863 h0) 9 = o865_x9.toInt := tff_9 hf_o865
                        have tf869 : tp_fld (f863 h0) 12 = o865_x12.toInt := tff_12 hf_o865
                        have tf870 : mo_fj (f863 h0) 13 = o865_x13.toInt := tff_13 hf_o865
                        have tf871 : tp_fld (f863 h0) 15 = o865_x15.toInt := tff_15 hf_o865
                        have tf872 : tp_fld (f863 h0) 19 = o865_x19.toInt := tff_19 hf_o865
                        have tf873 : tp_fld (f863 h0) 20 = o865_x20.toInt := tff_20 hf_o865
                        have tf874 : tp_fld (f863 h0) 22 = o865_x22.toInt := tff_22 hf_o865
                        have tf875 : tp_fld (f863 h0) 28 = o865_x28.toInt := tff_28 hf_o865
                        have tk876 : (o865_x10.toInt ≤ o865_x11.toInt ∧ o865_x11.toInt ≤ o865_x9.toInt ∧ (o865_x12.toInt = 0 ∨ o865_x10.toInt < o865_x11.toInt) ∧ (o865_x12.toInt = 1 → o865_x11.toInt = o865_x10.toInt + 1 → o865_x13.toInt ≤ 26)) ∧ o758_x11.toInt ≤ o865_x10.toInt ∧ o865_x9.toInt = o758_x9.toInt ∧ o865_x15.toInt = o758_x15.toInt ∧ o865_x19.toInt = o758_x19.toInt ∧ o865_x20.toInt = o758_x20.toInt ∧ o865_x22.toInt = o758_x22.toInt ∧ o865_x28.toInt = o758_x28.toInt := by have q9 := hw862p; first | (simp only [tf866, tf867, tf868, tf869, tf870, tf854, tf855, tf871, tf856, tf872, tf857, tf873, tf858, tf874, tf859, tf875, tf860, mo_i1, mo_l1] at q9; exact q9) | (rw [tf866, tf867, tf868, tf869, tf870, tf854, tf855, tf871, tf856, tf872, tf857, tf873, tf858, tf874, tf859, tf875, tf860] at q9; exact q9)
                        refine lv_aload_n hx hb dX12_readClause_242 rfl (lv_at hl 4 rfl) ?_
                        refine lv_iconst (v := 1) hx hb dX12_readClause_243 (by decide) ?_
                        have hf_877 : f779 (ρ h0 23) = .inl (κ 0, 400, .inl g767) := (k780 _ (tp_ne y8 y7 (by decide))).trans hf_o766
                        have hf_878 : f788 (ρ h0 23) = .inl (κ 0, 400, .inl g767) := (k789 _ (tp_ne y8 y7 (by decide))).trans hf_877
                        have hf_879 : f863 (ρ h0 23) = .inl (κ 0, 400, .inl g767) := (hF864 _ (by rw [y8]; decide)).trans hf_878
                        have tf880 : mo_i (f863 (ρ h0 23)) = g767 := tfa_i hf_879
                        have hf_881 : f779 (ρ h0 24) = .inl (κ 0, 400, .inl g770) := (k780 _ (tp_ne y9 y7 (by decide))).trans hf_o769
                        have hf_882 : f788 (ρ h0 24) = .inl (κ 0, 400, .inl g770) := (k789 _ (tp_ne y9 y7 (by decide))).trans hf_881
                        have hf_883 : f863 (ρ h0 24) = .inl (κ 0, 400, .inl g770) := (hF864 _ (by rw [y9]; decide)).trans hf_882
                        have tf884 : mo_i (f863 (ρ h0 24)) = g770 := tfa_i hf_883
                        obtain ⟨q885, eq885⟩ := tp_pos (tp_in hG ht_h0 (by decide)) hf_o865
                        have hFc := tp_fr hD hS hA
                        refine va_callv (va_runV (As := [.int 1]) (rest := []) ⟨hx, hb, hml, hown, hts⟩ (t_X12_readExpression l dC dI _ κ τ ν ρ L f863 hG hT h0 (1) ht_h0 (by first | decide | omega) (by first | (simp only [tf866, tf867, tf868, tf869, tf870, mo_i1, mo_l1]; exact (show (o865_x10.toInt ≤ o865_x11.toInt ∧ o865_x11.toInt ≤ o865_x9.toInt ∧ (o865_x12.toInt = 0 ∨ o865_x10.toInt < o865_x11.toInt) ∧ (o865_x12.toInt = 1 → o865_x11.toInt = o865_x10.toInt + 1 → o865_x13.toInt ≤ 26)) from by have : (1 : Int32).toInt = 1 := rfl; first | omega | decide)) | (rw [tf866, tf867, tf868, tf869, tf870]; exact (show (o865_x10.toInt ≤ o865_x11.toInt ∧ o865_x11.toInt ≤ o865_x9.toInt ∧ (o865_x12.toInt = 0 ∨ o865_x10.toInt < o865_x11.toInt) ∧ (o865_x12.toInt = 1 → o865_x11.toInt = o865_x10.toInt + 1 → o865_x13.toInt ≤ 26)) from by have : (1 : Int32).toInt = 1 := rfl; first | omega | decide))) (by first | (simp only [tf871, mo_i1, mo_l1]; exact (show o865_x15.toInt = 0 from by have : (1 : Int32).toInt = 1 := rfl; first | omega | decide)) | (rw [tf871]; exact (show o865_x15.toInt = 0 from by have : (1 : Int32).toInt = 1 := rfl; first | omega | decide))) (by first | (simp only [tf874, tf866, mo_i1, mo_l1]; exact (show o865_x22.toInt ≤ o865_x10.toInt from by have : (1 : Int32).toInt = 1 := rfl; first | omega | decide)) | (rw [tf874, tf866]; exact (show o865_x22.toInt ≤ o865_x10.toInt from by have : (1 : Int32).toInt = 1 := rfl; first | omega | decide)))) (cwV 1 hts gX12_readClause_X12_readExpression rfl rfl rfl ⟨rfl, pd_X12_readExpression⟩ ⟨Nat.le_of_ble_eq_true rfl, Nat.le_of_ble_eq_true rfl⟩) ⟨pz_blind, va_recv hK hP (ci := 12) (q0 := q885) rfl eq885, pz_pre hP hK hD hN⟩ rfl rfl hl.1 rfl (lv_room (Nat.le_of_ble_eq_true rfl)) dX12_readClause_244 ⟨Nat.le_of_ble_eq_true rfl, Nat.le_of_ble_eq_true rfl⟩) hS (fun q _ h => hFc q h) hFc (fun f888 t H1 locs ht hvm hw887 hB hz1 hk1 hS => ?_)
                        obtain ⟨hT, hF889, hw887p⟩ := hw887
                        have hR := hR.then hF889 (by decide)
                        have hP := hB.1; rw [ht] at hP; have hD := tp_ad f888 hD; clear hB hFc hz1 hk1; subst ht; generalize t.heap = H at hP hS ⊢
                        obtain ⟨o890_x0, o890_x1, o890_x7, o890_x9, o890_x10, o890_x11, o890_x12, o890_x13, o890_x14, o890_x15, o890_x16, o890_x17, o890_x18, o890_x19, o890_x20, o890_x22, o890_x25, o890_x28, o890_x29, o890_x32, o890_x33, o890_x34, o890_x35, o890_x36, o890_x37, o890_x38, o890_x47, o890_x48, hf_o890, ro890_0, ro890_1, ro890_2, ro890_3, ro890_4, ro890_5, ro890_6, ro890_7, ro890_8, ro890_9, ro890_10, ro890_11, ro890_12, ro890_13⟩ := tpo_13 hT ht_h0
                        have tf891 : tp_fld (f888 h0) 10 = o890_x10.toInt := tff_10 hf_o890
                        have tf892 : tp_fld (f888 h0) 11 = o890_x11.toInt := tff_11 hf_o890
                        have tf893 : tp_fld (f888 h0) 9 = o890_x9.toInt := tff_9 hf_o890
                        have tf894 : tp_fld (f888 h0) 12 = o890_x12.toInt := tff_12 hf_o890
                        have tf895 : mo_fj (f888 h0) 13 = o890_x13.toInt := tff_13 hf_o890
                        have tf896 : tp_fld (f888 h0) 22 = o890_x22.toInt := tff_22 hf_o890
                        have tf897 : tp_fld (f888 h0) 15 = o890_x15.toInt := tff_15 hf_o890
                        obtain ⟨g899, hf_o898⟩ := tpo_53 hT y8
                        have tf900 : mo_i (f888 (ρ h0 23)) = g899 := tfa_i hf_o898
                        obtain ⟨g902, hf_o901⟩ := tpo_54 hT y9
                        have tf903 : mo_i (f888 (ρ h0 24)) = g902 := tfa_i hf_o901
                        have tf904 : tp_fld (f888 h0) 19 = o890_x19.toInt := tff_19 hf_o890
                        have tf905 : tp_fld (f888 h0) 20 = o890_x20.toInt := tff_20 hf_o890
                        have tk906 : (o890_x10.toInt ≤ o890_x11.toInt ∧ o890_x11.toInt ≤ o890_x9.toInt ∧ (o890_x12.toInt = 0 ∨ o890_x10.toInt < o890_x11.toInt) ∧ (o890_x12.toInt = 1 → o890_x11.toInt = o890_x10.toInt + 1 → o890_x13.toInt ≤ 26)) ∧ o865_x22.toInt ≤ o890_x22.toInt ∧ (o890_x15.toInt = 0 → o890_x22.toInt ≤ o890_x10.toInt ∧ mo_W2 (mo_R g899) (mo_R g902) o865_x22.toInt o890_x22.toInt ∧ mo_FR o865_x22.toInt (mo_R g767) (mo_R g770) (mo_R g899) (mo_R g902)) ∧ o890_x9.toInt = o865_x9.toInt ∧ o890_x19.toInt = o865_x19.toInt ∧ o890_x20.toInt = o865_x20.toInt := by have q9 := hw887p; first | (simp only [tf891, tf892, tf893, tf894, tf895, tf874, tf896, tf897, tf900, tf903, tf880, tf884, tf868, tf904, tf872, tf905, tf873, mo_i1, mo_l1] at q9; exact q9) | (rw [tf891, tf892, tf893, tf894, tf895, tf874, tf896, tf897, tf900, tf903, tf880, tf884, tf868, tf904, tf872, tf905, tf873] at q9; exact q9)
                        refine lv_aload_n hx hb dX12_readClause_247 rfl (lv_at hl 4 rfl) ?_
                        obtain ⟨q907, eq907⟩ := tp_pos (tp_in hG ht_h0 (by decide)) hf_o890
                        refine va_get (D := (dC, dI)) (ci := 12) (v := .ref (ρ h0 21)) (C := RX12) (T := TX12) (N := 53) hx hb hts hfX12 hown hK hP q907 eq907 rfl 21 (by decide) (hts (.fieldLink RX12 34 "ColdShipsModel" "nClause" "[I") wa_156) (fun _ h9 => h9) rfl dX12_readClause_248 ?_
                        refine lv_iload hx hb dX12_readClause_251 (lv_at hl 0 rfl) ?_
                        refine lv_iconst (v := 4) hx hb dX12_readClause_253 (by decide) ?_
                        refine lv_iadd hx hb dX12_readClause_254 ?_
                        refine lv_topi (fun z908 ez908 => ?_)
                        have iz908 : z908.toInt = z706.toInt + 4 := zi_add ez908 rfl rfl (by omega) (by omega)
                        refine lv_aload_n hx hb dX12_readClause_255 rfl (lv_at hl 4 rfl) ?_
                        refine va_get (D := (dC, dI)) (ci := 12) (v := .int o890_x22) (C := RX12) (T := TX12) (N := 53) hx hb hts hfX12 hown hK hP q907 eq907 rfl 22 (by decide) (hts (.fieldLink RX12 297 "ColdShipsModel" "nCode" "I") wa_989) (fun _ h9 => h9) rfl dX12_readClause_256 ?_
                        have hf_909 : f863 (ρ h0 21) = .inl (κ 0, 60, .inl g791) := (hF864 _ (by rw [y7]; decide)).trans g790
                        have hf_910 : f888 (ρ h0 21) = .inl (κ 0, 60, .inl g791) := (hF889 _ (by rw [y7]; decide)).trans hf_909
                        obtain ⟨q911, eq911⟩ := tp_pos (tp_in hG y7 (by decide)) hf_910
                        refine va_iast hx hb hK hP hD hS q911 0 eq911 rfl (vp_in_iff.mpr ⟨by omega, by omega⟩) dX12_readClause_259 (tp_k (.inl (κ 0, 60, .inl (upd g791 z908.toNatClampNeg o890_x22))) hD (tp_in hG y7 (by decide)) eq911 (fun f912 H locs hP hD hS g914 k913 => ?_))
                        have hT := hT.up y7 g914 k913 tp_o51
                        have hR := hR.up y7 (by decide) k913
                        have hU916 : mo_U (mo_R g791) (mo_R (upd g791 z908.toNatClampNeg o890_x22)) (5 * o685_x20.toInt + 4) (o890_x22.toInt) := mo_up (by omega) (rfl : o890_x22.toInt = _) (by omega)
                        generalize (upd g791 z908.toNatClampNeg o890_x22) = g915 at g914 hU916
                        have hf_917 : f912 h0 = .inr (12, [.int o890_x0, .int o890_x1, .ref (ρ h0 2), .ref (ρ h0 3), .ref (ρ h0 4), .ref (ρ h0 5), .ref (ρ h0 6), .int o890_x7, .ref (ρ h0 8), .int o890_x9, .int o890_x10, .int o890_x11, .int o890_x12, .long o890_x13, .int o890_x14, .int o890_x15, .int o890_x16, .int o890_x17, .int o890_x18, .int o890_x19, .int o890_x20, .ref (ρ h0 21), .int o890_x22, .ref (ρ h0 23), .ref (ρ h0 24), .int o890_x25, .ref (ρ h0 26), .ref (ρ h0 27), .int o890_x28, .int o890_x29, .ref (ρ h0 30), .ref (ρ h0 31), .int o890_x32, .long o890_x33, .long o890_x34, .long o890_x35, .int o890_x36, .int o890_x37, .int o890_x38, .ref (ρ h0 39), .ref (ρ h0 40), .ref (ρ h0 41), .ref (ρ h0 42), .ref (ρ h0 43), .ref (ρ h0 44), .ref (ρ h0 45), .ref (ρ h0 46), .int o890_x47, .int o890_x48, .ref (ρ h0 49), .ref (ρ h0 50), .ref (ρ h0 51), .ref (ρ h0 52)]) := (k913 _ (tp_ne ht_h0 y7 (by decide))).trans hf_o890
                        have tf918 : tp_fld (f912 h0) 10 = o890_x10.toInt := tff_10 hf_917
                        have tf919 : tp_fld (f912 h0) 11 = o890_x11.toInt := tff_11 hf_917
                        have tf920 : tp_fld (f912 h0) 9 = o890_x9.toInt := tff_9 hf_917
                        have tf921 : tp_fld (f912 h0) 12 = o890_x12.toInt := tff_12 hf_917
                        have tf922 : mo_fj (f912 h0) 13 = o890_x13.toInt := tff_13 hf_917
                        have tf923 : tp_fld (f912 h0) 15 = o890_x15.toInt := tff_15 hf_917
                        have tf924 : tp_fld (f912 h0) 22 = o890_x22.toInt := tff_22 hf_917
                        have tf925 : tp_fld (f912 h0) 20 = o890_x20.toInt := tff_20 hf_917
                        have tf926 : tp_fld (f912 h0) 19 = o890_x19.toInt := tff_19 hf_917
                        have tf927 : mo_i (f912 (ρ h0 21)) = g915 := tfa_i g914
                        have hf_928 : f912 (ρ h0 23) = .inl (κ 0, 400, .inl g899) := (k913 _ (tp_ne y8 y7 (by decide))).trans hf_o898
                        have tf929 : mo_i (f912 (ρ h0 23)) = g899 := tfa_i hf_928
                        have hf_930 : f912 (ρ h0 24) = .inl (κ 0, 400, .inl g902) := (k913 _ (tp_ne y9 y7 (by decide))).trans hf_o901
                        have tf931 : mo_i (f912 (ρ h0 24)) = g902 := tfa_i hf_930
                        exact W.vret hx hb hr (fun t ht hW => ⟨⟨f912, rfl, ⟨hT, hR, (by first | (simp only [tf918, tf919, tf920, tf921, tf922, tf923, tf924, tf925, tf926, tf927, tf929, tf931, tf36, mo_i1, mo_l1]; exact (show (o890_x10.toInt ≤ o890_x11.toInt ∧ o890_x11.toInt ≤ o890_x9.toInt ∧ (o890_x12.toInt = 0 ∨ o890_x10.toInt < o890_x11.toInt) ∧ (o890_x12.toInt = 1 → o890_x11.toInt = o890_x10.toInt + 1 → o890_x13.toInt ≤ 26)) ∧ (o890_x15.toInt = 0 → o890_x22.toInt ≤ o890_x10.toInt ∧ o890_x20.toInt ≤ o890_x19.toInt ∧ mo_NC (mo_R g915) (mo_R g899) (mo_R g902) o890_x20.toInt o890_x22.toInt) ∧ o890_x9.toInt = o35_x9.toInt from ⟨by omega, fun q9 => ⟨by omega, by omega, h5.add (by omega) (by omega) hU721 hU730 hU783 hU792 hU916 (((tk774.2.2.1 (by omega)).2.2).then (fun k k0 k1 => (tk906.2.2.1 q9).2.2 k k0 (by omega))) (((tk774.2.2.1 (by omega)).2.1.same (fun i i0 i1 => (tk906.2.2.1 q9).2.2 i (by omega) (by omega)))) ((by have q8 := (tk906.2.2.1 q9).2.1; rw [show o865_x22.toInt = o758_x22.toInt by omega] at q8; exact q8)) (by omega) (by omega) (by omega)⟩, by omega⟩)) | (rw [tf918, tf919, tf920, tf921, tf922, tf923, tf924, tf925, tf926, tf927, tf929, tf931, tf36]; exact (show (o890_x10.toInt ≤ o890_x11.toInt ∧ o890_x11.toInt ≤ o890_x9.toInt ∧ (o890_x12.toInt = 0 ∨ o890_x10.toInt < o890_x11.toInt) ∧ (o890_x12.toInt = 1 → o890_x11.toInt = o890_x10.toInt + 1 → o890_x13.toInt ≤ 26)) ∧ (o890_x15.toInt = 0 → o890_x22.toInt ≤ o890_x10.toInt ∧ o890_x20.toInt ≤ o890_x19.toInt ∧ mo_NC (mo_R g915) (mo_R g899) (mo_R g902) o890_x20.toInt o890_x22.toInt) ∧ o890_x9.toInt = o35_x9.toInt from ⟨by omega, fun q9 => ⟨by omega, by omega, h5.add (by omega) (by omega) hU721 hU730 hU783 hU792 hU916 (((tk774.2.2.1 (by omega)).2.2).then (fun k k0 k1 => (tk906.2.2.1 q9).2.2 k k0 (by omega))) (((tk774.2.2.1 (by omega)).2.1.same (fun i i0 i1 => (tk906.2.2.1 q9).2.2 i (by omega) (by omega)))) ((by have q8 := (tk906.2.2.1 q9).2.1; rw [show o865_x22.toInt = o758_x22.toInt by omega] at q8; exact q8)) (by omega) (by omega) (by omega)⟩, by omega⟩)))⟩, by rw [ht]; exact hP, va_K.moved hW.alike hK, hD⟩, hS.F ht⟩) hS.2.2 dX12_readClause_260
                  · have ic712 : r52.toInt ≠ 0 := zi_eqf rfl rfl c712
                    exfalso; omega
                · have ic704 : r49.toInt ≠ 0 := zi_eqf rfl rfl c704
                  exfalso; omega
              · have ic703 : r46.toInt ≠ 0 := zi_eqf rfl rfl c703
                exfalso; omega
            · have ic698 : o685_x15.toInt ≠ 0 := zi_eqf rfl rfl c698
              have hf_932 : f683 (ρ h0 21) = .inl (κ 0, 60, .inl g27) := (hF684 _ (by rw [y7]; decide)).trans hf_o26
              have tf933 : mo_i (f683 (ρ h0 21)) = g27 := tfa_i hf_932
              have hf_934 : f683 (ρ h0 23) = .inl (κ 0, 400, .inl g30) := (hF684 _ (by rw [y8]; decide)).trans hf_o29
              have tf935 : mo_i (f683 (ρ h0 23)) = g30 := tfa_i hf_934
              have hf_936 : f683 (ρ h0 24) = .inl (κ 0, 400, .inl g33) := (hF684 _ (by rw [y9]; decide)).trans hf_o32
              have tf937 : mo_i (f683 (ρ h0 24)) = g33 := tfa_i hf_936
              exact W.vret hx hb hr (fun t ht hW => ⟨⟨f683, rfl, ⟨hT, hR, (by first | (simp only [tf686, tf687, tf688, tf689, tf690, tf691, tf694, tf693, tf692, tf933, tf935, tf937, tf36, mo_i1, mo_l1]; exact (show (o685_x10.toInt ≤ o685_x11.toInt ∧ o685_x11.toInt ≤ o685_x9.toInt ∧ (o685_x12.toInt = 0 ∨ o685_x10.toInt < o685_x11.toInt) ∧ (o685_x12.toInt = 1 → o685_x11.toInt = o685_x10.toInt + 1 → o685_x13.toInt ≤ 26)) ∧ (o685_x15.toInt = 0 → o685_x22.toInt ≤ o685_x10.toInt ∧ o685_x20.toInt ≤ o685_x19.toInt ∧ mo_NC (mo_R g27) (mo_R g30) (mo_R g33) o685_x20.toInt o685_x22.toInt) ∧ o685_x9.toInt = o35_x9.toInt from ⟨by omega, fun q9 => by exfalso; omega, by omega⟩)) | (rw [tf686, tf687, tf688, tf689, tf690, tf691, tf694, tf693, tf692, tf933, tf935, tf937, tf36]; exact (show (o685_x10.toInt ≤ o685_x11.toInt ∧ o685_x11.toInt ≤ o685_x9.toInt ∧ (o685_x12.toInt = 0 ∨ o685_x10.toInt < o685_x11.toInt) ∧ (o685_x12.toInt = 1 → o685_x11.toInt = o685_x10.toInt + 1 → o685_x13.toInt ≤ 26)) ∧ (o685_x15.toInt = 0 → o685_x22.toInt ≤ o685_x10.toInt ∧ o685_x20.toInt ≤ o685_x19.toInt ∧ mo_NC (mo_R g27) (mo_R g30) (mo_R g33) o685_x20.toInt o685_x22.toInt) ∧ o685_x9.toInt = o35_x9.toInt from ⟨by omega, fun q9 => by exfalso; omega, by omega⟩)))⟩, by rw [ht]; exact hP, va_K.moved hW.alike hK, hD⟩, hS.F ht⟩) hS.2.2 dX12_readClause_71

set_option maxHeartbeats 4000000 in
set_option maxRecDepth 100000 in
theorem t_X12_contract (l : Launch) (dC : Nat → ClassId) (dI : Nat → Nat → Nat) (sz : Nat) (κ : Nat → ClassId) (τ ν : Nat → Nat) (ρ : Nat → Nat → Nat) (L : List Nat) (f : Nat → va_E) (hG : tp_G τ ν ρ L) (hT : tp_T (mo_O κ) κ τ ν ρ f) (h0 : Nat) (ht_h0 : τ h0 = 13) (hJ : mo_RI (-1) 0 (mo_R (mo_i (f (ρ h0 2))))) : Met l yX12_contract wqX12_contract ({ frames := 10, cells := 0, slots := 0, locals := 3600 }) (va_Pc [.ref h0] (pz_B dC dI (tp_K κ) (va_pl L f) sz)) (va_Qi (fun (r : Int32) (f1 : Nat → va_E) => tp_T (mo_O κ) κ τ ν ρ f1 ∧ tp_F τ [13, 32, 51, 53, 54, 56, 57] f f1 ∧ True ∧ mo_RI (-1) 0 (mo_R (mo_i (f1 (ρ h0 2))))) (fun (f1 : Nat → va_E) (t : State) => pz_E dC dI (tp_K κ) (va_A (va_pl L f) sz) (va_pl L f1) t) (va_A (va_pl L f) sz)) 0 0 (va_A (va_pl L f) sz) := by
  refine Met.ofW (cc := cX12_contract) (maxL := 3) (ret := some .int) (by decide) rfl ?_
  intro p e s m args below meth c s₁ B hml hv
  obtain ⟨rfl, hsz, hP, hK, hD0, hN⟩ := hv
  have hx := B.exec
  have hb := B.bytes
  have hr := B.returns
  have hts := fun (w : Cond) (h : w ∈ WALL) => atoms_spec (ws := wqX12_contract) B.pre w (List.mem_cons_of_mem _ h)
  have hown : s.vm.findClass RX12 = some m.cls := findClass_of_methodNamed B.named
  have hlocks := B.notSynchronized
  subst hsz
  have hD := hD0.self (sz := s.heap.size)
  generalize hAe : va_A (va_pl L f) s.heap.size = A at hD ⊢
  have hA : ∀ q : Nat, s.heap.size ≤ q → A q := fun q h => by rw [← hAe]; exact Or.inr h
  have hS : va_S A s.heap s.heap [] := va_S.rf
  have hR : tp_F τ [13, 32, 51, 53, 54, 56, 57] f f := tp_F.rf
  have hl := lv_entry ([.ref h0]) (n := 3) (Nat.le_of_ble_eq_true rfl)
  rw [lg_entry_eq]
  generalize (lg_sl ([.ref h0]) ++ List.replicate (3 - (lg_sl ([.ref h0])).length) Slot.unset).toArray = ls at hl ⊢
  have hl : lv_has ls 3 [(0, .ref h0)] := hl
  obtain ⟨y1, y2, y3, y4, y5, y6, y7, y8, y9, y10, y11, y12, y13, y14, y15, y16, y17, y18, y19, y20, y21, y22, y23, y24, y25⟩ := tpg_13 hG ht_h0
  obtain ⟨g27, hf_o26⟩ := tpo_32 hT y1
  have hI : mo_RI (-1) 0 (mo_R g27) := by have q9 := hJ; rw [hf_o26, mo_i1] at q9; exact q9
  obtain ⟨n8, en8⟩ : ∃ n : Int, n = mo_R g27 (8) := ⟨_, rfl⟩
  have kn8 := hI.k8
  refine lv_aload_n hx hb dX12_contract_0 rfl (lv_at hl 0 rfl) ?_
  refine lv_iconst (v := 0) hx hb dX12_contract_1 (by decide) ?_
  obtain ⟨o28_x0, o28_x1, o28_x7, o28_x9, o28_x10, o28_x11, o28_x12, o28_x13, o28_x14, o28_x15, o28_x16, o28_x17, o28_x18, o28_x19, o28_x20, o28_x22, o28_x25, o28_x28, o28_x29, o28_x32, o28_x33, o28_x34, o28_x35, o28_x36, o28_x37, o28_x38, o28_x47, o28_x48, hf_o28, ro28_0, ro28_1, ro28_2, ro28_3, ro28_4, ro28_5, ro28_6, ro28_7, ro28_8, ro28_9, ro28_10, ro28_11, ro28_12, ro28_13⟩ := tpo_13 hT ht_h0
  obtain ⟨q29, eq29⟩ := tp_pos (tp_in hG ht_h0 (by decide)) hf_o28
  refine va_put (D := (dC, dI)) (ci := 12) (v := .int 0) (ty := .int) (C := RX12) (T := TX12) (N := 53) hx hb hts hfX12 tyX12 tyX12_ok nmX12 hown hK hP hD hS q29 eq29 rfl 0 (by decide) (hts (.fieldLink RX12 91 "ColdShipsModel" "thrown" "I") wa_209) (fun _ h9 => h9) rfl (tyX12_ok 0 (by decide)) rfl rfl (Nat.le_of_ble_eq_true rfl) dX12_contract_2 (tp_k (.inr (12, [.int 0, .int o28_x1, .ref (ρ h0 2), .ref (ρ h0 3), .ref (ρ h0 4), .ref (ρ h0 5), .ref (ρ h0 6), .int o28_x7, .ref (ρ h0 8), .int o28_x9, .int o28_x10, .int o28_x11, .int o28_x12, .long o28_x13, .int o28_x14, .int o28_x15, .int o28_x16, .int o28_x17, .int o28_x18, .int o28_x19, .int o28_x20, .ref (ρ h0 21), .int o28_x22, .ref (ρ h0 23), .ref (ρ h0 24), .int o28_x25, .ref (ρ h0 26), .ref (ρ h0 27), .int o28_x28, .int o28_x29, .ref (ρ h0 30), .ref (ρ h0 31), .int o28_x32, .long o28_x33, .long o28_x34, .long o28_x35, .int o28_x36, .int o28_x37, .int o28_x38, .ref (ρ h0 39), .ref (ρ h0 40), .ref (ρ h0 41), .ref (ρ h0 42), .ref (ρ h0 43), .ref (ρ h0 44), .ref (ρ h0 45), .ref (ρ h0 46), .int o28_x47, .int o28_x48, .ref (ρ h0 49), .ref (ρ h0 50), .ref (ρ h0 51), .ref (ρ h0 52)])) hD (tp_in hG ht_h0 (by decide)) eq29 (fun f30 H locs hP hD hS g32 k31 => ?_))
  have hT := hT.up ht_h0 g32 k31 ⟨_, _, _, _, _, _, _, _, _, _, _, _, _, _, _, _, _, _, _, _, _, _, _, _, _, _, _, _, rfl, ro28_0, ro28_1, ro28_2, ro28_3, ro28_4, ro28_5, ro28_6, ro28_7, ro28_8, ro28_9, ro28_10, ro28_11, ro28_12, ro28_13⟩
  have hR := hR.up ht_h0 (by decide) k31
  refine lv_aload_n hx hb dX12_contract_5 rfl (lv_at hl 0 rfl) ?_
  obtain ⟨q33, eq33⟩ := tp_pos (tp_in hG ht_h0 (by decide)) g32
  refine va_get (D := (dC, dI)) (ci := 12) (v := .ref (ρ h0 2)) (C := RX12) (T := TX12) (N := 53) hx hb hts hfX12 hown hK hP q33 eq33 rfl 2 (by decide) (hts (.fieldLink RX12 7 "ColdShipsModel" "row" "[I") wa_148) (fun _ h9 => h9) rfl dX12_contract_6 ?_
  refine lv_bipush (v := 8) hx hb dX12_contract_9 (by decide) ?_
  have hf_34 : f30 (ρ h0 2) = .inl (κ 0, 12967, .inl g27) := (k31 _ (tp_ne y1 ht_h0 (by decide))).trans hf_o26
  obtain ⟨q35, eq35⟩ := tp_pos (tp_in hG y1 (by decide)) hf_34
  refine va_iald hx hb hK hP q35 0 eq35 rfl (vp_in_iff.mpr ⟨by decide, by decide⟩) dX12_contract_11 ?_
  refine lv_topi (fun z36 ez36 => ?_)
  have jz36 : z36.toInt = mo_R g27 (8) := mo_rd ez36 (show (8 : Int32).toInt = (8) from by decide)
  have kz36 := hI.k8
  refine lv_bipush (v := 12) hx hb dX12_contract_12 (by decide) ?_
  refine lv_icmp_ne (tgt := 29) hx hb dX12_contract_14 (by decide) (fun c37 => ?_) (fun c37 => ?_)
  · have ic37 : z36.toInt ≠ 12 := zi_ne rfl rfl c37
    refine lv_aload_n hx hb dX12_contract_29 rfl (lv_at hl 0 rfl) ?_
    have tf38 : tp_fld (f30 h0) 9 = o28_x9.toInt := tff_9 g32
    have hFc := tp_fr hD hS hA
    refine va_callv (va_runV (As := []) (rest := []) ⟨hx, hb, hml, hown, hts⟩ (t_X12_begin l dC dI _ κ τ ν ρ L f30 hG hT h0 ht_h0) (cwV 0 hts gX12_contract_X12_begin rfl rfl rfl ⟨rfl, pd_X12_begin⟩ ⟨Nat.le_of_ble_eq_true rfl, Nat.le_of_ble_eq_true rfl⟩) ⟨pz_blind, va_recv hK hP (ci := 12) (q0 := q33) rfl eq33, pz_pre hP hK hD hN⟩ rfl rfl hl.1 rfl (lv_room (Nat.le_of_ble_eq_true rfl)) dX12_contract_30 ⟨Nat.le_of_ble_eq_true rfl, Nat.le_of_ble_eq_true rfl⟩) hS (fun q _ h => hFc q h) hFc (fun f41 t H1 locs ht hvm hw40 hB hz1 hk1 hS => ?_)
    obtain ⟨hT, hF42, hw40p⟩ := hw40
    have hR := hR.then hF42 (by decide)
    have hP := hB.1; rw [ht] at hP; have hD := tp_ad f41 hD; clear hB hFc hz1 hk1; subst ht; generalize t.heap = H at hP hS ⊢
    obtain ⟨o43_x0, o43_x1, o43_x7, o43_x9, o43_x10, o43_x11, o43_x12, o43_x13, o43_x14, o43_x15, o43_x16, o43_x17, o43_x18, o43_x19, o43_x20, o43_x22, o43_x25, o43_x28, o43_x29, o43_x32, o43_x33, o43_x34, o43_x35, o43_x36, o43_x37, o43_x38, o43_x47, o43_x48, hf_o43, ro43_0, ro43_1, ro43_2, ro43_3, ro43_4, ro43_5, ro43_6, ro43_7, ro43_8, ro43_9, ro43_10, ro43_11, ro43_12, ro43_13⟩ := tpo_13 hT ht_h0
    have tf44 : tp_fld (f41 h0) 10 = o43_x10.toInt := tff_10 hf_o43
    have tf45 : tp_fld (f41 h0) 11 = o43_x11.toInt := tff_11 hf_o43
    have tf46 : tp_fld (f41 h0) 9 = o43_x9.toInt := tff_9 hf_o43
    have tf47 : tp_fld (f41 h0) 12 = o43_x12.toInt := tff_12 hf_o43
    have tf48 : mo_fj (f41 h0) 13 = o43_x13.toInt := tff_13 hf_o43
    have tf49 : tp_fld (f41 h0) 15 = o43_x15.toInt := tff_15 hf_o43
    have tk50 : (o43_x10.toInt ≤ o43_x11.toInt ∧ o43_x11.toInt ≤ o43_x9.toInt ∧ (o43_x12.toInt = 0 ∨ o43_x10.toInt < o43_x11.toInt) ∧ (o43_x12.toInt = 1 → o43_x11.toInt = o43_x10.toInt + 1 → o43_x13.toInt ≤ 26)) ∧ o43_x15.toInt = 0 ∧ 0 ≤ o43_x10.toInt ∧ o43_x9.toInt = o28_x9.toInt := by have q9 := hw40p; first | (simp only [tf44, tf45, tf46, tf47, tf48, tf49, tf38, mo_i1, mo_l1] at q9; exact q9) | (rw [tf44, tf45, tf46, tf47, tf48, tf49, tf38] at q9; exact q9)
    refine lv_aload_n hx hb dX12_contract_33 rfl (lv_at hl 0 rfl) ?_
    refine lv_iconst (v := 0) hx hb dX12_contract_34 (by decide) ?_
    obtain ⟨q51, eq51⟩ := tp_pos (tp_in hG ht_h0 (by decide)) hf_o43
    refine va_put (D := (dC, dI)) (ci := 12) (v := .int 0) (ty := .int) (C := RX12) (T := TX12) (N := 53) hx hb hts hfX12 tyX12 tyX12_ok nmX12 hown hK hP hD hS q51 eq51 rfl 19 (by decide) (hts (.fieldLink RX12 391 "ColdShipsModel" "nClauses" "I") wa_987) (fun _ h9 => h9) rfl (tyX12_ok 19 (by decide)) rfl rfl (Nat.le_of_ble_eq_true rfl) dX12_contract_35 (tp_k (.inr (12, [.int o43_x0, .int o43_x1, .ref (ρ h0 2), .ref (ρ h0 3), .ref (ρ h0 4), .ref (ρ h0 5), .ref (ρ h0 6), .int o43_x7, .ref (ρ h0 8), .int o43_x9, .int o43_x10, .int o43_x11, .int o43_x12, .long o43_x13, .int o43_x14, .int o43_x15, .int o43_x16, .int o43_x17, .int o43_x18, .int 0, .int o43_x20, .ref (ρ h0 21), .int o43_x22, .ref (ρ h0 23), .ref (ρ h0 24), .int o43_x25, .ref (ρ h0 26), .ref (ρ h0 27), .int o43_x28, .int o43_x29, .ref (ρ h0 30), .ref (ρ h0 31), .int o43_x32, .long o43_x33, .long o43_x34, .long o43_x35, .int o43_x36, .int o43_x37, .int o43_x38, .ref (ρ h0 39), .ref (ρ h0 40), .ref (ρ h0 41), .ref (ρ h0 42), .ref (ρ h0 43), .ref (ρ h0 44), .ref (ρ h0 45), .ref (ρ h0 46), .int o43_x47, .int o43_x48, .ref (ρ h0 49), .ref (ρ h0 50), .ref (ρ h0 51), .ref (ρ h0 52)])) hD (tp_in hG ht_h0 (by decide)) eq51 (fun f52 H locs hP hD hS g54 k53 => ?_))
    have hT := hT.up ht_h0 g54 k53 ⟨_, _, _, _, _, _, _, _, _, _, _, _, _, _, _, _, _, _, _, _, _, _, _, _, _, _, _, _, rfl, ro43_0, ro43_1, ro43_2, ro43_3, ro43_4, ro43_5, (by decide), ro43_7, ro43_8, ro43_9, ro43_10, ro43_11, ro43_12, ro43_13⟩
    have hR := hR.up ht_h0 (by decide) k53
    refine lv_aload_n hx hb dX12_contract_38 rfl (lv_at hl 0 rfl) ?_
    refine lv_iconst (v := 0) hx hb dX12_contract_39 (by decide) ?_
    obtain ⟨q55, eq55⟩ := tp_pos (tp_in hG ht_h0 (by decide)) g54
    refine va_put (D := (dC, dI)) (ci := 12) (v := .int 0) (ty := .int) (C := RX12) (T := TX12) (N := 53) hx hb hts hfX12 tyX12 tyX12_ok nmX12 hown hK hP hD hS q55 eq55 rfl 20 (by decide) (hts (.fieldLink RX12 411 "ColdShipsModel" "nPays" "I") wa_988) (fun _ h9 => h9) rfl (tyX12_ok 20 (by decide)) rfl rfl (Nat.le_of_ble_eq_true rfl) dX12_contract_40 (tp_k (.inr (12, [.int o43_x0, .int o43_x1, .ref (ρ h0 2), .ref (ρ h0 3), .ref (ρ h0 4), .ref (ρ h0 5), .ref (ρ h0 6), .int o43_x7, .ref (ρ h0 8), .int o43_x9, .int o43_x10, .int o43_x11, .int o43_x12, .long o43_x13, .int o43_x14, .int o43_x15, .int o43_x16, .int o43_x17, .int o43_x18, .int 0, .int 0, .ref (ρ h0 21), .int o43_x22, .ref (ρ h0 23), .ref (ρ h0 24), .int o43_x25, .ref (ρ h0 26), .ref (ρ h0 27), .int o43_x28, .int o43_x29, .ref (ρ h0 30), .ref (ρ h0 31), .int o43_x32, .long o43_x33, .long o43_x34, .long o43_x35, .int o43_x36, .int o43_x37, .int o43_x38, .ref (ρ h0 39), .ref (ρ h0 40), .ref (ρ h0 41), .ref (ρ h0 42), .ref (ρ h0 43), .ref (ρ h0 44), .ref (ρ h0 45), .ref (ρ h0 46), .int o43_x47, .int o43_x48, .ref (ρ h0 49), .ref (ρ h0 50), .ref (ρ h0 51), .ref (ρ h0 52)])) hD (tp_in hG ht_h0 (by decide)) eq55 (fun f56 H locs hP hD hS g58 k57 => ?_))
    have hT := hT.up ht_h0 g58 k57 ⟨_, _, _, _, _, _, _, _, _, _, _, _, _, _, _, _, _, _, _, _, _, _, _, _, _, _, _, _, rfl, ro43_0, ro43_1, ro43_2, ro43_3, ro43_4, ro43_5, (by decide), (by decide), ro43_8, ro43_9, ro43_10, ro43_11, ro43_12, ro43_13⟩
    have hR := hR.up ht_h0 (by decide) k57
    refine lv_aload_n hx hb dX12_contract_43 rfl (lv_at hl 0 rfl) ?_
    refine lv_iconst (v := 0) hx hb dX12_contract_44 (by decide) ?_
    obtain ⟨q59, eq59⟩ := tp_pos (tp_in hG ht_h0 (by decide)) g58
    refine va_put (D := (dC, dI)) (ci := 12) (v := .int 0) (ty := .int) (C := RX12) (T := TX12) (N := 53) hx hb hts hfX12 tyX12 tyX12_ok nmX12 hown hK hP hD hS q59 eq59 rfl 22 (by decide) (hts (.fieldLink RX12 297 "ColdShipsModel" "nCode" "I") wa_989) (fun _ h9 => h9) rfl (tyX12_ok 22 (by decide)) rfl rfl (Nat.le_of_ble_eq_true rfl) dX12_contract_45 (tp_k (.inr (12, [.int o43_x0, .int o43_x1, .ref (ρ h0 2), .ref (ρ h0 3), .ref (ρ h0 4), .ref (ρ h0 5), .ref (ρ h0 6), .int o43_x7, .ref (ρ h0 8), .int o43_x9, .int o43_x10, .int o43_x11, .int o43_x12, .long o43_x13, .int o43_x14, .int o43_x15, .int o43_x16, .int o43_x17, .int o43_x18, .int 0, .int 0, .ref (ρ h0 21), .int 0, .ref (ρ h0 23), .ref (ρ h0 24), .int o43_x25, .ref (ρ h0 26), .ref (ρ h0 27), .int o43_x28, .int o43_x29, .ref (ρ h0 30), .ref (ρ h0 31), .int o43_x32, .long o43_x33, .long o43_x34, .long o43_x35, .int o43_x36, .int o43_x37, .int o43_x38, .ref (ρ h0 39), .ref (ρ h0 40), .ref (ρ h0 41), .ref (ρ h0 42), .ref (ρ h0 43), .ref (ρ h0 44), .ref (ρ h0 45), .ref (ρ h0 46), .int o43_x47, .int o43_x48, .ref (ρ h0 49), .ref (ρ h0 50), .ref (ρ h0 51), .ref (ρ h0 52)])) hD (tp_in hG ht_h0 (by decide)) eq59 (fun f60 H locs hP hD hS g62 k61 => ?_))
    have hT := hT.up ht_h0 g62 k61 ⟨_, _, _, _, _, _, _, _, _, _, _, _, _, _, _, _, _, _, _, _, _, _, _, _, _, _, _, _, rfl, ro43_0, ro43_1, ro43_2, ro43_3, ro43_4, ro43_5, (by decide), (by decide), (by decide), ro43_9, ro43_10, ro43_11, ro43_12, ro43_13⟩
    have hR := hR.up ht_h0 (by decide) k61
    refine lv_aload_n hx hb dX12_contract_48 rfl (lv_at hl 0 rfl) ?_
    refine lv_iconst (v := 0) hx hb dX12_contract_49 (by decide) ?_
    obtain ⟨q63, eq63⟩ := tp_pos (tp_in hG ht_h0 (by decide)) g62
    refine va_put (D := (dC, dI)) (ci := 12) (v := .int 0) (ty := .int) (C := RX12) (T := TX12) (N := 53) hx hb hts hfX12 tyX12 tyX12_ok nmX12 hown hK hP hD hS q63 eq63 rfl 25 (by decide) (hts (.fieldLink RX12 351 "ColdShipsModel" "nLeaves" "I") wa_990) (fun _ h9 => h9) rfl (tyX12_ok 25 (by decide)) rfl rfl (Nat.le_of_ble_eq_true rfl) dX12_contract_50 (tp_k (.inr (12, [.int o43_x0, .int o43_x1, .ref (ρ h0 2), .ref (ρ h0 3), .ref (ρ h0 4), .ref (ρ h0 5), .ref (ρ h0 6), .int o43_x7, .ref (ρ h0 8), .int o43_x9, .int o43_x10, .int o43_x11, .int o43_x12, .long o43_x13, .int o43_x14, .int o43_x15, .int o43_x16, .int o43_x17, .int o43_x18, .int 0, .int 0, .ref (ρ h0 21), .int 0, .ref (ρ h0 23), .ref (ρ h0 24), .int 0, .ref (ρ h0 26), .ref (ρ h0 27), .int o43_x28, .int o43_x29, .ref (ρ h0 30), .ref (ρ h0 31), .int o43_x32, .long o43_x33, .long o43_x34, .long o43_x35, .int o43_x36, .int o43_x37, .int o43_x38, .ref (ρ h0 39), .ref (ρ h0 40), .ref (ρ h0 41), .ref (ρ h0 42), .ref (ρ h0 43), .ref (ρ h0 44), .ref (ρ h0 45), .ref (ρ h0 46), .int o43_x47, .int o43_x48, .ref (ρ h0 49), .ref (ρ h0 50), .ref (ρ h0 51), .ref (ρ h0 52)])) hD (tp_in hG ht_h0 (by decide)) eq63 (fun f64 H locs hP hD hS g66 k65 => ?_))
    have hT := hT.up ht_h0 g66 k65 ⟨_, _, _, _, _, _, _, _, _, _, _, _, _, _, _, _, _, _, _, _, _, _, _, _, _, _, _, _, rfl, ro43_0, ro43_1, ro43_2, ro43_3, ro43_4, ro43_5, (by decide), (by decide), (by decide), ro43_9, ro43_10, ro43_11, ro43_12, ro43_13⟩
    have hR := hR.up ht_h0 (by decide) k65
    refine lv_aload_n hx hb dX12_contract_53 rfl (lv_at hl 0 rfl) ?_
    refine lv_iconst (v := 0) hx hb dX12_contract_54 (by decide) ?_
    obtain ⟨q67, eq67⟩ := tp_pos (tp_in hG ht_h0 (by decide)) g66
    refine va_put (D := (dC, dI)) (ci := 12) (v := .int 0) (ty := .int) (C := RX12) (T := TX12) (N := 53) hx hb hts hfX12 tyX12 tyX12_ok nmX12 hown hK hP hD hS q67 eq67 rfl 16 (by decide) (hts (.fieldLink RX12 398 "ColdShipsModel" "nFrom" "I") wa_991) (fun _ h9 => h9) rfl (tyX12_ok 16 (by decide)) rfl rfl (Nat.le_of_ble_eq_true rfl) dX12_contract_55 (tp_k (.inr (12, [.int o43_x0, .int o43_x1, .ref (ρ h0 2), .ref (ρ h0 3), .ref (ρ h0 4), .ref (ρ h0 5), .ref (ρ h0 6), .int o43_x7, .ref (ρ h0 8), .int o43_x9, .int o43_x10, .int o43_x11, .int o43_x12, .long o43_x13, .int o43_x14, .int o43_x15, .int 0, .int o43_x17, .int o43_x18, .int 0, .int 0, .ref (ρ h0 21), .int 0, .ref (ρ h0 23), .ref (ρ h0 24), .int 0, .ref (ρ h0 26), .ref (ρ h0 27), .int o43_x28, .int o43_x29, .ref (ρ h0 30), .ref (ρ h0 31), .int o43_x32, .long o43_x33, .long o43_x34, .long o43_x35, .int o43_x36, .int o43_x37, .int o43_x38, .ref (ρ h0 39), .ref (ρ h0 40), .ref (ρ h0 41), .ref (ρ h0 42), .ref (ρ h0 43), .ref (ρ h0 44), .ref (ρ h0 45), .ref (ρ h0 46), .int o43_x47, .int o43_x48, .ref (ρ h0 49), .ref (ρ h0 50), .ref (ρ h0 51), .ref (ρ h0 52)])) hD (tp_in hG ht_h0 (by decide)) eq67 (fun f68 H locs hP hD hS g70 k69 => ?_))
    have hT := hT.up ht_h0 g70 k69 ⟨_, _, _, _, _, _, _, _, _, _, _, _, _, _, _, _, _, _, _, _, _, _, _, _, _, _, _, _, rfl, ro43_0, ro43_1, ro43_2, ro43_3, ro43_4, ro43_5, (by decide), (by decide), (by decide), ro43_9, ro43_10, ro43_11, ro43_12, ro43_13⟩
    have hR := hR.up ht_h0 (by decide) k69
    refine lv_aload_n hx hb dX12_contract_58 rfl (lv_at hl 0 rfl) ?_
    refine lv_sipush (v := 2399) hx hb dX12_contract_59 (by decide) ?_
    obtain ⟨q71, eq71⟩ := tp_pos (tp_in hG ht_h0 (by decide)) g70
    refine va_put (D := (dC, dI)) (ci := 12) (v := .int 2399) (ty := .int) (C := RX12) (T := TX12) (N := 53) hx hb hts hfX12 tyX12 tyX12_ok nmX12 hown hK hP hD hS q71 eq71 rfl 17 (by decide) (hts (.fieldLink RX12 403 "ColdShipsModel" "nTo" "I") wa_992) (fun _ h9 => h9) rfl (tyX12_ok 17 (by decide)) rfl rfl (Nat.le_of_ble_eq_true rfl) dX12_contract_62 (tp_k (.inr (12, [.int o43_x0, .int o43_x1, .ref (ρ h0 2), .ref (ρ h0 3), .ref (ρ h0 4), .ref (ρ h0 5), .ref (ρ h0 6), .int o43_x7, .ref (ρ h0 8), .int o43_x9, .int o43_x10, .int o43_x11, .int o43_x12, .long o43_x13, .int o43_x14, .int o43_x15, .int 0, .int 2399, .int o43_x18, .int 0, .int 0, .ref (ρ h0 21), .int 0, .ref (ρ h0 23), .ref (ρ h0 24), .int 0, .ref (ρ h0 26), .ref (ρ h0 27), .int o43_x28, .int o43_x29, .ref (ρ h0 30), .ref (ρ h0 31), .int o43_x32, .long o43_x33, .long o43_x34, .long o43_x35, .int o43_x36, .int o43_x37, .int o43_x38, .ref (ρ h0 39), .ref (ρ h0 40), .ref (ρ h0 41), .ref (ρ h0 42), .ref (ρ h0 43), .ref (ρ h0 44), .ref (ρ h0 45), .ref (ρ h0 46), .int o43_x47, .int o43_x48, .ref (ρ h0 49), .ref (ρ h0 50), .ref (ρ h0 51), .ref (ρ h0 52)])) hD (tp_in hG ht_h0 (by decide)) eq71 (fun f72 H locs hP hD hS g74 k73 => ?_))
    have hT := hT.up ht_h0 g74 k73 ⟨_, _, _, _, _, _, _, _, _, _, _, _, _, _, _, _, _, _, _, _, _, _, _, _, _, _, _, _, rfl, ro43_0, ro43_1, ro43_2, ro43_3, ro43_4, ro43_5, (by decide), (by decide), (by decide), ro43_9, ro43_10, ro43_11, ro43_12, ro43_13⟩
    have hR := hR.up ht_h0 (by decide) k73
    refine lv_aload_n hx hb dX12_contract_65 rfl (lv_at hl 0 rfl) ?_
    refine lv_iconst (v := (-1)) hx hb dX12_contract_66 (by decide) ?_
    obtain ⟨q75, eq75⟩ := tp_pos (tp_in hG ht_h0 (by decide)) g74
    refine va_put (D := (dC, dI)) (ci := 12) (v := .int (-1)) (ty := .int) (C := RX12) (T := TX12) (N := 53) hx hb hts hfX12 tyX12 tyX12_ok nmX12 hown hK hP hD hS q75 eq75 rfl 18 (by decide) (hts (.fieldLink RX12 408 "ColdShipsModel" "nAt" "I") wa_993) (fun _ h9 => h9) rfl (tyX12_ok 18 (by decide)) rfl rfl (Nat.le_of_ble_eq_true rfl) dX12_contract_67 (tp_k (.inr (12, [.int o43_x0, .int o43_x1, .ref (ρ h0 2), .ref (ρ h0 3), .ref (ρ h0 4), .ref (ρ h0 5), .ref (ρ h0 6), .int o43_x7, .ref (ρ h0 8), .int o43_x9, .int o43_x10, .int o43_x11, .int o43_x12, .long o43_x13, .int o43_x14, .int o43_x15, .int 0, .int 2399, .int (-1), .int 0, .int 0, .ref (ρ h0 21), .int 0, .ref (ρ h0 23), .ref (ρ h0 24), .int 0, .ref (ρ h0 26), .ref (ρ h0 27), .int o43_x28, .int o43_x29, .ref (ρ h0 30), .ref (ρ h0 31), .int o43_x32, .long o43_x33, .long o43_x34, .long o43_x35, .int o43_x36, .int o43_x37, .int o43_x38, .ref (ρ h0 39), .ref (ρ h0 40), .ref (ρ h0 41), .ref (ρ h0 42), .ref (ρ h0 43), .ref (ρ h0 44), .ref (ρ h0 45), .ref (ρ h0 46), .int o43_x47, .int o43_x48, .ref (ρ h0 49), .ref (ρ h0 50), .ref (ρ h0 51), .ref (ρ h0 52)])) hD (tp_in hG ht_h0 (by decide)) eq75 (fun f76 H locs hP hD hS g78 k77 => ?_))
    have hT := hT.up ht_h0 g78 k77 ⟨_, _, _, _, _, _, _, _, _, _, _, _, _, _, _, _, _, _, _, _, _, _, _, _, _, _, _, _, rfl, ro43_0, ro43_1, ro43_2, ro43_3, ro43_4, ro43_5, (by decide), (by decide), (by decide), ro43_9, ro43_10, ro43_11, ro43_12, ro43_13⟩
    have hR := hR.up ht_h0 (by decide) k77
    refine lv_aload_n hx hb dX12_contract_70 rfl (lv_at hl 0 rfl) ?_
    have hf_79 : f41 (ρ h0 2) = .inl (κ 0, 12967, .inl g27) := (hF42 _ (by rw [y1]; decide)).trans hf_34
    have hf_80 : f52 (ρ h0 2) = .inl (κ 0, 12967, .inl g27) := (k53 _ (tp_ne y1 ht_h0 (by decide))).trans hf_79
    have hf_81 : f56 (ρ h0 2) = .inl (κ 0, 12967, .inl g27) := (k57 _ (tp_ne y1 ht_h0 (by decide))).trans hf_80
    have hf_82 : f60 (ρ h0 2) = .inl (κ 0, 12967, .inl g27) := (k61 _ (tp_ne y1 ht_h0 (by decide))).trans hf_81
    have hf_83 : f64 (ρ h0 2) = .inl (κ 0, 12967, .inl g27) := (k65 _ (tp_ne y1 ht_h0 (by decide))).trans hf_82
    have hf_84 : f68 (ρ h0 2) = .inl (κ 0, 12967, .inl g27) := (k69 _ (tp_ne y1 ht_h0 (by decide))).trans hf_83
    have hf_85 : f72 (ρ h0 2) = .inl (κ 0, 12967, .inl g27) := (k73 _ (tp_ne y1 ht_h0 (by decide))).trans hf_84
    have hf_86 : f76 (ρ h0 2) = .inl (κ 0, 12967, .inl g27) := (k77 _ (tp_ne y1 ht_h0 (by decide))).trans hf_85
    have tf87 : tp_fld (f76 h0) 9 = o43_x9.toInt := tff_9 g78
    have tf88 : tp_fld (f76 h0) 10 = o43_x10.toInt := tff_10 g78
    have tf89 : tp_fld (f76 h0) 11 = o43_x11.toInt := tff_11 g78
    have tf90 : tp_fld (f76 h0) 12 = o43_x12.toInt := tff_12 g78
    have tf91 : mo_fj (f76 h0) 13 = o43_x13.toInt := tff_13 g78
    have tf92 : tp_fld (f76 h0) 15 = o43_x15.toInt := tff_15 g78
    have tf93 : tp_fld (f76 h0) 22 = 0 := tff_22 g78
    have tf94 : tp_fld (f76 h0) 20 = 0 := tff_20 g78
    have tf95 : tp_fld (f76 h0) 19 = 0 := tff_19 g78
    obtain ⟨g97, hf_o96⟩ := tpo_51 hT y7
    have tf98 : mo_i (f76 (ρ h0 21)) = g97 := tfa_i hf_o96
    obtain ⟨g100, hf_o99⟩ := tpo_53 hT y8
    have tf101 : mo_i (f76 (ρ h0 23)) = g100 := tfa_i hf_o99
    obtain ⟨g103, hf_o102⟩ := tpo_54 hT y9
    have tf104 : mo_i (f76 (ρ h0 24)) = g103 := tfa_i hf_o102
    obtain ⟨q105, eq105⟩ := tp_pos (tp_in hG ht_h0 (by decide)) g78
    have hFc := tp_fr hD hS hA
    refine va_callv (va_runV (As := []) (rest := []) ⟨hx, hb, hml, hown, hts⟩ (t_X12_readClause l dC dI _ κ τ ν ρ L f76 hG hT h0 ht_h0 (by first | (simp only [tf88, tf89, tf87, tf90, tf91, mo_i1, mo_l1]; exact (show (o43_x10.toInt ≤ o43_x11.toInt ∧ o43_x11.toInt ≤ o43_x9.toInt ∧ (o43_x12.toInt = 0 ∨ o43_x10.toInt < o43_x11.toInt) ∧ (o43_x12.toInt = 1 → o43_x11.toInt = o43_x10.toInt + 1 → o43_x13.toInt ≤ 26)) from by first | omega | decide)) | (rw [tf88, tf89, tf87, tf90, tf91]; exact (show (o43_x10.toInt ≤ o43_x11.toInt ∧ o43_x11.toInt ≤ o43_x9.toInt ∧ (o43_x12.toInt = 0 ∨ o43_x10.toInt < o43_x11.toInt) ∧ (o43_x12.toInt = 1 → o43_x11.toInt = o43_x10.toInt + 1 → o43_x13.toInt ≤ 26)) from by first | omega | decide))) (by first | (simp only [tf92, mo_i1, mo_l1]; exact (show o43_x15.toInt = 0 from by first | omega | decide)) | (rw [tf92]; exact (show o43_x15.toInt = 0 from by first | omega | decide))) (by first | (simp only [tf93, tf88, mo_i1, mo_l1]; exact (show 0 ≤ o43_x10.toInt from by first | omega | decide)) | (rw [tf93, tf88]; exact (show 0 ≤ o43_x10.toInt from by first | omega | decide))) (by first | (simp only [tf94, tf95, mo_i1, mo_l1]; exact (show 0 ≤ 0 from by first | omega | decide)) | (rw [tf94, tf95]; exact (show 0 ≤ 0 from by first | omega | decide))) (by first | (simp only [tf98, tf101, tf104, tf94, tf93, mo_i1, mo_l1]; exact (show mo_NC (mo_R g97) (mo_R g100) (mo_R g103) 0 0 from mo_NC.rf _ _ _ (by decide))) | (rw [tf98, tf101, tf104, tf94, tf93]; exact (show mo_NC (mo_R g97) (mo_R g100) (mo_R g103) 0 0 from mo_NC.rf _ _ _ (by decide))))) (cwV 0 hts gX12_contract_X12_readClause rfl rfl rfl ⟨rfl, pd_X12_readClause⟩ ⟨Nat.le_of_ble_eq_true rfl, Nat.le_of_ble_eq_true rfl⟩) ⟨pz_blind, va_recv hK hP (ci := 12) (q0 := q105) rfl eq105, pz_pre hP hK hD hN⟩ rfl rfl hl.1 rfl (lv_room (Nat.le_of_ble_eq_true rfl)) dX12_contract_71 ⟨Nat.le_of_ble_eq_true rfl, Nat.le_of_ble_eq_true rfl⟩) hS (fun q _ h => hFc q h) hFc (fun f108 t H1 locs ht hvm hw107 hB hz1 hk1 hS => ?_)
    obtain ⟨hT, hF109, hw107p⟩ := hw107
    have hR := hR.then hF109 (by decide)
    have hP := hB.1; rw [ht] at hP; have hD := tp_ad f108 hD; clear hB hFc hz1 hk1; subst ht; generalize t.heap = H at hP hS ⊢
    obtain ⟨o110_x0, o110_x1, o110_x7, o110_x9, o110_x10, o110_x11, o110_x12, o110_x13, o110_x14, o110_x15, o110_x16, o110_x17, o110_x18, o110_x19, o110_x20, o110_x22, o110_x25, o110_x28, o110_x29, o110_x32, o110_x33, o110_x34, o110_x35, o110_x36, o110_x37, o110_x38, o110_x47, o110_x48, hf_o110, ro110_0, ro110_1, ro110_2, ro110_3, ro110_4, ro110_5, ro110_6, ro110_7, ro110_8, ro110_9, ro110_10, ro110_11, ro110_12, ro110_13⟩ := tpo_13 hT ht_h0
    have tf111 : tp_fld (f108 h0) 10 = o110_x10.toInt := tff_10 hf_o110
    have tf112 : tp_fld (f108 h0) 11 = o110_x11.toInt := tff_11 hf_o110
    have tf113 : tp_fld (f108 h0) 9 = o110_x9.toInt := tff_9 hf_o110
    have tf114 : tp_fld (f108 h0) 12 = o110_x12.toInt := tff_12 hf_o110
    have tf115 : mo_fj (f108 h0) 13 = o110_x13.toInt := tff_13 hf_o110
    have tf116 : tp_fld (f108 h0) 15 = o110_x15.toInt := tff_15 hf_o110
    have tf117 : tp_fld (f108 h0) 22 = o110_x22.toInt := tff_22 hf_o110
    have tf118 : tp_fld (f108 h0) 20 = o110_x20.toInt := tff_20 hf_o110
    have tf119 : tp_fld (f108 h0) 19 = o110_x19.toInt := tff_19 hf_o110
    obtain ⟨g121, hf_o120⟩ := tpo_51 hT y7
    have tf122 : mo_i (f108 (ρ h0 21)) = g121 := tfa_i hf_o120
    obtain ⟨g124, hf_o123⟩ := tpo_53 hT y8
    have tf125 : mo_i (f108 (ρ h0 23)) = g124 := tfa_i hf_o123
    obtain ⟨g127, hf_o126⟩ := tpo_54 hT y9
    have tf128 : mo_i (f108 (ρ h0 24)) = g127 := tfa_i hf_o126
    have tk129 : (o110_x10.toInt ≤ o110_x11.toInt ∧ o110_x11.toInt ≤ o110_x9.toInt ∧ (o110_x12.toInt = 0 ∨ o110_x10.toInt < o110_x11.toInt) ∧ (o110_x12.toInt = 1 → o110_x11.toInt = o110_x10.toInt + 1 → o110_x13.toInt ≤ 26)) ∧ (o110_x15.toInt = 0 → o110_x22.toInt ≤ o110_x10.toInt ∧ o110_x20.toInt ≤ o110_x19.toInt ∧ mo_NC (mo_R g121) (mo_R g124) (mo_R g127) o110_x20.toInt o110_x22.toInt) ∧ o110_x9.toInt = o43_x9.toInt := by have q9 := hw107p; first | (simp only [tf111, tf112, tf113, tf114, tf115, tf116, tf117, tf118, tf119, tf122, tf125, tf128, tf87, mo_i1, mo_l1] at q9; exact q9) | (rw [tf111, tf112, tf113, tf114, tf115, tf116, tf117, tf118, tf119, tf122, tf125, tf128, tf87] at q9; exact q9)
    have hf_130 : f108 (ρ h0 2) = .inl (κ 0, 12967, .inl g27) := (hF109 _ (by rw [y1]; decide)).trans hf_86
    refine pz_loop (fun n0 H locs ls => ∃ f132 : Nat → va_E, n0 = (2010 - 5 * (tp_fld (f132 h0) 10) - 3000 * (tp_fld (f132 h0) 15)).toNat ∧ tp_T (mo_O κ) κ τ ν ρ f132 ∧ tp_F τ [13, 32, 51, 53, 54, 56, 57] f f132 ∧ f132 (ρ h0 2) = .inl (κ 0, 12967, .inl g27) ∧ ((((tp_fld (f132 h0) 10) ≤ (tp_fld (f132 h0) 11) ∧ (tp_fld (f132 h0) 11) ≤ (tp_fld (f132 h0) 9) ∧ ((tp_fld (f132 h0) 12) = 0 ∨ (tp_fld (f132 h0) 10) < (tp_fld (f132 h0) 11)) ∧ ((tp_fld (f132 h0) 12) = 1 → (tp_fld (f132 h0) 11) = (tp_fld (f132 h0) 10) + 1 → (mo_fj (f132 h0) 13) ≤ 26)))) ∧ ((((tp_fld (f132 h0) 15) = 0 → (tp_fld (f132 h0) 22) ≤ (tp_fld (f132 h0) 10) ∧ (tp_fld (f132 h0) 20) ≤ (tp_fld (f132 h0) 19) ∧ mo_NC (mo_R (mo_i (f132 (ρ h0 21)))) (mo_R (mo_i (f132 (ρ h0 23)))) (mo_R (mo_i (f132 (ρ h0 24)))) (tp_fld (f132 h0) 20) (tp_fld (f132 h0) 22)))) ∧ va_P (dC, dI) vwCl (va_pl L f132) H ∧ va_D A (va_pl L f132) ∧ va_S A s.heap H locs ∧ lv_has ls 3 [(0, .ref h0)]) ?_ _ _ _ _ ⟨f108, rfl, hT, hR, hf_130, (by first | (simp only [tf111, tf112, tf113, tf114, tf115, mo_i1, mo_l1]; exact (show (o110_x10.toInt ≤ o110_x11.toInt ∧ o110_x11.toInt ≤ o110_x9.toInt ∧ (o110_x12.toInt = 0 ∨ o110_x10.toInt < o110_x11.toInt) ∧ (o110_x12.toInt = 1 → o110_x11.toInt = o110_x10.toInt + 1 → o110_x13.toInt ≤ 26)) from by first | omega | decide)) | (rw [tf111, tf112, tf113, tf114, tf115]; exact (show (o110_x10.toInt ≤ o110_x11.toInt ∧ o110_x11.toInt ≤ o110_x9.toInt ∧ (o110_x12.toInt = 0 ∨ o110_x10.toInt < o110_x11.toInt) ∧ (o110_x12.toInt = 1 → o110_x11.toInt = o110_x10.toInt + 1 → o110_x13.toInt ≤ 26)) from by first | omega | decide))), (by first | (simp only [tf116, tf117, tf111, tf118, tf119, tf122, tf125, tf128, mo_i1, mo_l1]; exact (show (o110_x15.toInt = 0 → o110_x22.toInt ≤ o110_x10.toInt ∧ o110_x20.toInt ≤ o110_x19.toInt ∧ mo_NC (mo_R g121) (mo_R g124) (mo_R g127) o110_x20.toInt o110_x22.toInt) from tk129.2.1)) | (rw [tf116, tf117, tf111, tf118, tf119, tf122, tf125, tf128]; exact (show (o110_x15.toInt = 0 → o110_x22.toInt ≤ o110_x10.toInt ∧ o110_x20.toInt ≤ o110_x19.toInt ∧ mo_NC (mo_R g121) (mo_R g124) (mo_R g127) o110_x20.toInt o110_x22.toInt) from tk129.2.1))), hP, hD, hS, lv_sub hl [0] rfl⟩
    intro n0 H locs ls hI ih134
    obtain ⟨f132, hn135, hT, hR, hk131k, jf136, jf137, hP, hD, hS, hl⟩ := hI
    obtain ⟨o138_x0, o138_x1, o138_x7, o138_x9, o138_x10, o138_x11, o138_x12, o138_x13, o138_x14, o138_x15, o138_x16, o138_x17, o138_x18, o138_x19, o138_x20, o138_x22, o138_x25, o138_x28, o138_x29, o138_x32, o138_x33, o138_x34, o138_x35, o138_x36, o138_x37, o138_x38, o138_x47, o138_x48, hf_o138, ro138_0, ro138_1, ro138_2, ro138_3, ro138_4, ro138_5, ro138_6, ro138_7, ro138_8, ro138_9, ro138_10, ro138_11, ro138_12, ro138_13⟩ := tpo_13 hT ht_h0
    have tf139 : tp_fld (f132 h0) 10 = o138_x10.toInt := tff_10 hf_o138
    have tf140 : tp_fld (f132 h0) 11 = o138_x11.toInt := tff_11 hf_o138
    have tf141 : tp_fld (f132 h0) 9 = o138_x9.toInt := tff_9 hf_o138
    have tf142 : tp_fld (f132 h0) 12 = o138_x12.toInt := tff_12 hf_o138
    have tf143 : mo_fj (f132 h0) 13 = o138_x13.toInt := tff_13 hf_o138
    have jf136 : (o138_x10.toInt ≤ o138_x11.toInt ∧ o138_x11.toInt ≤ o138_x9.toInt ∧ (o138_x12.toInt = 0 ∨ o138_x10.toInt < o138_x11.toInt) ∧ (o138_x12.toInt = 1 → o138_x11.toInt = o138_x10.toInt + 1 → o138_x13.toInt ≤ 26)) := by have q9 := jf136; first | (simp only [tf139, tf140, tf141, tf142, tf143, mo_i1, mo_l1] at q9; exact q9) | (rw [tf139, tf140, tf141, tf142, tf143] at q9; exact q9)
    have tf144 : tp_fld (f132 h0) 15 = o138_x15.toInt := tff_15 hf_o138
    have tf145 : tp_fld (f132 h0) 22 = o138_x22.toInt := tff_22 hf_o138
    have tf146 : tp_fld (f132 h0) 20 = o138_x20.toInt := tff_20 hf_o138
    have tf147 : tp_fld (f132 h0) 19 = o138_x19.toInt := tff_19 hf_o138
    obtain ⟨g149, hf_o148⟩ := tpo_51 hT y7
    have tf150 : mo_i (f132 (ρ h0 21)) = g149 := tfa_i hf_o148
    obtain ⟨g152, hf_o151⟩ := tpo_53 hT y8
    have tf153 : mo_i (f132 (ρ h0 23)) = g152 := tfa_i hf_o151
    obtain ⟨g155, hf_o154⟩ := tpo_54 hT y9
    have tf156 : mo_i (f132 (ρ h0 24)) = g155 := tfa_i hf_o154
    have jf137 : (o138_x15.toInt = 0 → o138_x22.toInt ≤ o138_x10.toInt ∧ o138_x20.toInt ≤ o138_x19.toInt ∧ mo_NC (mo_R g149) (mo_R g152) (mo_R g155) o138_x20.toInt o138_x22.toInt) := by have q9 := jf137; first | (simp only [tf144, tf145, tf139, tf146, tf147, tf150, tf153, tf156, mo_i1, mo_l1] at q9; exact q9) | (rw [tf144, tf145, tf139, tf146, tf147, tf150, tf153, tf156] at q9; exact q9)
    have hn135 : n0 = (2010 - 5 * o138_x10.toInt - 3000 * o138_x15.toInt).toNat := by have q9 := hn135; first | (simp only [tf139, tf144, mo_i1, mo_l1] at q9; exact q9) | (rw [tf139, tf144] at q9; exact q9)
    refine lv_aload_n hx hb dX12_contract_74 rfl (lv_at hl 0 rfl) ?_
    obtain ⟨q157, eq157⟩ := tp_pos (tp_in hG ht_h0 (by decide)) hf_o138
    refine va_get (D := (dC, dI)) (ci := 12) (v := .int o138_x15) (C := RX12) (T := TX12) (N := 53) hx hb hts hfX12 hown hK hP q157 eq157 rfl 15 (by decide) (hts (.fieldLink RX12 261 "ColdShipsModel" "bad" "Z") wa_994) (fun _ h9 => h9) rfl dX12_contract_75 ?_
    refine lv_if_ne (tgt := 101) hx hb dX12_contract_78 (by decide) (fun c158 => ?_) (fun c158 => ?_)
    · have ic158 : o138_x15.toInt ≠ 0 := zi_ne rfl rfl c158
      refine lv_aload_n hx hb dX12_contract_101 rfl (lv_at hl 0 rfl) ?_
      refine va_get (D := (dC, dI)) (ci := 12) (v := .int o138_x15) (C := RX12) (T := TX12) (N := 53) hx hb hts hfX12 hown hK hP q157 eq157 rfl 15 (by decide) (hts (.fieldLink RX12 261 "ColdShipsModel" "bad" "Z") wa_994) (fun _ h9 => h9) rfl dX12_contract_102 ?_
      refine lv_if_ne (tgt := 120) hx hb dX12_contract_105 (by decide) (fun c159 => ?_) (fun c159 => ?_)
      · have ic159 : o138_x15.toInt ≠ 0 := zi_ne rfl rfl c159
        refine lv_aload_n hx hb dX12_contract_120 rfl (lv_at hl 0 rfl) ?_
        refine lv_iconst (v := 0) hx hb dX12_contract_121 (by decide) ?_
        refine va_put (D := (dC, dI)) (ci := 12) (v := .int 0) (ty := .int) (C := RX12) (T := TX12) (N := 53) hx hb hts hfX12 tyX12 tyX12_ok nmX12 hown hK hP hD hS q157 eq157 rfl 9 (by decide) (hts (.fieldLink RX12 252 "ColdShipsModel" "taped" "I") wa_774) (fun _ h9 => h9) rfl (tyX12_ok 9 (by decide)) rfl rfl (Nat.le_of_ble_eq_true rfl) dX12_contract_122 (tp_k (.inr (12, [.int o138_x0, .int o138_x1, .ref (ρ h0 2), .ref (ρ h0 3), .ref (ρ h0 4), .ref (ρ h0 5), .ref (ρ h0 6), .int o138_x7, .ref (ρ h0 8), .int 0, .int o138_x10, .int o138_x11, .int o138_x12, .long o138_x13, .int o138_x14, .int o138_x15, .int o138_x16, .int o138_x17, .int o138_x18, .int o138_x19, .int o138_x20, .ref (ρ h0 21), .int o138_x22, .ref (ρ h0 23), .ref (ρ h0 24), .int o138_x25, .ref (ρ h0 26), .ref (ρ h0 27), .int o138_x28, .int o138_x29, .ref (ρ h0 30), .ref (ρ h0 31), .int o138_x32, .long o138_x33, .long o138_x34, .long o138_x35, .int o138_x36, .int o138_x37, .int o138_x38, .ref (ρ h0 39), .ref (ρ h0 40), .ref (ρ h0 41), .ref (ρ h0 42), .ref (ρ h0 43), .ref (ρ h0 44), .ref (ρ h0 45), .ref (ρ h0 46), .int o138_x47, .int o138_x48, .ref (ρ h0 49), .ref (ρ h0 50), .ref (ρ h0 51), .ref (ρ h0 52)])) hD (tp_in hG ht_h0 (by decide)) eq157 (fun f160 H locs hP hD hS g162 k161 => ?_))
        have hT := hT.up ht_h0 g162 k161 ⟨_, _, _, _, _, _, _, _, _, _, _, _, _, _, _, _, _, _, _, _, _, _, _, _, _, _, _, _, rfl, ro138_0, (by decide), ro138_2, ro138_3, ro138_4, ro138_5, ro138_6, ro138_7, ro138_8, ro138_9, ro138_10, ro138_11, ro138_12, ro138_13⟩
        have hR := hR.up ht_h0 (by decide) k161
        refine lv_aload_n hx hb dX12_contract_125 rfl (lv_at hl 0 rfl) ?_
        obtain ⟨q163, eq163⟩ := tp_pos (tp_in hG ht_h0 (by decide)) g162
        refine va_get (D := (dC, dI)) (ci := 12) (v := .int o138_x15) (C := RX12) (T := TX12) (N := 53) hx hb hts hfX12 hown hK hP q163 eq163 rfl 15 (by decide) (hts (.fieldLink RX12 261 "ColdShipsModel" "bad" "Z") wa_994) (fun _ h9 => h9) rfl dX12_contract_126 ?_
        refine lv_if_eq (tgt := 139) hx hb dX12_contract_129 (by decide) (fun c164 => ?_) (fun c164 => ?_)
        · have ic164 : o138_x15.toInt = 0 := zi_eq rfl rfl c164
          exfalso; omega
        · have ic164 : o138_x15.toInt ≠ 0 := zi_eqf rfl rfl c164
          refine lv_aload_n hx hb dX12_contract_132 rfl (lv_at hl 0 rfl) ?_
          refine lv_bipush (v := (-6)) hx hb dX12_contract_133 (by decide) ?_
          have hf_165 : f160 (ρ h0 2) = .inl (κ 0, 12967, .inl g27) := (k161 _ (tp_ne y1 ht_h0 (by decide))).trans hk131k
          have hFc := tp_fr hD hS hA
          refine va_calli (va_runV (As := [.int (-6)]) (rest := []) ⟨hx, hb, hml, hown, hts⟩ (t_X12_told l dC dI _ κ τ ν ρ L f160 hG hT h0 ((-6)) ht_h0) (cwV 1 hts gX12_contract_X12_told rfl rfl rfl ⟨rfl, pd_X12_told⟩ ⟨Nat.le_of_ble_eq_true rfl, Nat.le_of_ble_eq_true rfl⟩) ⟨pz_blind, va_recv hK hP (ci := 12) (q0 := q163) rfl eq163, pz_pre hP hK hD hN⟩ rfl rfl hl.1 rfl (lv_room (Nat.le_of_ble_eq_true rfl)) dX12_contract_135 ⟨Nat.le_of_ble_eq_true rfl, Nat.le_of_ble_eq_true rfl⟩) hS (fun q _ h => hFc q h) hFc (fun r166 f168 t H1 locs ht hvm hw167 hB hz1 hk1 hS => ?_)
          obtain ⟨hT, hF169, hw167r, hw167p⟩ := hw167
          have hR := hR.then hF169 (by decide)
          have hP := hB.1; rw [ht] at hP; have hD := tp_ad f168 hD; clear hB hFc hz1 hk1; subst ht; generalize t.heap = H at hP hS ⊢
          have hw167pq : r166.toInt = (-6) := by rw [hw167p]; rfl
          have hf_170 : f168 (ρ h0 2) = .inl (κ 0, 12967, .inl g27) := (hF169 _ (by rw [y1]; decide)).trans hf_165
          exact W.iret (v := r166) hx hb hr (fun t ht hW => ⟨⟨r166, f168, rfl, ⟨hT, hR, trivial, (by rw [hf_170, mo_i1]; exact hI)⟩, by rw [ht]; exact hP, va_K.moved hW.alike hK, hD⟩, hS.F ht⟩) hS.2.2 dX12_contract_138
      · have ic159 : o138_x15.toInt = 0 := zi_nef rfl rfl c159
        exfalso; omega
    · have ic158 : o138_x15.toInt = 0 := zi_nef rfl rfl c158
      refine lv_aload_n hx hb dX12_contract_81 rfl (lv_at hl 0 rfl) ?_
      refine lv_bipush (v := 59) hx hb dX12_contract_82 (by decide) ?_
      refine pz_calli (va_runV (As := [.int 59]) (rest := []) ⟨hx, hb, hml, hown, hts⟩ (t_X12_isSign l dC dI _ κ τ ν ρ L f132 hG hT h0 (59) ht_h0) (cwV 1 hts gX12_contract_X12_isSign rfl rfl rfl ⟨rfl, pd_X12_isSign⟩ ⟨Nat.le_of_ble_eq_true rfl, Nat.le_of_ble_eq_true rfl⟩) ⟨pz_blind, va_recv hK hP (ci := 12) (q0 := q157) rfl eq157, pz_pre hP hK hD hN⟩ rfl rfl hl.1 rfl (lv_room (Nat.le_of_ble_eq_true rfl)) dX12_contract_84 ⟨Nat.le_of_ble_eq_true rfl, Nat.le_of_ble_eq_true rfl⟩) (fun r171 hw172 => ?_)
      obtain ⟨hw172r, hw172p⟩ := hw172
      have tk173 : (r171.toInt ≠ 0 → o138_x12.toInt = 3 ∧ o138_x13.toInt = (59 : Int)) := by have q9 := hw172p; first | (simp only [tf142, tf143, mo_i1, mo_l1] at q9; exact q9) | (rw [tf142, tf143] at q9; exact q9)
      refine lv_if_eq (tgt := 101) hx hb dX12_contract_87 (by decide) (fun c174 => ?_) (fun c174 => ?_)
      · have ic174 : r171.toInt = 0 := zi_eq rfl rfl c174
        refine lv_aload_n hx hb dX12_contract_101 rfl (lv_at hl 0 rfl) ?_
        refine va_get (D := (dC, dI)) (ci := 12) (v := .int o138_x15) (C := RX12) (T := TX12) (N := 53) hx hb hts hfX12 hown hK hP q157 eq157 rfl 15 (by decide) (hts (.fieldLink RX12 261 "ColdShipsModel" "bad" "Z") wa_994) (fun _ h9 => h9) rfl dX12_contract_102 ?_
        refine lv_if_ne (tgt := 120) hx hb dX12_contract_105 (by decide) (fun c175 => ?_) (fun c175 => ?_)
        · have ic175 : o138_x15.toInt ≠ 0 := zi_ne rfl rfl c175
          exfalso; omega
        · have ic175 : o138_x15.toInt = 0 := zi_nef rfl rfl c175
          refine lv_aload_n hx hb dX12_contract_108 rfl (lv_at hl 0 rfl) ?_
          refine va_get (D := (dC, dI)) (ci := 12) (v := .int o138_x12) (C := RX12) (T := TX12) (N := 53) hx hb hts hfX12 hown hK hP q157 eq157 rfl 12 (by decide) (hts (.fieldLink RX12 280 "ColdShipsModel" "sort" "I") wa_995) (fun _ h9 => h9) rfl dX12_contract_109 ?_
          refine lv_if_eq (tgt := 120) hx hb dX12_contract_112 (by decide) (fun c176 => ?_) (fun c176 => ?_)
          · have ic176 : o138_x12.toInt = 0 := zi_eq rfl rfl c176
            refine lv_aload_n hx hb dX12_contract_120 rfl (lv_at hl 0 rfl) ?_
            refine lv_iconst (v := 0) hx hb dX12_contract_121 (by decide) ?_
            refine va_put (D := (dC, dI)) (ci := 12) (v := .int 0) (ty := .int) (C := RX12) (T := TX12) (N := 53) hx hb hts hfX12 tyX12 tyX12_ok nmX12 hown hK hP hD hS q157 eq157 rfl 9 (by decide) (hts (.fieldLink RX12 252 "ColdShipsModel" "taped" "I") wa_774) (fun _ h9 => h9) rfl (tyX12_ok 9 (by decide)) rfl rfl (Nat.le_of_ble_eq_true rfl) dX12_contract_122 (tp_k (.inr (12, [.int o138_x0, .int o138_x1, .ref (ρ h0 2), .ref (ρ h0 3), .ref (ρ h0 4), .ref (ρ h0 5), .ref (ρ h0 6), .int o138_x7, .ref (ρ h0 8), .int 0, .int o138_x10, .int o138_x11, .int o138_x12, .long o138_x13, .int o138_x14, .int o138_x15, .int o138_x16, .int o138_x17, .int o138_x18, .int o138_x19, .int o138_x20, .ref (ρ h0 21), .int o138_x22, .ref (ρ h0 23), .ref (ρ h0 24), .int o138_x25, .ref (ρ h0 26), .ref (ρ h0 27), .int o138_x28, .int o138_x29, .ref (ρ h0 30), .ref (ρ h0 31), .int o138_x32, .long o138_x33, .long o138_x34, .long o138_x35, .int o138_x36, .int o138_x37, .int o138_x38, .ref (ρ h0 39), .ref (ρ h0 40), .ref (ρ h0 41), .ref (ρ h0 42), .ref (ρ h0 43), .ref (ρ h0 44), .ref (ρ h0 45), .ref (ρ h0 46), .int o138_x47, .int o138_x48, .ref (ρ h0 49), .ref (ρ h0 50), .ref (ρ h0 51), .ref (ρ h0 52)])) hD (tp_in hG ht_h0 (by decide)) eq157 (fun f177 H locs hP hD hS g179 k178 => ?_))
            have hT := hT.up ht_h0 g179 k178 ⟨_, _, _, _, _, _, _, _, _, _, _, _, _, _, _, _, _, _, _, _, _, _, _, _, _, _, _, _, rfl, ro138_0, (by decide), ro138_2, ro138_3, ro138_4, ro138_5, ro138_6, ro138_7, ro138_8, ro138_9, ro138_10, ro138_11, ro138_12, ro138_13⟩
            have hR := hR.up ht_h0 (by decide) k178
            refine lv_aload_n hx hb dX12_contract_125 rfl (lv_at hl 0 rfl) ?_
            obtain ⟨q180, eq180⟩ := tp_pos (tp_in hG ht_h0 (by decide)) g179
            refine va_get (D := (dC, dI)) (ci := 12) (v := .int o138_x15) (C := RX12) (T := TX12) (N := 53) hx hb hts hfX12 hown hK hP q180 eq180 rfl 15 (by decide) (hts (.fieldLink RX12 261 "ColdShipsModel" "bad" "Z") wa_994) (fun _ h9 => h9) rfl dX12_contract_126 ?_
            refine lv_if_eq (tgt := 139) hx hb dX12_contract_129 (by decide) (fun c181 => ?_) (fun c181 => ?_)
            · have ic181 : o138_x15.toInt = 0 := zi_eq rfl rfl c181
              have hf_182 : f177 (ρ h0 21) = .inl (κ 0, 60, .inl g149) := (k178 _ (tp_ne y7 ht_h0 (by decide))).trans hf_o148
              have tf183 : mo_i (f177 (ρ h0 21)) = g149 := tfa_i hf_182
              have hf_184 : f177 (ρ h0 23) = .inl (κ 0, 400, .inl g152) := (k178 _ (tp_ne y8 ht_h0 (by decide))).trans hf_o151
              have tf185 : mo_i (f177 (ρ h0 23)) = g152 := tfa_i hf_184
              have hf_186 : f177 (ρ h0 24) = .inl (κ 0, 400, .inl g155) := (k178 _ (tp_ne y9 ht_h0 (by decide))).trans hf_o154
              have tf187 : mo_i (f177 (ρ h0 24)) = g155 := tfa_i hf_186
              refine lv_sipush (v := 2251) hx hb dX12_contract_139 (by decide) ?_
              refine lv_sipush (v := 864) hx hb dX12_contract_142 (by decide) ?_
              refine lv_aload_n hx hb dX12_contract_145 rfl (lv_at hl 0 rfl) ?_
              refine va_get (D := (dC, dI)) (ci := 12) (v := .ref (ρ h0 2)) (C := RX12) (T := TX12) (N := 53) hx hb hts hfX12 hown hK hP q180 eq180 rfl 2 (by decide) (hts (.fieldLink RX12 7 "ColdShipsModel" "row" "[I") wa_148) (fun _ h9 => h9) rfl dX12_contract_146 ?_
              refine lv_bipush (v := 8) hx hb dX12_contract_149 (by decide) ?_
              have hf_188 : f177 (ρ h0 2) = .inl (κ 0, 12967, .inl g27) := (k178 _ (tp_ne y1 ht_h0 (by decide))).trans hk131k
              obtain ⟨q189, eq189⟩ := tp_pos (tp_in hG y1 (by decide)) hf_188
              refine va_iald hx hb hK hP q189 0 eq189 rfl (vp_in_iff.mpr ⟨by decide, by decide⟩) dX12_contract_151 ?_
              refine lv_topi (fun z190 ez190 => ?_)
              have jz190 : z190.toInt = mo_R g27 (8) := mo_rd ez190 (show (8 : Int32).toInt = (8) from by decide)
              have kz190 := hI.k8
              refine lv_imul hx hb dX12_contract_152 ?_
              refine lv_topi (fun z191 ez191 => ?_)
              have iz191 : z191.toInt = 864 * z190.toInt := zi_mul ez191 rfl rfl (by omega) (by omega)
              refine lv_iadd hx hb dX12_contract_153 ?_
              refine lv_topi (fun z192 ez192 => ?_)
              have iz192 : z192.toInt = 2251 + z191.toInt := zi_add ez192 rfl rfl (by omega) (by omega)
              refine lv_istore_n (lv' := [(1, .int z192), (0, .ref h0)]) hx hb dX12_contract_154 rfl hl (by decide) rfl (fun ls hl => ?_)
              refine lv_aload_n hx hb dX12_contract_155 rfl (lv_at hl 1 rfl) ?_
              refine lv_iload_n hx hb dX12_contract_156 rfl (lv_at hl 0 rfl) ?_
              refine lv_aload_n hx hb dX12_contract_157 rfl (lv_at hl 1 rfl) ?_
              refine va_get (D := (dC, dI)) (ci := 12) (v := .int o138_x16) (C := RX12) (T := TX12) (N := 53) hx hb hts hfX12 hown hK hP q180 eq180 rfl 16 (by decide) (hts (.fieldLink RX12 398 "ColdShipsModel" "nFrom" "I") wa_991) (fun _ h9 => h9) rfl dX12_contract_158 ?_
              refine lv_aload_n hx hb dX12_contract_161 rfl (lv_at hl 1 rfl) ?_
              refine va_get (D := (dC, dI)) (ci := 12) (v := .int o138_x17) (C := RX12) (T := TX12) (N := 53) hx hb hts hfX12 hown hK hP q180 eq180 rfl 17 (by decide) (hts (.fieldLink RX12 403 "ColdShipsModel" "nTo" "I") wa_992) (fun _ h9 => h9) rfl dX12_contract_162 ?_
              refine lv_aload_n hx hb dX12_contract_165 rfl (lv_at hl 1 rfl) ?_
              refine va_get (D := (dC, dI)) (ci := 12) (v := .int o138_x18) (C := RX12) (T := TX12) (N := 53) hx hb hts hfX12 hown hK hP q180 eq180 rfl 18 (by decide) (hts (.fieldLink RX12 408 "ColdShipsModel" "nAt" "I") wa_993) (fun _ h9 => h9) rfl dX12_contract_166 ?_
              refine lv_aload_n hx hb dX12_contract_169 rfl (lv_at hl 1 rfl) ?_
              refine va_get (D := (dC, dI)) (ci := 12) (v := .int o138_x20) (C := RX12) (T := TX12) (N := 53) hx hb hts hfX12 hown hK hP q180 eq180 rfl 20 (by decide) (hts (.fieldLink RX12 411 "ColdShipsModel" "nPays" "I") wa_988) (fun _ h9 => h9) rfl dX12_contract_170 ?_
              have hFc := tp_fr hD hS hA
              refine va_callv (va_runV (As := [.int z192, .int o138_x16, .int o138_x17, .int o138_x18, .int o138_x20]) (rest := []) ⟨hx, hb, hml, hown, hts⟩ (t_X12_addFour l dC dI _ κ τ ν ρ L f177 hG hT h0 z192 o138_x16 o138_x17 o138_x18 o138_x20 ht_h0 (by first | decide | omega)) (cwV 5 hts gX12_contract_X12_addFour rfl rfl rfl ⟨rfl, pd_X12_addFour⟩ ⟨Nat.le_of_ble_eq_true rfl, Nat.le_of_ble_eq_true rfl⟩) ⟨pz_blind, va_recv hK hP (ci := 12) (q0 := q180) rfl eq180, pz_pre hP hK hD hN⟩ rfl rfl hl.1 rfl (lv_room (Nat.le_of_ble_eq_true rfl)) dX12_contract_173 ⟨Nat.le_of_ble_eq_true rfl, Nat.le_of_ble_eq_true rfl⟩) hS (fun q _ h => hFc q h) hFc (fun f195 t H1 locs ht hvm hw194 hB hz1 hk1 hS => ?_)
              obtain ⟨hT, hF196, hw194p⟩ := hw194
              have hR := hR.then hF196 (by decide)
              have hP := hB.1; rw [ht] at hP; have hD := tp_ad f195 hD; clear hB hFc hz1 hk1; subst ht; generalize t.heap = H at hP hS ⊢
              rw [hf_188, mo_i1] at hw194p
              obtain ⟨Q1_196, Q2_196, Q3_196, u1_196, u2_196, u3_196, u4_196⟩ := hw194p
              obtain ⟨g198, hf_o197⟩ := tpo_32 hT y1
              rw [hf_o197, mo_i1] at u4_196
              have hU : mo_U (mo_R g27) (Q1_196) (2251 + 864 * n8 + 0) (o138_x16.toInt) := by have q9 := u1_196; rw [show z192.toInt = (2251 + 864 * n8 + 0) by omega] at q9; exact q9
              have hI := mo_w_con hI hU n8 (0) (by omega) (by omega) (by omega) (by omega)
              have pn199 : Q1_196 (8) = n8 := (hU.ne (by omega) (by omega)).trans en8.symm
              have hU : mo_U (Q1_196) (Q2_196) (2251 + 864 * n8 + 1) (o138_x17.toInt) := by have q9 := u2_196; rw [show z192.toInt + 1 = (2251 + 864 * n8 + 1) by omega] at q9; exact q9
              have hI := mo_w_con hI hU n8 (1) (by omega) (by omega) (by omega) (by omega)
              have pn200 : Q2_196 (8) = n8 := (hU.ne (by omega) (by omega)).trans pn199
              have hU : mo_U (Q2_196) (Q3_196) (2251 + 864 * n8 + 2) (o138_x18.toInt) := by have q9 := u3_196; rw [show z192.toInt + 2 = (2251 + 864 * n8 + 2) by omega] at q9; exact q9
              have hI := mo_w_con hI hU n8 (2) (by omega) (by omega) (by omega) (by omega)
              have pn201 : Q3_196 (8) = n8 := (hU.ne (by omega) (by omega)).trans pn200
              have hU : mo_U (Q3_196) (mo_R g198) (2251 + 864 * n8 + 3) (o138_x20.toInt) := by have q9 := u4_196; rw [show z192.toInt + 3 = (2251 + 864 * n8 + 3) by omega] at q9; exact q9
              have hI := mo_w_con hI hU n8 (3) (by omega) (by omega) (by omega) (by omega)
              have pn202 : mo_R g198 (8) = n8 := (hU.ne (by omega) (by omega)).trans pn201
              have hcc3 : mo_R g198 (2251 + 864 * n8 + 3) = o138_x20.toInt := hU.eq (by omega)
              refine lv_iconst (v := 0) hx hb dX12_contract_176 (by decide) ?_
              refine lv_istore_n (lv' := [(2, .int 0), (1, .int z192), (0, .ref h0)]) hx hb dX12_contract_177 rfl hl (by decide) rfl (fun ls hl => ?_)
              have hf_203 : f195 h0 = .inr (12, [.int o138_x0, .int o138_x1, .ref (ρ h0 2), .ref (ρ h0 3), .ref (ρ h0 4), .ref (ρ h0 5), .ref (ρ h0 6), .int o138_x7, .ref (ρ h0 8), .int 0, .int o138_x10, .int o138_x11, .int o138_x12, .long o138_x13, .int o138_x14, .int o138_x15, .int o138_x16, .int o138_x17, .int o138_x18, .int o138_x19, .int o138_x20, .ref (ρ h0 21), .int o138_x22, .ref (ρ h0 23), .ref (ρ h0 24), .int o138_x25, .ref (ρ h0 26), .ref (ρ h0 27), .int o138_x28, .int o138_x29, .ref (ρ h0 30), .ref (ρ h0 31), .int o138_x32, .long o138_x33, .long o138_x34, .long o138_x35, .int o138_x36, .int o138_x37, .int o138_x38, .ref (ρ h0 39), .ref (ρ h0 40), .ref (ρ h0 41), .ref (ρ h0 42), .ref (ρ h0 43), .ref (ρ h0 44), .ref (ρ h0 45), .ref (ρ h0 46), .int o138_x47, .int o138_x48, .ref (ρ h0 49), .ref (ρ h0 50), .ref (ρ h0 51), .ref (ρ h0 52)]) := (hF196 _ (by rw [ht_h0]; decide)).trans g179
              have hf_206 : f195 (ρ h0 21) = .inl (κ 0, 60, .inl g149) := (hF196 _ (by rw [y7]; decide)).trans hf_182
              have hf_207 : f195 (ρ h0 23) = .inl (κ 0, 400, .inl g152) := (hF196 _ (by rw [y8]; decide)).trans hf_184
              have hf_208 : f195 (ρ h0 24) = .inl (κ 0, 400, .inl g155) := (hF196 _ (by rw [y9]; decide)).trans hf_186
              have tf213 : mo_i (f195 (ρ h0 21)) = g149 := tfa_i hf_206
              have tf214 : mo_i (f195 (ρ h0 23)) = g152 := tfa_i hf_207
              have tf215 : mo_i (f195 (ρ h0 24)) = g155 := tfa_i hf_208
              have tf216 : tp_fld (f195 h0) 20 = o138_x20.toInt := tff_20 hf_203
              refine pz_loop (fun n0 H locs ls => ∃ f217 : Nat → va_E, ∃ w204 : Int32, n0 = (60 - (w204.toInt)).toNat ∧ tp_T (mo_O κ) κ τ ν ρ f217 ∧ tp_F τ [13, 32, 51, 53, 54, 56, 57] f f217 ∧ f217 h0 = .inr (12, [.int o138_x0, .int o138_x1, .ref (ρ h0 2), .ref (ρ h0 3), .ref (ρ h0 4), .ref (ρ h0 5), .ref (ρ h0 6), .int o138_x7, .ref (ρ h0 8), .int 0, .int o138_x10, .int o138_x11, .int o138_x12, .long o138_x13, .int o138_x14, .int o138_x15, .int o138_x16, .int o138_x17, .int o138_x18, .int o138_x19, .int o138_x20, .ref (ρ h0 21), .int o138_x22, .ref (ρ h0 23), .ref (ρ h0 24), .int o138_x25, .ref (ρ h0 26), .ref (ρ h0 27), .int o138_x28, .int o138_x29, .ref (ρ h0 30), .ref (ρ h0 31), .int o138_x32, .long o138_x33, .long o138_x34, .long o138_x35, .int o138_x36, .int o138_x37, .int o138_x38, .ref (ρ h0 39), .ref (ρ h0 40), .ref (ρ h0 41), .ref (ρ h0 42), .ref (ρ h0 43), .ref (ρ h0 44), .ref (ρ h0 45), .ref (ρ h0 46), .int o138_x47, .int o138_x48, .ref (ρ h0 49), .ref (ρ h0 50), .ref (ρ h0 51), .ref (ρ h0 52)]) ∧ f217 (ρ h0 21) = .inl (κ 0, 60, .inl g149) ∧ f217 (ρ h0 23) = .inl (κ 0, 400, .inl g152) ∧ f217 (ρ h0 24) = .inl (κ 0, 400, .inl g155) ∧ ((mo_RI (-1) 0 (mo_R (mo_i (f217 (ρ h0 2)))))) ∧ (((mo_R (mo_i (f217 (ρ h0 2)))) (8) = n8)) ∧ ((mo_CC (mo_R (mo_i (f217 (ρ h0 2)))) (2251 + 864 * n8) (mo_R (mo_i (f217 (ρ h0 21)))) (mo_R (mo_i (f217 (ρ h0 23)))) (mo_R (mo_i (f217 (ρ h0 24)))) (tp_fld (f217 h0) 20) (w204.toInt) 0)) ∧ (0 ≤ w204.toInt ∧ w204.toInt ≤ 60) ∧ ((w204.toInt) ≤ 5 * o138_x20.toInt) ∧ va_P (dC, dI) vwCl (va_pl L f217) H ∧ va_D A (va_pl L f217) ∧ va_S A s.heap H locs ∧ lv_has ls 3 [(2, .int w204), (1, .int z192), (0, .ref h0)]) ?_ _ _ _ _ ⟨f195, 0, rfl, hT, hR, hf_203, hf_206, hf_207, hf_208, (by rw [hf_o197, mo_i1]; exact hI), (by rw [hf_o197, mo_i1]; have : (0 : Int32).toInt = 0 := rfl; omega), (by first | (simp only [tf213, tf214, tf215, tf216, hf_o197, mo_i1, mo_l1]; exact (show mo_CC (mo_R g198) (2251 + 864 * n8) (mo_R g149) (mo_R g152) (mo_R g155) o138_x20.toInt (0 : Int32).toInt 0 from mo_CC.rf _ _ _ hcc3 (by decide) (by decide))) | (rw [tf213, tf214, tf215, tf216, hf_o197]; exact (show mo_CC (mo_R g198) (2251 + 864 * n8) (mo_R g149) (mo_R g152) (mo_R g155) o138_x20.toInt (0 : Int32).toInt 0 from mo_CC.rf _ _ _ hcc3 (by decide) (by decide)))), (by have : (0 : Int32).toInt = 0 := rfl; omega), (by have : (0 : Int32).toInt = 0 := rfl; omega), hP, hD, hS, lv_sub hl [0, 1, 2] rfl⟩
              intro n0 H locs ls hI ih219
              obtain ⟨f217, w204, hn220, hT, hR, hk209k, hk210k, hk211k, hk212k, hJ, jf221, jf222, rw204, k205, hP, hD, hS, hl⟩ := hI
              obtain ⟨g224, hf_o223⟩ := tpo_32 hT y1
              have hI : mo_RI (-1) 0 (mo_R g224) := by have q9 := hJ; rw [hf_o223, mo_i1] at q9; exact q9
              rw [hf_o223, mo_i1] at jf221
              have tf225 : mo_i (f217 (ρ h0 21)) = g149 := tfa_i hk210k
              have tf226 : mo_i (f217 (ρ h0 23)) = g152 := tfa_i hk211k
              have tf227 : mo_i (f217 (ρ h0 24)) = g155 := tfa_i hk212k
              have tf228 : tp_fld (f217 h0) 20 = o138_x20.toInt := tff_20 hk209k
              have jf222 : mo_CC (mo_R g224) (2251 + 864 * n8) (mo_R g149) (mo_R g152) (mo_R g155) o138_x20.toInt (w204.toInt) 0 := by have q9 := jf222; first | (simp only [tf225, tf226, tf227, tf228, hf_o223, mo_i1, mo_l1] at q9; exact q9) | (rw [tf225, tf226, tf227, tf228, hf_o223] at q9; exact q9)
              refine lv_iload_n hx hb dX12_contract_178 rfl (lv_at hl 0 rfl) ?_
              refine lv_iconst (v := 5) hx hb dX12_contract_179 (by decide) ?_
              refine lv_aload_n hx hb dX12_contract_180 rfl (lv_at hl 2 rfl) ?_
              obtain ⟨q229, eq229⟩ := tp_pos (tp_in hG ht_h0 (by decide)) hk209k
              refine va_get (D := (dC, dI)) (ci := 12) (v := .int o138_x20) (C := RX12) (T := TX12) (N := 53) hx hb hts hfX12 hown hK hP q229 eq229 rfl 20 (by decide) (hts (.fieldLink RX12 411 "ColdShipsModel" "nPays" "I") wa_988) (fun _ h9 => h9) rfl dX12_contract_181 ?_
              refine lv_imul hx hb dX12_contract_184 ?_
              refine lv_topi (fun z230 ez230 => ?_)
              have iz230 : z230.toInt = 5 * o138_x20.toInt := zi_mul ez230 rfl rfl (by omega) (by omega)
              refine lv_icmp_ge (tgt := 210) hx hb dX12_contract_185 (by decide) (fun c231 => ?_) (fun c231 => ?_)
              · have ic231 : w204.toInt ≥ z230.toInt := zi_ge rfl rfl c231
                refine lv_iconst (v := 0) hx hb dX12_contract_210 (by decide) ?_
                refine lv_istore_n (lv' := [(2, .int 0), (1, .int z192), (0, .ref h0)]) hx hb dX12_contract_211 rfl hl (by decide) rfl (fun ls hl => ?_)
                refine pz_loop (fun n0 H locs ls => ∃ f238 : Nat → va_E, ∃ w232 : Int32, n0 = (400 - (w232.toInt)).toNat ∧ tp_T (mo_O κ) κ τ ν ρ f238 ∧ tp_F τ [13, 32, 51, 53, 54, 56, 57] f f238 ∧ f238 h0 = .inr (12, [.int o138_x0, .int o138_x1, .ref (ρ h0 2), .ref (ρ h0 3), .ref (ρ h0 4), .ref (ρ h0 5), .ref (ρ h0 6), .int o138_x7, .ref (ρ h0 8), .int 0, .int o138_x10, .int o138_x11, .int o138_x12, .long o138_x13, .int o138_x14, .int o138_x15, .int o138_x16, .int o138_x17, .int o138_x18, .int o138_x19, .int o138_x20, .ref (ρ h0 21), .int o138_x22, .ref (ρ h0 23), .ref (ρ h0 24), .int o138_x25, .ref (ρ h0 26), .ref (ρ h0 27), .int o138_x28, .int o138_x29, .ref (ρ h0 30), .ref (ρ h0 31), .int o138_x32, .long o138_x33, .long o138_x34, .long o138_x35, .int o138_x36, .int o138_x37, .int o138_x38, .ref (ρ h0 39), .ref (ρ h0 40), .ref (ρ h0 41), .ref (ρ h0 42), .ref (ρ h0 43), .ref (ρ h0 44), .ref (ρ h0 45), .ref (ρ h0 46), .int o138_x47, .int o138_x48, .ref (ρ h0 49), .ref (ρ h0 50), .ref (ρ h0 51), .ref (ρ h0 52)]) ∧ f238 (ρ h0 21) = .inl (κ 0, 60, .inl g149) ∧ f238 (ρ h0 23) = .inl (κ 0, 400, .inl g152) ∧ f238 (ρ h0 24) = .inl (κ 0, 400, .inl g155) ∧ ((mo_RI (-1) 0 (mo_R (mo_i (f238 (ρ h0 2)))))) ∧ (((mo_R (mo_i (f238 (ρ h0 2)))) (8) = n8)) ∧ ((mo_CC (mo_R (mo_i (f238 (ρ h0 2)))) (2251 + 864 * n8) (mo_R (mo_i (f238 (ρ h0 21)))) (mo_R (mo_i (f238 (ρ h0 23)))) (mo_R (mo_i (f238 (ρ h0 24)))) (tp_fld (f238 h0) 20) (5 * o138_x20.toInt) (w232.toInt))) ∧ (0 ≤ w232.toInt ∧ w232.toInt ≤ 400) ∧ ((w232.toInt) ≤ o138_x22.toInt) ∧ va_P (dC, dI) vwCl (va_pl L f238) H ∧ va_D A (va_pl L f238) ∧ va_S A s.heap H locs ∧ lv_has ls 3 [(2, .int w232), (1, .int z192), (0, .ref h0)]) ?_ _ _ _ _ ⟨f217, 0, rfl, hT, hR, hk209k, hk210k, hk211k, hk212k, (by rw [hf_o223, mo_i1]; exact hI), (by rw [hf_o223, mo_i1]; have : (0 : Int32).toInt = 0 := rfl; omega), (by first | (simp only [tf225, tf226, tf227, tf228, hf_o223, mo_i1, mo_l1]; exact (show mo_CC (mo_R g224) (2251 + 864 * n8) (mo_R g149) (mo_R g152) (mo_R g155) o138_x20.toInt (5 * o138_x20.toInt) (0 : Int32).toInt from (by have q8 : (0 : Int32).toInt = 0 := rfl; rw [q8]; have q9 := jf222; rw [show w204.toInt = 5 * o138_x20.toInt by omega] at q9; exact q9))) | (rw [tf225, tf226, tf227, tf228, hf_o223]; exact (show mo_CC (mo_R g224) (2251 + 864 * n8) (mo_R g149) (mo_R g152) (mo_R g155) o138_x20.toInt (5 * o138_x20.toInt) (0 : Int32).toInt from (by have q8 : (0 : Int32).toInt = 0 := rfl; rw [q8]; have q9 := jf222; rw [show w204.toInt = 5 * o138_x20.toInt by omega] at q9; exact q9)))), (by have : (0 : Int32).toInt = 0 := rfl; omega), (by have : (0 : Int32).toInt = 0 := rfl; omega), hP, hD, hS, lv_sub hl [0, 1, 2] rfl⟩
                intro n0 H locs ls hI ih240
                obtain ⟨f238, w232, hn241, hT, hR, hk234k, hk235k, hk236k, hk237k, hJ, jf242, jf243, rw232, k233, hP, hD, hS, hl⟩ := hI
                obtain ⟨g245, hf_o244⟩ := tpo_32 hT y1
                have hI : mo_RI (-1) 0 (mo_R g245) := by have q9 := hJ; rw [hf_o244, mo_i1] at q9; exact q9
                rw [hf_o244, mo_i1] at jf242
                have tf246 : mo_i (f238 (ρ h0 21)) = g149 := tfa_i hk235k
                have tf247 : mo_i (f238 (ρ h0 23)) = g152 := tfa_i hk236k
                have tf248 : mo_i (f238 (ρ h0 24)) = g155 := tfa_i hk237k
                have tf249 : tp_fld (f238 h0) 20 = o138_x20.toInt := tff_20 hk234k
                have jf243 : mo_CC (mo_R g245) (2251 + 864 * n8) (mo_R g149) (mo_R g152) (mo_R g155) o138_x20.toInt (5 * o138_x20.toInt) (w232.toInt) := by have q9 := jf243; first | (simp only [tf246, tf247, tf248, tf249, hf_o244, mo_i1, mo_l1] at q9; exact q9) | (rw [tf246, tf247, tf248, tf249, hf_o244] at q9; exact q9)
                refine lv_iload_n hx hb dX12_contract_212 rfl (lv_at hl 0 rfl) ?_
                refine lv_aload_n hx hb dX12_contract_213 rfl (lv_at hl 2 rfl) ?_
                obtain ⟨q250, eq250⟩ := tp_pos (tp_in hG ht_h0 (by decide)) hk234k
                refine va_get (D := (dC, dI)) (ci := 12) (v := .int o138_x22) (C := RX12) (T := TX12) (N := 53) hx hb hts hfX12 hown hK hP q250 eq250 rfl 22 (by decide) (hts (.fieldLink RX12 297 "ColdShipsModel" "nCode" "I") wa_989) (fun _ h9 => h9) rfl dX12_contract_214 ?_
                refine lv_icmp_ge (tgt := 266) hx hb dX12_contract_217 (by decide) (fun c251 => ?_) (fun c251 => ?_)
                · have ic251 : w232.toInt ≥ o138_x22.toInt := zi_ge rfl rfl c251
                  have hco := ((jf137 (by omega)).2.2).co jf243 (by omega) (by omega) (by omega) (by omega)
                  refine lv_aload_n hx hb dX12_contract_266 rfl (lv_at hl 2 rfl) ?_
                  refine va_get (D := (dC, dI)) (ci := 12) (v := .ref (ρ h0 2)) (C := RX12) (T := TX12) (N := 53) hx hb hts hfX12 hown hK hP q250 eq250 rfl 2 (by decide) (hts (.fieldLink RX12 7 "ColdShipsModel" "row" "[I") wa_148) (fun _ h9 => h9) rfl dX12_contract_267 ?_
                  refine lv_bipush (v := 8) hx hb dX12_contract_270 (by decide) ?_
                  refine lv_dup2_11 hx hb dX12_contract_272 rfl rfl ?_
                  obtain ⟨q252, eq252⟩ := tp_pos (tp_in hG y1 (by decide)) hf_o244
                  refine va_iald hx hb hK hP q252 0 eq252 rfl (vp_in_iff.mpr ⟨by decide, by decide⟩) dX12_contract_273 ?_
                  refine lv_topi (fun z253 ez253 => ?_)
                  have jz253 : z253.toInt = mo_R g245 (8) := mo_rd ez253 (show (8 : Int32).toInt = (8) from by decide)
                  have kz253 := hI.k8
                  refine lv_iconst (v := 1) hx hb dX12_contract_274 (by decide) ?_
                  refine lv_iadd hx hb dX12_contract_275 ?_
                  refine lv_topi (fun z254 ez254 => ?_)
                  have iz254 : z254.toInt = z253.toInt + 1 := zi_add ez254 rfl rfl (by omega) (by omega)
                  refine va_iast hx hb hK hP hD hS q252 0 eq252 rfl (vp_in_iff.mpr ⟨by decide, by decide⟩) dX12_contract_276 (tp_k (.inl (κ 0, 12967, .inl (upd g245 (8 : Int32).toNatClampNeg z254))) hD (tp_in hG y1 (by decide)) eq252 (fun f255 H locs hP hD hS g257 k256 => ?_))
                  have hT := hT.up y1 g257 k256 tp_o32
                  have hR := hR.up y1 (by decide) k256
                  have hU : mo_U (mo_R g245) (mo_R (upd g245 (8 : Int32).toNatClampNeg z254)) (8) (z254.toInt) := mo_up (show (8 : Int32).toInt = (8) from by decide) (rfl : z254.toInt = _) (by omega)
                  generalize (upd g245 (8 : Int32).toNatClampNeg z254) = g258 at g257 hU
                  have hI := mo_w_nC hI hU n8 rfl jf242 (by omega) hco
                  have pn259 : mo_R g258 (8) = z254.toInt := hU.eq (by omega)
                  refine lv_aload_n hx hb dX12_contract_277 rfl (lv_at hl 2 rfl) ?_
                  refine lv_aload_n hx hb dX12_contract_278 rfl (lv_at hl 2 rfl) ?_
                  have hf_260 : f255 h0 = .inr (12, [.int o138_x0, .int o138_x1, .ref (ρ h0 2), .ref (ρ h0 3), .ref (ρ h0 4), .ref (ρ h0 5), .ref (ρ h0 6), .int o138_x7, .ref (ρ h0 8), .int 0, .int o138_x10, .int o138_x11, .int o138_x12, .long o138_x13, .int o138_x14, .int o138_x15, .int o138_x16, .int o138_x17, .int o138_x18, .int o138_x19, .int o138_x20, .ref (ρ h0 21), .int o138_x22, .ref (ρ h0 23), .ref (ρ h0 24), .int o138_x25, .ref (ρ h0 26), .ref (ρ h0 27), .int o138_x28, .int o138_x29, .ref (ρ h0 30), .ref (ρ h0 31), .int o138_x32, .long o138_x33, .long o138_x34, .long o138_x35, .int o138_x36, .int o138_x37, .int o138_x38, .ref (ρ h0 39), .ref (ρ h0 40), .ref (ρ h0 41), .ref (ρ h0 42), .ref (ρ h0 43), .ref (ρ h0 44), .ref (ρ h0 45), .ref (ρ h0 46), .int o138_x47, .int o138_x48, .ref (ρ h0 49), .ref (ρ h0 50), .ref (ρ h0 51), .ref (ρ h0 52)]) := (k256 _ (tp_ne ht_h0 y1 (by decide))).trans hk234k
                  obtain ⟨q261, eq261⟩ := tp_pos (tp_in hG ht_h0 (by decide)) hf_260
                  refine va_get (D := (dC, dI)) (ci := 12) (v := .ref (ρ h0 2)) (C := RX12) (T := TX12) (N := 53) hx hb hts hfX12 hown hK hP q261 eq261 rfl 2 (by decide) (hts (.fieldLink RX12 7 "ColdShipsModel" "row" "[I") wa_148) (fun _ h9 => h9) rfl dX12_contract_279 ?_
                  refine lv_bipush (v := 8) hx hb dX12_contract_282 (by decide) ?_
                  obtain ⟨q262, eq262⟩ := tp_pos (tp_in hG y1 (by decide)) g257
                  refine va_iald hx hb hK hP q262 0 eq262 rfl (vp_in_iff.mpr ⟨by decide, by decide⟩) dX12_contract_284 ?_
                  refine lv_topi (fun z263 ez263 => ?_)
                  have jz263 : z263.toInt = mo_R g258 (8) := mo_rd ez263 (show (8 : Int32).toInt = (8) from by decide)
                  have kz263 := hI.k8
                  refine lv_iconst (v := 1) hx hb dX12_contract_285 (by decide) ?_
                  refine lv_isub hx hb dX12_contract_286 ?_
                  refine lv_topi (fun z264 ez264 => ?_)
                  have iz264 : z264.toInt = z263.toInt - 1 := zi_sub ez264 rfl rfl (by omega) (by omega)
                  have hFc := tp_fr hD hS hA
                  refine va_calli (va_runV (As := [.int z264]) (rest := []) ⟨hx, hb, hml, hown, hts⟩ (t_X12_told l dC dI _ κ τ ν ρ L f255 hG hT h0 z264 ht_h0) (cwV 1 hts gX12_contract_X12_told rfl rfl rfl ⟨rfl, pd_X12_told⟩ ⟨Nat.le_of_ble_eq_true rfl, Nat.le_of_ble_eq_true rfl⟩) ⟨pz_blind, va_recv hK hP (ci := 12) (q0 := q261) rfl eq261, pz_pre hP hK hD hN⟩ rfl rfl hl.1 rfl (lv_room (Nat.le_of_ble_eq_true rfl)) dX12_contract_287 ⟨Nat.le_of_ble_eq_true rfl, Nat.le_of_ble_eq_true rfl⟩) hS (fun q _ h => hFc q h) hFc (fun r265 f267 t H1 locs ht hvm hw266 hB hz1 hk1 hS => ?_)
                  obtain ⟨hT, hF268, hw266r, hw266p⟩ := hw266
                  have hR := hR.then hF268 (by decide)
                  have hP := hB.1; rw [ht] at hP; have hD := tp_ad f267 hD; clear hB hFc hz1 hk1; subst ht; generalize t.heap = H at hP hS ⊢
                  have hw266pq : r265.toInt = z264.toInt := by rw [hw266p]
                  have hf_269 : f267 (ρ h0 2) = .inl (κ 0, 12967, .inl g258) := (hF268 _ (by rw [y1]; decide)).trans g257
                  exact W.iret (v := r265) hx hb hr (fun t ht hW => ⟨⟨r265, f267, rfl, ⟨hT, hR, trivial, (by rw [hf_269, mo_i1]; exact hI)⟩, by rw [ht]; exact hP, va_K.moved hW.alike hK, hD⟩, hS.F ht⟩) hS.2.2 dX12_contract_290
                · have ic251 : w232.toInt < o138_x22.toInt := zi_gef rfl rfl c251
                  refine lv_aload_n hx hb dX12_contract_220 rfl (lv_at hl 2 rfl) ?_
                  refine va_get (D := (dC, dI)) (ci := 12) (v := .ref (ρ h0 2)) (C := RX12) (T := TX12) (N := 53) hx hb hts hfX12 hown hK hP q250 eq250 rfl 2 (by decide) (hts (.fieldLink RX12 7 "ColdShipsModel" "row" "[I") wa_148) (fun _ h9 => h9) rfl dX12_contract_221 ?_
                  refine lv_iload_n hx hb dX12_contract_224 rfl (lv_at hl 1 rfl) ?_
                  refine lv_bipush (v := 64) hx hb dX12_contract_225 (by decide) ?_
                  refine lv_iadd hx hb dX12_contract_227 ?_
                  refine lv_topi (fun z270 ez270 => ?_)
                  have iz270 : z270.toInt = z192.toInt + 64 := zi_add ez270 rfl rfl (by omega) (by omega)
                  refine lv_iconst (v := 2) hx hb dX12_contract_228 (by decide) ?_
                  refine lv_iload_n hx hb dX12_contract_229 rfl (lv_at hl 0 rfl) ?_
                  refine lv_imul hx hb dX12_contract_230 ?_
                  refine lv_topi (fun z271 ez271 => ?_)
                  have iz271 : z271.toInt = 2 * w232.toInt := zi_mul ez271 rfl rfl (by omega) (by omega)
                  refine lv_iadd hx hb dX12_contract_231 ?_
                  refine lv_topi (fun z272 ez272 => ?_)
                  have iz272 : z272.toInt = z270.toInt + z271.toInt := zi_add ez272 rfl rfl (by omega) (by omega)
                  refine lv_aload_n hx hb dX12_contract_232 rfl (lv_at hl 2 rfl) ?_
                  refine va_get (D := (dC, dI)) (ci := 12) (v := .ref (ρ h0 23)) (C := RX12) (T := TX12) (N := 53) hx hb hts hfX12 hown hK hP q250 eq250 rfl 23 (by decide) (hts (.fieldLink RX12 37 "ColdShipsModel" "nOp" "[I") wa_157) (fun _ h9 => h9) rfl dX12_contract_233 ?_
                  refine lv_iload_n hx hb dX12_contract_236 rfl (lv_at hl 0 rfl) ?_
                  obtain ⟨q273, eq273⟩ := tp_pos (tp_in hG y8 (by decide)) hk236k
                  refine va_iald hx hb hK hP q273 0 eq273 rfl (vp_in_iff.mpr ⟨by omega, by omega⟩) dX12_contract_237 ?_
                  refine lv_topi (fun z274 ez274 => ?_)
                  have jz274 : z274.toInt = mo_R g152 w232.toInt := mo_rd ez274 (by omega)
                  obtain ⟨q275, eq275⟩ := tp_pos (tp_in hG y1 (by decide)) hf_o244
                  refine va_iast hx hb hK hP hD hS q275 0 eq275 rfl (vp_in_iff.mpr ⟨by omega, by omega⟩) dX12_contract_238 (tp_k (.inl (κ 0, 12967, .inl (upd g245 z272.toNatClampNeg z274))) hD (tp_in hG y1 (by decide)) eq275 (fun f276 H locs hP hD hS g278 k277 => ?_))
                  have hT := hT.up y1 g278 k277 tp_o32
                  have hR := hR.up y1 (by decide) k277
                  have hU : mo_U (mo_R g245) (mo_R (upd g245 z272.toNatClampNeg z274)) (2251 + 864 * n8 + 64 + 2 * w232.toInt) (z274.toInt) := mo_up (by omega) (rfl : z274.toInt = _) (by omega)
                  generalize (upd g245 z272.toNatClampNeg z274) = g279 at g278 hU
                  have hI := mo_w_con hI hU n8 (64 + 2 * w232.toInt) (by omega) (by omega) (by omega) (by omega)
                  have pn280 : mo_R g279 (8) = n8 := (hU.ne (by omega) (by omega)).trans jf242
                  have hU1 := hU
                  refine lv_aload_n hx hb dX12_contract_239 rfl (lv_at hl 2 rfl) ?_
                  have hf_281 : f276 h0 = .inr (12, [.int o138_x0, .int o138_x1, .ref (ρ h0 2), .ref (ρ h0 3), .ref (ρ h0 4), .ref (ρ h0 5), .ref (ρ h0 6), .int o138_x7, .ref (ρ h0 8), .int 0, .int o138_x10, .int o138_x11, .int o138_x12, .long o138_x13, .int o138_x14, .int o138_x15, .int o138_x16, .int o138_x17, .int o138_x18, .int o138_x19, .int o138_x20, .ref (ρ h0 21), .int o138_x22, .ref (ρ h0 23), .ref (ρ h0 24), .int o138_x25, .ref (ρ h0 26), .ref (ρ h0 27), .int o138_x28, .int o138_x29, .ref (ρ h0 30), .ref (ρ h0 31), .int o138_x32, .long o138_x33, .long o138_x34, .long o138_x35, .int o138_x36, .int o138_x37, .int o138_x38, .ref (ρ h0 39), .ref (ρ h0 40), .ref (ρ h0 41), .ref (ρ h0 42), .ref (ρ h0 43), .ref (ρ h0 44), .ref (ρ h0 45), .ref (ρ h0 46), .int o138_x47, .int o138_x48, .ref (ρ h0 49), .ref (ρ h0 50), .ref (ρ h0 51), .ref (ρ h0 52)]) := (k277 _ (tp_ne ht_h0 y1 (by decide))).trans hk234k
                  obtain ⟨q282, eq282⟩ := tp_pos (tp_in hG ht_h0 (by decide)) hf_281
                  refine va_get (D := (dC, dI)) (ci := 12) (v := .ref (ρ h0 2)) (C := RX12) (T := TX12) (N := 53) hx hb hts hfX12 hown hK hP q282 eq282 rfl 2 (by decide) (hts (.fieldLink RX12 7 "ColdShipsModel" "row" "[I") wa_148) (fun _ h9 => h9) rfl dX12_contract_240 ?_
                  refine lv_iload_n hx hb dX12_contract_243 rfl (lv_at hl 1 rfl) ?_
                  refine lv_bipush (v := 64) hx hb dX12_contract_244 (by decide) ?_
                  refine lv_iadd hx hb dX12_contract_246 ?_
                  refine lv_topi (fun z283 ez283 => ?_)
                  have iz283 : z283.toInt = z192.toInt + 64 := zi_add ez283 rfl rfl (by omega) (by omega)
                  refine lv_iconst (v := 2) hx hb dX12_contract_247 (by decide) ?_
                  refine lv_iload_n hx hb dX12_contract_248 rfl (lv_at hl 0 rfl) ?_
                  refine lv_imul hx hb dX12_contract_249 ?_
                  refine lv_topi (fun z284 ez284 => ?_)
                  have iz284 : z284.toInt = 2 * w232.toInt := zi_mul ez284 rfl rfl (by omega) (by omega)
                  refine lv_iadd hx hb dX12_contract_250 ?_
                  refine lv_topi (fun z285 ez285 => ?_)
                  have iz285 : z285.toInt = z283.toInt + z284.toInt := zi_add ez285 rfl rfl (by omega) (by omega)
                  refine lv_iconst (v := 1) hx hb dX12_contract_251 (by decide) ?_
                  refine lv_iadd hx hb dX12_contract_252 ?_
                  refine lv_topi (fun z286 ez286 => ?_)
                  have iz286 : z286.toInt = z285.toInt + 1 := zi_add ez286 rfl rfl (by omega) (by omega)
                  refine lv_aload_n hx hb dX12_contract_253 rfl (lv_at hl 2 rfl) ?_
                  refine va_get (D := (dC, dI)) (ci := 12) (v := .ref (ρ h0 24)) (C := RX12) (T := TX12) (N := 53) hx hb hts hfX12 hown hK hP q282 eq282 rfl 24 (by decide) (hts (.fieldLink RX12 40 "ColdShipsModel" "nArg" "[I") wa_158) (fun _ h9 => h9) rfl dX12_contract_254 ?_
                  refine lv_iload_n hx hb dX12_contract_257 rfl (lv_at hl 0 rfl) ?_
                  have hf_287 : f276 (ρ h0 24) = .inl (κ 0, 400, .inl g155) := (k277 _ (tp_ne y9 y1 (by decide))).trans hk237k
                  obtain ⟨q288, eq288⟩ := tp_pos (tp_in hG y9 (by decide)) hf_287
                  refine va_iald hx hb hK hP q288 0 eq288 rfl (vp_in_iff.mpr ⟨by omega, by omega⟩) dX12_contract_258 ?_
                  refine lv_topi (fun z289 ez289 => ?_)
                  have jz289 : z289.toInt = mo_R g155 w232.toInt := mo_rd ez289 (by omega)
                  obtain ⟨q290, eq290⟩ := tp_pos (tp_in hG y1 (by decide)) g278
                  refine va_iast hx hb hK hP hD hS q290 0 eq290 rfl (vp_in_iff.mpr ⟨by omega, by omega⟩) dX12_contract_259 (tp_k (.inl (κ 0, 12967, .inl (upd g279 z286.toNatClampNeg z289))) hD (tp_in hG y1 (by decide)) eq290 (fun f291 H locs hP hD hS g293 k292 => ?_))
                  have hT := hT.up y1 g293 k292 tp_o32
                  have hR := hR.up y1 (by decide) k292
                  have hU : mo_U (mo_R g279) (mo_R (upd g279 z286.toNatClampNeg z289)) (2251 + 864 * n8 + 65 + 2 * w232.toInt) (z289.toInt) := mo_up (by omega) (rfl : z289.toInt = _) (by omega)
                  generalize (upd g279 z286.toNatClampNeg z289) = g294 at g293 hU
                  have hI := mo_w_con hI hU n8 (65 + 2 * w232.toInt) (by omega) (by omega) (by omega) (by omega)
                  have pn295 : mo_R g294 (8) = n8 := (hU.ne (by omega) (by omega)).trans pn280
                  obtain ⟨z296, ez296⟩ : ∃ y : Int32, y = w232 + 1 := ⟨_, rfl⟩
                  refine lv_iinc (v := z296) (lv' := [(2, .int z296), (1, .int z192), (0, .ref h0)]) hx hb dX12_contract_260 hl (k := 0) rfl (by rw [ez296]; rfl) (by decide) rfl (fun ls hl => ?_)
                  have iz296 : z296.toInt = w232.toInt + 1 := zi_add ez296 rfl rfl (by omega) (by omega)
                  refine lv_goto (tgt := 212) hx hb dX12_contract_263 (by decide) ?_
                  have hf_297 : f276 (ρ h0 21) = .inl (κ 0, 60, .inl g149) := (k277 _ (tp_ne y7 y1 (by decide))).trans hk235k
                  have hf_298 : f291 (ρ h0 21) = .inl (κ 0, 60, .inl g149) := (k292 _ (tp_ne y7 y1 (by decide))).trans hf_297
                  have tf299 : mo_i (f291 (ρ h0 21)) = g149 := tfa_i hf_298
                  have hf_300 : f276 (ρ h0 23) = .inl (κ 0, 400, .inl g152) := (k277 _ (tp_ne y8 y1 (by decide))).trans hk236k
                  have hf_301 : f291 (ρ h0 23) = .inl (κ 0, 400, .inl g152) := (k292 _ (tp_ne y8 y1 (by decide))).trans hf_300
                  have tf302 : mo_i (f291 (ρ h0 23)) = g152 := tfa_i hf_301
                  have hf_303 : f291 (ρ h0 24) = .inl (κ 0, 400, .inl g155) := (k292 _ (tp_ne y9 y1 (by decide))).trans hf_287
                  have tf304 : mo_i (f291 (ρ h0 24)) = g155 := tfa_i hf_303
                  have hf_305 : f291 h0 = .inr (12, [.int o138_x0, .int o138_x1, .ref (ρ h0 2), .ref (ρ h0 3), .ref (ρ h0 4), .ref (ρ h0 5), .ref (ρ h0 6), .int o138_x7, .ref (ρ h0 8), .int 0, .int o138_x10, .int o138_x11, .int o138_x12, .long o138_x13, .int o138_x14, .int o138_x15, .int o138_x16, .int o138_x17, .int o138_x18, .int o138_x19, .int o138_x20, .ref (ρ h0 21), .int o138_x22, .ref (ρ h0 23), .ref (ρ h0 24), .int o138_x25, .ref (ρ h0 26), .ref (ρ h0 27), .int o138_x28, .int o138_x29, .ref (ρ h0 30), .ref (ρ h0 31), .int o138_x32, .long o138_x33, .long o138_x34, .long o138_x35, .int o138_x36, .int o138_x37, .int o138_x38, .ref (ρ h0 39), .ref (ρ h0 40), .ref (ρ h0 41), .ref (ρ h0 42), .ref (ρ h0 43), .ref (ρ h0 44), .ref (ρ h0 45), .ref (ρ h0 46), .int o138_x47, .int o138_x48, .ref (ρ h0 49), .ref (ρ h0 50), .ref (ρ h0 51), .ref (ρ h0 52)]) := (k292 _ (tp_ne ht_h0 y1 (by decide))).trans hf_281
                  have tf306 : tp_fld (f291 h0) 20 = o138_x20.toInt := tff_20 hf_305
                  exact ih240 _ _ _ _ (by rw [hn241]; omega) ⟨f291, z296, rfl, hT, hR, hf_305, hf_298, hf_301, hf_303, (by rw [g293, mo_i1]; exact hI), (by rw [g293, mo_i1]; omega), (by first | (simp only [tf299, tf302, tf304, tf306, g293, mo_i1, mo_l1]; exact (show mo_CC (mo_R g294) (2251 + 864 * n8) (mo_R g149) (mo_R g152) (mo_R g155) o138_x20.toInt (5 * o138_x20.toInt) (z296.toInt) from jf243.o (by omega) (by omega) (by omega) hU1 (by omega) (by omega) hU (by omega) (by omega) (by omega))) | (rw [tf299, tf302, tf304, tf306, g293]; exact (show mo_CC (mo_R g294) (2251 + 864 * n8) (mo_R g149) (mo_R g152) (mo_R g155) o138_x20.toInt (5 * o138_x20.toInt) (z296.toInt) from jf243.o (by omega) (by omega) (by omega) hU1 (by omega) (by omega) hU (by omega) (by omega) (by omega)))), (by omega), (by omega), hP, hD, hS, lv_sub hl [0, 1, 2] rfl⟩
              · have ic231 : w204.toInt < z230.toInt := zi_gef rfl rfl c231
                refine lv_aload_n hx hb dX12_contract_188 rfl (lv_at hl 2 rfl) ?_
                refine va_get (D := (dC, dI)) (ci := 12) (v := .ref (ρ h0 2)) (C := RX12) (T := TX12) (N := 53) hx hb hts hfX12 hown hK hP q229 eq229 rfl 2 (by decide) (hts (.fieldLink RX12 7 "ColdShipsModel" "row" "[I") wa_148) (fun _ h9 => h9) rfl dX12_contract_189 ?_
                refine lv_iload_n hx hb dX12_contract_192 rfl (lv_at hl 1 rfl) ?_
                refine lv_iconst (v := 4) hx hb dX12_contract_193 (by decide) ?_
                refine lv_iadd hx hb dX12_contract_194 ?_
                refine lv_topi (fun z307 ez307 => ?_)
                have iz307 : z307.toInt = z192.toInt + 4 := zi_add ez307 rfl rfl (by omega) (by omega)
                refine lv_iload_n hx hb dX12_contract_195 rfl (lv_at hl 0 rfl) ?_
                refine lv_iadd hx hb dX12_contract_196 ?_
                refine lv_topi (fun z308 ez308 => ?_)
                have iz308 : z308.toInt = z307.toInt + w204.toInt := zi_add ez308 rfl rfl (by omega) (by omega)
                refine lv_aload_n hx hb dX12_contract_197 rfl (lv_at hl 2 rfl) ?_
                refine va_get (D := (dC, dI)) (ci := 12) (v := .ref (ρ h0 21)) (C := RX12) (T := TX12) (N := 53) hx hb hts hfX12 hown hK hP q229 eq229 rfl 21 (by decide) (hts (.fieldLink RX12 34 "ColdShipsModel" "nClause" "[I") wa_156) (fun _ h9 => h9) rfl dX12_contract_198 ?_
                refine lv_iload_n hx hb dX12_contract_201 rfl (lv_at hl 0 rfl) ?_
                obtain ⟨q309, eq309⟩ := tp_pos (tp_in hG y7 (by decide)) hk210k
                refine va_iald hx hb hK hP q309 0 eq309 rfl (vp_in_iff.mpr ⟨by omega, by omega⟩) dX12_contract_202 ?_
                refine lv_topi (fun z310 ez310 => ?_)
                have jz310 : z310.toInt = mo_R g149 w204.toInt := mo_rd ez310 (by omega)
                obtain ⟨q311, eq311⟩ := tp_pos (tp_in hG y1 (by decide)) hf_o223
                refine va_iast hx hb hK hP hD hS q311 0 eq311 rfl (vp_in_iff.mpr ⟨by omega, by omega⟩) dX12_contract_203 (tp_k (.inl (κ 0, 12967, .inl (upd g224 z308.toNatClampNeg z310))) hD (tp_in hG y1 (by decide)) eq311 (fun f312 H locs hP hD hS g314 k313 => ?_))
                have hT := hT.up y1 g314 k313 tp_o32
                have hR := hR.up y1 (by decide) k313
                have hU : mo_U (mo_R g224) (mo_R (upd g224 z308.toNatClampNeg z310)) (2251 + 864 * n8 + 4 + w204.toInt) (z310.toInt) := mo_up (by omega) (rfl : z310.toInt = _) (by omega)
                generalize (upd g224 z308.toNatClampNeg z310) = g315 at g314 hU
                have hI := mo_w_con hI hU n8 (4 + w204.toInt) (by omega) (by omega) (by omega) (by omega)
                have pn316 : mo_R g315 (8) = n8 := (hU.ne (by omega) (by omega)).trans jf221
                obtain ⟨z317, ez317⟩ : ∃ y : Int32, y = w204 + 1 := ⟨_, rfl⟩
                refine lv_iinc (v := z317) (lv' := [(2, .int z317), (1, .int z192), (0, .ref h0)]) hx hb dX12_contract_204 hl (k := 0) rfl (by rw [ez317]; rfl) (by decide) rfl (fun ls hl => ?_)
                have iz317 : z317.toInt = w204.toInt + 1 := zi_add ez317 rfl rfl (by omega) (by omega)
                refine lv_goto (tgt := 178) hx hb dX12_contract_207 (by decide) ?_
                have hf_318 : f312 (ρ h0 21) = .inl (κ 0, 60, .inl g149) := (k313 _ (tp_ne y7 y1 (by decide))).trans hk210k
                have tf319 : mo_i (f312 (ρ h0 21)) = g149 := tfa_i hf_318
                have hf_320 : f312 (ρ h0 23) = .inl (κ 0, 400, .inl g152) := (k313 _ (tp_ne y8 y1 (by decide))).trans hk211k
                have tf321 : mo_i (f312 (ρ h0 23)) = g152 := tfa_i hf_320
                have hf_322 : f312 (ρ h0 24) = .inl (κ 0, 400, .inl g155) := (k313 _ (tp_ne y9 y1 (by decide))).trans hk212k
                have tf323 : mo_i (f312 (ρ h0 24)) = g155 := tfa_i hf_322
                have hf_324 : f312 h0 = .inr (12, [.int o138_x0, .int o138_x1, .ref (ρ h0 2), .ref (ρ h0 3), .ref (ρ h0 4), .ref (ρ h0 5), .ref (ρ h0 6), .int o138_x7, .ref (ρ h0 8), .int 0, .int o138_x10, .int o138_x11, .int o138_x12, .long o138_x13, .int o138_x14, .int o138_x15, .int o138_x16, .int o138_x17, .int o138_x18, .int o138_x19, .int o138_x20, .ref (ρ h0 21), .int o138_x22, .ref (ρ h0 23), .ref (ρ h0 24), .int o138_x25, .ref (ρ h0 26), .ref (ρ h0 27), .int o138_x28, .int o138_x29, .ref (ρ h0 30), .ref (ρ h0 31), .int o138_x32, .long o138_x33, .long o138_x34, .long o138_x35, .int o138_x36, .int o138_x37, .int o138_x38, .ref (ρ h0 39), .ref (ρ h0 40), .ref (ρ h0 41), .ref (ρ h0 42), .ref (ρ h0 43), .ref (ρ h0 44), .ref (ρ h0 45), .ref (ρ h0 46), .int o138_x47, .int o138_x48, .ref (ρ h0 49), .ref (ρ h0 50), .ref (ρ h0 51), .ref (ρ h0 52)]) := (k313 _ (tp_ne ht_h0 y1 (by decide))).trans hk209k
                have tf325 : tp_fld (f312 h0) 20 = o138_x20.toInt := tff_20 hf_324
                exact ih219 _ _ _ _ (by rw [hn220]; omega) ⟨f312, z317, rfl, hT, hR, hf_324, hf_318, hf_320, hf_322, (by rw [g314, mo_i1]; exact hI), (by rw [g314, mo_i1]; omega), (by first | (simp only [tf319, tf321, tf323, tf325, g314, mo_i1, mo_l1]; exact (show mo_CC (mo_R g315) (2251 + 864 * n8) (mo_R g149) (mo_R g152) (mo_R g155) o138_x20.toInt (z317.toInt) 0 from jf222.c (by omega) (by omega) hU (by omega) (by omega) (by omega))) | (rw [tf319, tf321, tf323, tf325, g314]; exact (show mo_CC (mo_R g315) (2251 + 864 * n8) (mo_R g149) (mo_R g152) (mo_R g155) o138_x20.toInt (z317.toInt) 0 from jf222.c (by omega) (by omega) hU (by omega) (by omega) (by omega)))), (by omega), (by omega), hP, hD, hS, lv_sub hl [0, 1, 2] rfl⟩
            · have ic181 : o138_x15.toInt ≠ 0 := zi_eqf rfl rfl c181
              exfalso; omega
          · have ic176 : o138_x12.toInt ≠ 0 := zi_eqf rfl rfl c176
            refine lv_aload_n hx hb dX12_contract_115 rfl (lv_at hl 0 rfl) ?_
            refine lv_iconst (v := 0) hx hb dX12_contract_116 (by decide) ?_
            have tf326 : tp_fld (f132 h0) 28 = o138_x28.toInt := tff_28 hf_o138
            have hFc := tp_fr hD hS hA
            refine va_callv (va_runV (As := [.int 0]) (rest := []) ⟨hx, hb, hml, hown, hts⟩ (t_X12_must l dC dI _ κ τ ν ρ L f132 hG hT h0 (0) ht_h0 (by first | decide | omega) (by first | (simp only [tf139, tf140, tf141, tf142, tf143, mo_i1, mo_l1]; exact (show (o138_x10.toInt ≤ o138_x11.toInt ∧ o138_x11.toInt ≤ o138_x9.toInt ∧ (o138_x12.toInt = 0 ∨ o138_x10.toInt < o138_x11.toInt) ∧ (o138_x12.toInt = 1 → o138_x11.toInt = o138_x10.toInt + 1 → o138_x13.toInt ≤ 26)) from by have : (0 : Int32).toInt = 0 := rfl; first | omega | decide)) | (rw [tf139, tf140, tf141, tf142, tf143]; exact (show (o138_x10.toInt ≤ o138_x11.toInt ∧ o138_x11.toInt ≤ o138_x9.toInt ∧ (o138_x12.toInt = 0 ∨ o138_x10.toInt < o138_x11.toInt) ∧ (o138_x12.toInt = 1 → o138_x11.toInt = o138_x10.toInt + 1 → o138_x13.toInt ≤ 26)) from by have : (0 : Int32).toInt = 0 := rfl; first | omega | decide)))) (cwV 1 hts gX12_contract_X12_must rfl rfl rfl ⟨rfl, pd_X12_must⟩ ⟨Nat.le_of_ble_eq_true rfl, Nat.le_of_ble_eq_true rfl⟩) ⟨pz_blind, va_recv hK hP (ci := 12) (q0 := q157) rfl eq157, pz_pre hP hK hD hN⟩ rfl rfl hl.1 rfl (lv_room (Nat.le_of_ble_eq_true rfl)) dX12_contract_117 ⟨Nat.le_of_ble_eq_true rfl, Nat.le_of_ble_eq_true rfl⟩) hS (fun q _ h => hFc q h) hFc (fun f329 t H1 locs ht hvm hw328 hB hz1 hk1 hS => ?_)
            obtain ⟨hT, hF330, hw328p⟩ := hw328
            have hR := hR.then hF330 (by decide)
            have hP := hB.1; rw [ht] at hP; have hD := tp_ad f329 hD; clear hB hFc hz1 hk1; subst ht; generalize t.heap = H at hP hS ⊢
            obtain ⟨o331_x0, o331_x1, o331_x7, o331_x9, o331_x10, o331_x11, o331_x12, o331_x13, o331_x14, o331_x15, o331_x16, o331_x17, o331_x18, o331_x19, o331_x20, o331_x22, o331_x25, o331_x28, o331_x29, o331_x32, o331_x33, o331_x34, o331_x35, o331_x36, o331_x37, o331_x38, o331_x47, o331_x48, hf_o331, ro331_0, ro331_1, ro331_2, ro331_3, ro331_4, ro331_5, ro331_6, ro331_7, ro331_8, ro331_9, ro331_10, ro331_11, ro331_12, ro331_13⟩ := tpo_13 hT ht_h0
            have tf332 : tp_fld (f329 h0) 10 = o331_x10.toInt := tff_10 hf_o331
            have tf333 : tp_fld (f329 h0) 11 = o331_x11.toInt := tff_11 hf_o331
            have tf334 : tp_fld (f329 h0) 9 = o331_x9.toInt := tff_9 hf_o331
            have tf335 : tp_fld (f329 h0) 12 = o331_x12.toInt := tff_12 hf_o331
            have tf336 : mo_fj (f329 h0) 13 = o331_x13.toInt := tff_13 hf_o331
            have tf337 : tp_fld (f329 h0) 15 = o331_x15.toInt := tff_15 hf_o331
            have tf338 : tp_fld (f329 h0) 19 = o331_x19.toInt := tff_19 hf_o331
            have tf339 : tp_fld (f329 h0) 20 = o331_x20.toInt := tff_20 hf_o331
            have tf340 : tp_fld (f329 h0) 22 = o331_x22.toInt := tff_22 hf_o331
            have tf341 : tp_fld (f329 h0) 28 = o331_x28.toInt := tff_28 hf_o331
            have tk342 : (o331_x10.toInt ≤ o331_x11.toInt ∧ o331_x11.toInt ≤ o331_x9.toInt ∧ (o331_x12.toInt = 0 ∨ o331_x10.toInt < o331_x11.toInt) ∧ (o331_x12.toInt = 1 → o331_x11.toInt = o331_x10.toInt + 1 → o331_x13.toInt ≤ 26)) ∧ (o331_x15.toInt = 0 → o138_x15.toInt = 0 ∧ o138_x11.toInt ≤ o331_x10.toInt ∧ (0 : Int) ≠ 0) ∧ (o331_x15.toInt ≠ 0 → o331_x10.toInt = o138_x10.toInt) ∧ o331_x9.toInt = o138_x9.toInt ∧ o331_x19.toInt = o138_x19.toInt ∧ o331_x20.toInt = o138_x20.toInt ∧ o331_x22.toInt = o138_x22.toInt ∧ o331_x28.toInt = o138_x28.toInt := by have q9 := hw328p; first | (simp only [tf332, tf333, tf334, tf335, tf336, tf337, tf144, tf140, tf139, tf141, tf338, tf147, tf339, tf146, tf340, tf145, tf341, tf326, mo_i1, mo_l1] at q9; exact q9) | (rw [tf332, tf333, tf334, tf335, tf336, tf337, tf144, tf140, tf139, tf141, tf338, tf147, tf339, tf146, tf340, tf145, tf341, tf326] at q9; exact q9)
            refine lv_aload_n hx hb dX12_contract_120 rfl (lv_at hl 0 rfl) ?_
            refine lv_iconst (v := 0) hx hb dX12_contract_121 (by decide) ?_
            obtain ⟨q343, eq343⟩ := tp_pos (tp_in hG ht_h0 (by decide)) hf_o331
            refine va_put (D := (dC, dI)) (ci := 12) (v := .int 0) (ty := .int) (C := RX12) (T := TX12) (N := 53) hx hb hts hfX12 tyX12 tyX12_ok nmX12 hown hK hP hD hS q343 eq343 rfl 9 (by decide) (hts (.fieldLink RX12 252 "ColdShipsModel" "taped" "I") wa_774) (fun _ h9 => h9) rfl (tyX12_ok 9 (by decide)) rfl rfl (Nat.le_of_ble_eq_true rfl) dX12_contract_122 (tp_k (.inr (12, [.int o331_x0, .int o331_x1, .ref (ρ h0 2), .ref (ρ h0 3), .ref (ρ h0 4), .ref (ρ h0 5), .ref (ρ h0 6), .int o331_x7, .ref (ρ h0 8), .int 0, .int o331_x10, .int o331_x11, .int o331_x12, .long o331_x13, .int o331_x14, .int o331_x15, .int o331_x16, .int o331_x17, .int o331_x18, .int o331_x19, .int o331_x20, .ref (ρ h0 21), .int o331_x22, .ref (ρ h0 23), .ref (ρ h0 24), .int o331_x25, .ref (ρ h0 26), .ref (ρ h0 27), .int o331_x28, .int o331_x29, .ref (ρ h0 30), .ref (ρ h0 31), .int o331_x32, .long o331_x33, .long o331_x34, .long o331_x35, .int o331_x36, .int o331_x37, .int o331_x38, .ref (ρ h0 39), .ref (ρ h0 40), .ref (ρ h0 41), .ref (ρ h0 42), .ref (ρ h0 43), .ref (ρ h0 44), .ref (ρ h0 45), .ref (ρ h0 46), .int o331_x47, .int o331_x48, .ref (ρ h0 49), .ref (ρ h0 50), .ref (ρ h0 51), .ref (ρ h0 52)])) hD (tp_in hG ht_h0 (by decide)) eq343 (fun f344 H locs hP hD hS g346 k345 => ?_))
            have hT := hT.up ht_h0 g346 k345 ⟨_, _, _, _, _, _, _, _, _, _, _, _, _, _, _, _, _, _, _, _, _, _, _, _, _, _, _, _, rfl, ro331_0, (by decide), ro331_2, ro331_3, ro331_4, ro331_5, ro331_6, ro331_7, ro331_8, ro331_9, ro331_10, ro331_11, ro331_12, ro331_13⟩
            have hR := hR.up ht_h0 (by decide) k345
            refine lv_aload_n hx hb dX12_contract_125 rfl (lv_at hl 0 rfl) ?_
            obtain ⟨q347, eq347⟩ := tp_pos (tp_in hG ht_h0 (by decide)) g346
            refine va_get (D := (dC, dI)) (ci := 12) (v := .int o331_x15) (C := RX12) (T := TX12) (N := 53) hx hb hts hfX12 hown hK hP q347 eq347 rfl 15 (by decide) (hts (.fieldLink RX12 261 "ColdShipsModel" "bad" "Z") wa_994) (fun _ h9 => h9) rfl dX12_contract_126 ?_
            refine lv_if_eq (tgt := 139) hx hb dX12_contract_129 (by decide) (fun c348 => ?_) (fun c348 => ?_)
            · have ic348 : o331_x15.toInt = 0 := zi_eq rfl rfl c348
              have hf_349 : f329 (ρ h0 21) = .inl (κ 0, 60, .inl g149) := (hF330 _ (by rw [y7]; decide)).trans hf_o148
              have hf_350 : f344 (ρ h0 21) = .inl (κ 0, 60, .inl g149) := (k345 _ (tp_ne y7 ht_h0 (by decide))).trans hf_349
              have tf351 : mo_i (f344 (ρ h0 21)) = g149 := tfa_i hf_350
              have hf_352 : f329 (ρ h0 23) = .inl (κ 0, 400, .inl g152) := (hF330 _ (by rw [y8]; decide)).trans hf_o151
              have hf_353 : f344 (ρ h0 23) = .inl (κ 0, 400, .inl g152) := (k345 _ (tp_ne y8 ht_h0 (by decide))).trans hf_352
              have tf354 : mo_i (f344 (ρ h0 23)) = g152 := tfa_i hf_353
              have hf_355 : f329 (ρ h0 24) = .inl (κ 0, 400, .inl g155) := (hF330 _ (by rw [y9]; decide)).trans hf_o154
              have hf_356 : f344 (ρ h0 24) = .inl (κ 0, 400, .inl g155) := (k345 _ (tp_ne y9 ht_h0 (by decide))).trans hf_355
              have tf357 : mo_i (f344 (ρ h0 24)) = g155 := tfa_i hf_356
              refine lv_sipush (v := 2251) hx hb dX12_contract_139 (by decide) ?_
              refine lv_sipush (v := 864) hx hb dX12_contract_142 (by decide) ?_
              refine lv_aload_n hx hb dX12_contract_145 rfl (lv_at hl 0 rfl) ?_
              refine va_get (D := (dC, dI)) (ci := 12) (v := .ref (ρ h0 2)) (C := RX12) (T := TX12) (N := 53) hx hb hts hfX12 hown hK hP q347 eq347 rfl 2 (by decide) (hts (.fieldLink RX12 7 "ColdShipsModel" "row" "[I") wa_148) (fun _ h9 => h9) rfl dX12_contract_146 ?_
              refine lv_bipush (v := 8) hx hb dX12_contract_149 (by decide) ?_
              have hf_358 : f329 (ρ h0 2) = .inl (κ 0, 12967, .inl g27) := (hF330 _ (by rw [y1]; decide)).trans hk131k
              have hf_359 : f344 (ρ h0 2) = .inl (κ 0, 12967, .inl g27) := (k345 _ (tp_ne y1 ht_h0 (by decide))).trans hf_358
              obtain ⟨q360, eq360⟩ := tp_pos (tp_in hG y1 (by decide)) hf_359
              refine va_iald hx hb hK hP q360 0 eq360 rfl (vp_in_iff.mpr ⟨by decide, by decide⟩) dX12_contract_151 ?_
              refine lv_topi (fun z361 ez361 => ?_)
              have jz361 : z361.toInt = mo_R g27 (8) := mo_rd ez361 (show (8 : Int32).toInt = (8) from by decide)
              have kz361 := hI.k8
              refine lv_imul hx hb dX12_contract_152 ?_
              refine lv_topi (fun z362 ez362 => ?_)
              have iz362 : z362.toInt = 864 * z361.toInt := zi_mul ez362 rfl rfl (by omega) (by omega)
              refine lv_iadd hx hb dX12_contract_153 ?_
              refine lv_topi (fun z363 ez363 => ?_)
              have iz363 : z363.toInt = 2251 + z362.toInt := zi_add ez363 rfl rfl (by omega) (by omega)
              refine lv_istore_n (lv' := [(1, .int z363), (0, .ref h0)]) hx hb dX12_contract_154 rfl hl (by decide) rfl (fun ls hl => ?_)
              refine lv_aload_n hx hb dX12_contract_155 rfl (lv_at hl 1 rfl) ?_
              refine lv_iload_n hx hb dX12_contract_156 rfl (lv_at hl 0 rfl) ?_
              refine lv_aload_n hx hb dX12_contract_157 rfl (lv_at hl 1 rfl) ?_
              refine va_get (D := (dC, dI)) (ci := 12) (v := .int o331_x16) (C := RX12) (T := TX12) (N := 53) hx hb hts hfX12 hown hK hP q347 eq347 rfl 16 (by decide) (hts (.fieldLink RX12 398 "ColdShipsModel" "nFrom" "I") wa_991) (fun _ h9 => h9) rfl dX12_contract_158 ?_
              refine lv_aload_n hx hb dX12_contract_161 rfl (lv_at hl 1 rfl) ?_
              refine va_get (D := (dC, dI)) (ci := 12) (v := .int o331_x17) (C := RX12) (T := TX12) (N := 53) hx hb hts hfX12 hown hK hP q347 eq347 rfl 17 (by decide) (hts (.fieldLink RX12 403 "ColdShipsModel" "nTo" "I") wa_992) (fun _ h9 => h9) rfl dX12_contract_162 ?_
              refine lv_aload_n hx hb dX12_contract_165 rfl (lv_at hl 1 rfl) ?_
              refine va_get (D := (dC, dI)) (ci := 12) (v := .int o331_x18) (C := RX12) (T := TX12) (N := 53) hx hb hts hfX12 hown hK hP q347 eq347 rfl 18 (by decide) (hts (.fieldLink RX12 408 "ColdShipsModel" "nAt" "I") wa_993) (fun _ h9 => h9) rfl dX12_contract_166 ?_
              refine lv_aload_n hx hb dX12_contract_169 rfl (lv_at hl 1 rfl) ?_
              refine va_get (D := (dC, dI)) (ci := 12) (v := .int o331_x20) (C := RX12) (T := TX12) (N := 53) hx hb hts hfX12 hown hK hP q347 eq347 rfl 20 (by decide) (hts (.fieldLink RX12 411 "ColdShipsModel" "nPays" "I") wa_988) (fun _ h9 => h9) rfl dX12_contract_170 ?_
              have hFc := tp_fr hD hS hA
              refine va_callv (va_runV (As := [.int z363, .int o331_x16, .int o331_x17, .int o331_x18, .int o331_x20]) (rest := []) ⟨hx, hb, hml, hown, hts⟩ (t_X12_addFour l dC dI _ κ τ ν ρ L f344 hG hT h0 z363 o331_x16 o331_x17 o331_x18 o331_x20 ht_h0 (by first | decide | omega)) (cwV 5 hts gX12_contract_X12_addFour rfl rfl rfl ⟨rfl, pd_X12_addFour⟩ ⟨Nat.le_of_ble_eq_true rfl, Nat.le_of_ble_eq_true rfl⟩) ⟨pz_blind, va_recv hK hP (ci := 12) (q0 := q347) rfl eq347, pz_pre hP hK hD hN⟩ rfl rfl hl.1 rfl (lv_room (Nat.le_of_ble_eq_true rfl)) dX12_contract_173 ⟨Nat.le_of_ble_eq_true rfl, Nat.le_of_ble_eq_true rfl⟩) hS (fun q _ h => hFc q h) hFc (fun f366 t H1 locs ht hvm hw365 hB hz1 hk1 hS => ?_)
              obtain ⟨hT, hF367, hw365p⟩ := hw365
              have hR := hR.then hF367 (by decide)
              have hP := hB.1; rw [ht] at hP; have hD := tp_ad f366 hD; clear hB hFc hz1 hk1; subst ht; generalize t.heap = H at hP hS ⊢
              rw [hf_359, mo_i1] at hw365p
              obtain ⟨Q1_367, Q2_367, Q3_367, u1_367, u2_367, u3_367, u4_367⟩ := hw365p
              obtain ⟨g369, hf_o368⟩ := tpo_32 hT y1
              rw [hf_o368, mo_i1] at u4_367
              have hU : mo_U (mo_R g27) (Q1_367) (2251 + 864 * n8 + 0) (o331_x16.toInt) := by have q9 := u1_367; rw [show z363.toInt = (2251 + 864 * n8 + 0) by omega] at q9; exact q9
              have hI := mo_w_con hI hU n8 (0) (by omega) (by omega) (by omega) (by omega)
              have pn370 : Q1_367 (8) = n8 := (hU.ne (by omega) (by omega)).trans en8.symm
              have hU : mo_U (Q1_367) (Q2_367) (2251 + 864 * n8 + 1) (o331_x17.toInt) := by have q9 := u2_367; rw [show z363.toInt + 1 = (2251 + 864 * n8 + 1) by omega] at q9; exact q9
              have hI := mo_w_con hI hU n8 (1) (by omega) (by omega) (by omega) (by omega)
              have pn371 : Q2_367 (8) = n8 := (hU.ne (by omega) (by omega)).trans pn370
              have hU : mo_U (Q2_367) (Q3_367) (2251 + 864 * n8 + 2) (o331_x18.toInt) := by have q9 := u3_367; rw [show z363.toInt + 2 = (2251 + 864 * n8 + 2) by omega] at q9; exact q9
              have hI := mo_w_con hI hU n8 (2) (by omega) (by omega) (by omega) (by omega)
              have pn372 : Q3_367 (8) = n8 := (hU.ne (by omega) (by omega)).trans pn371
              have hU : mo_U (Q3_367) (mo_R g369) (2251 + 864 * n8 + 3) (o331_x20.toInt) := by have q9 := u4_367; rw [show z363.toInt + 3 = (2251 + 864 * n8 + 3) by omega] at q9; exact q9
              have hI := mo_w_con hI hU n8 (3) (by omega) (by omega) (by omega) (by omega)
              have pn373 : mo_R g369 (8) = n8 := (hU.ne (by omega) (by omega)).trans pn372
              have hcc3 : mo_R g369 (2251 + 864 * n8 + 3) = o331_x20.toInt := hU.eq (by omega)
              refine lv_iconst (v := 0) hx hb dX12_contract_176 (by decide) ?_
              refine lv_istore_n (lv' := [(2, .int 0), (1, .int z363), (0, .ref h0)]) hx hb dX12_contract_177 rfl hl (by decide) rfl (fun ls hl => ?_)
              have hf_374 : f366 h0 = .inr (12, [.int o331_x0, .int o331_x1, .ref (ρ h0 2), .ref (ρ h0 3), .ref (ρ h0 4), .ref (ρ h0 5), .ref (ρ h0 6), .int o331_x7, .ref (ρ h0 8), .int 0, .int o331_x10, .int o331_x11, .int o331_x12, .long o331_x13, .int o331_x14, .int o331_x15, .int o331_x16, .int o331_x17, .int o331_x18, .int o331_x19, .int o331_x20, .ref (ρ h0 21), .int o331_x22, .ref (ρ h0 23), .ref (ρ h0 24), .int o331_x25, .ref (ρ h0 26), .ref (ρ h0 27), .int o331_x28, .int o331_x29, .ref (ρ h0 30), .ref (ρ h0 31), .int o331_x32, .long o331_x33, .long o331_x34, .long o331_x35, .int o331_x36, .int o331_x37, .int o331_x38, .ref (ρ h0 39), .ref (ρ h0 40), .ref (ρ h0 41), .ref (ρ h0 42), .ref (ρ h0 43), .ref (ρ h0 44), .ref (ρ h0 45), .ref (ρ h0 46), .int o331_x47, .int o331_x48, .ref (ρ h0 49), .ref (ρ h0 50), .ref (ρ h0 51), .ref (ρ h0 52)]) := (hF367 _ (by rw [ht_h0]; decide)).trans g346
              have hf_377 : f366 (ρ h0 21) = .inl (κ 0, 60, .inl g149) := (hF367 _ (by rw [y7]; decide)).trans hf_350
              have hf_378 : f366 (ρ h0 23) = .inl (κ 0, 400, .inl g152) := (hF367 _ (by rw [y8]; decide)).trans hf_353
              have hf_379 : f366 (ρ h0 24) = .inl (κ 0, 400, .inl g155) := (hF367 _ (by rw [y9]; decide)).trans hf_356
              have tf384 : mo_i (f366 (ρ h0 21)) = g149 := tfa_i hf_377
              have tf385 : mo_i (f366 (ρ h0 23)) = g152 := tfa_i hf_378
              have tf386 : mo_i (f366 (ρ h0 24)) = g155 := tfa_i hf_379
              have tf387 : tp_fld (f366 h0) 20 = o331_x20.toInt := tff_20 hf_374
              refine pz_loop (fun n0 H locs ls => ∃ f388 : Nat → va_E, ∃ w375 : Int32, n0 = (60 - (w375.toInt)).toNat ∧ tp_T (mo_O κ) κ τ ν ρ f388 ∧ tp_F τ [13, 32, 51, 53, 54, 56, 57] f f388 ∧ f388 h0 = .inr (12, [.int o331_x0, .int o331_x1, .ref (ρ h0 2), .ref (ρ h0 3), .ref (ρ h0 4), .ref (ρ h0 5), .ref (ρ h0 6), .int o331_x7, .ref (ρ h0 8), .int 0, .int o331_x10, .int o331_x11, .int o331_x12, .long o331_x13, .int o331_x14, .int o331_x15, .int o331_x16, .int o331_x17, .int o331_x18, .int o331_x19, .int o331_x20, .ref (ρ h0 21), .int o331_x22, .ref (ρ h0 23), .ref (ρ h0 24), .int o331_x25, .ref (ρ h0 26), .ref (ρ h0 27), .int o331_x28, .int o331_x29, .ref (ρ h0 30), .ref (ρ h0 31), .int o331_x32, .long o331_x33, .long o331_x34, .long o331_x35, .int o331_x36, .int o331_x37, .int o331_x38, .ref (ρ h0 39), .ref (ρ h0 40), .ref (ρ h0 41), .ref (ρ h0 42), .ref (ρ h0 43), .ref (ρ h0 44), .ref (ρ h0 45), .ref (ρ h0 46), .int o331_x47, .int o331_x48, .ref (ρ h0 49), .ref (ρ h0 50), .ref (ρ h0 51), .ref (ρ h0 52)]) ∧ f388 (ρ h0 21) = .inl (κ 0, 60, .inl g149) ∧ f388 (ρ h0 23) = .inl (κ 0, 400, .inl g152) ∧ f388 (ρ h0 24) = .inl (κ 0, 400, .inl g155) ∧ ((mo_RI (-1) 0 (mo_R (mo_i (f388 (ρ h0 2)))))) ∧ (((mo_R (mo_i (f388 (ρ h0 2)))) (8) = n8)) ∧ ((mo_CC (mo_R (mo_i (f388 (ρ h0 2)))) (2251 + 864 * n8) (mo_R (mo_i (f388 (ρ h0 21)))) (mo_R (mo_i (f388 (ρ h0 23)))) (mo_R (mo_i (f388 (ρ h0 24)))) (tp_fld (f388 h0) 20) (w375.toInt) 0)) ∧ (0 ≤ w375.toInt ∧ w375.toInt ≤ 60) ∧ ((w375.toInt) ≤ 5 * o331_x20.toInt) ∧ va_P (dC, dI) vwCl (va_pl L f388) H ∧ va_D A (va_pl L f388) ∧ va_S A s.heap H locs ∧ lv_has ls 3 [(2, .int w375), (1, .int z363), (0, .ref h0)]) ?_ _ _ _ _ ⟨f366, 0, rfl, hT, hR, hf_374, hf_377, hf_378, hf_379, (by rw [hf_o368, mo_i1]; exact hI), (by rw [hf_o368, mo_i1]; have : (0 : Int32).toInt = 0 := rfl; omega), (by first | (simp only [tf384, tf385, tf386, tf387, hf_o368, mo_i1, mo_l1]; exact (show mo_CC (mo_R g369) (2251 + 864 * n8) (mo_R g149) (mo_R g152) (mo_R g155) o331_x20.toInt (0 : Int32).toInt 0 from mo_CC.rf _ _ _ hcc3 (by decide) (by decide))) | (rw [tf384, tf385, tf386, tf387, hf_o368]; exact (show mo_CC (mo_R g369) (2251 + 864 * n8) (mo_R g149) (mo_R g152) (mo_R g155) o331_x20.toInt (0 : Int32).toInt 0 from mo_CC.rf _ _ _ hcc3 (by decide) (by decide)))), (by have : (0 : Int32).toInt = 0 := rfl; omega), (by have : (0 : Int32).toInt = 0 := rfl; omega), hP, hD, hS, lv_sub hl [0, 1, 2] rfl⟩
              intro n0 H locs ls hI ih390
              obtain ⟨f388, w375, hn391, hT, hR, hk380k, hk381k, hk382k, hk383k, hJ, jf392, jf393, rw375, k376, hP, hD, hS, hl⟩ := hI
              obtain ⟨g395, hf_o394⟩ := tpo_32 hT y1
              have hI : mo_RI (-1) 0 (mo_R g395) := by have q9 := hJ; rw [hf_o394, mo_i1] at q9; exact q9
              rw [hf_o394, mo_i1] at jf392
              have tf396 : mo_i (f388 (ρ h0 21)) = g149 := tfa_i hk381k
              have tf397 : mo_i (f388 (ρ h0 23)) = g152 := tfa_i hk382k
              have tf398 : mo_i (f388 (ρ h0 24)) = g155 := tfa_i hk383k
              have tf399 : tp_fld (f388 h0) 20 = o331_x20.toInt := tff_20 hk380k
              have jf393 : mo_CC (mo_R g395) (2251 + 864 * n8) (mo_R g149) (mo_R g152) (mo_R g155) o331_x20.toInt (w375.toInt) 0 := by have q9 := jf393; first | (simp only [tf396, tf397, tf398, tf399, hf_o394, mo_i1, mo_l1] at q9; exact q9) | (rw [tf396, tf397, tf398, tf399, hf_o394] at q9; exact q9)
              refine lv_iload_n hx hb dX12_contract_178 rfl (lv_at hl 0 rfl) ?_
              refine lv_iconst (v := 5) hx hb dX12_contract_179 (by decide) ?_
              refine lv_aload_n hx hb dX12_contract_180 rfl (lv_at hl 2 rfl) ?_
              obtain ⟨q400, eq400⟩ := tp_pos (tp_in hG ht_h0 (by decide)) hk380k
              refine va_get (D := (dC, dI)) (ci := 12) (v := .int o331_x20) (C := RX12) (T := TX12) (N := 53) hx hb hts hfX12 hown hK hP q400 eq400 rfl 20 (by decide) (hts (.fieldLink RX12 411 "ColdShipsModel" "nPays" "I") wa_988) (fun _ h9 => h9) rfl dX12_contract_181 ?_
              refine lv_imul hx hb dX12_contract_184 ?_
              refine lv_topi (fun z401 ez401 => ?_)
              have iz401 : z401.toInt = 5 * o331_x20.toInt := zi_mul ez401 rfl rfl (by omega) (by omega)
              refine lv_icmp_ge (tgt := 210) hx hb dX12_contract_185 (by decide) (fun c402 => ?_) (fun c402 => ?_)
              · have ic402 : w375.toInt ≥ z401.toInt := zi_ge rfl rfl c402
                refine lv_iconst (v := 0) hx hb dX12_contract_210 (by decide) ?_
                refine lv_istore_n (lv' := [(2, .int 0), (1, .int z363), (0, .ref h0)]) hx hb dX12_contract_211 rfl hl (by decide) rfl (fun ls hl => ?_)
                refine pz_loop (fun n0 H locs ls => ∃ f409 : Nat → va_E, ∃ w403 : Int32, n0 = (400 - (w403.toInt)).toNat ∧ tp_T (mo_O κ) κ τ ν ρ f409 ∧ tp_F τ [13, 32, 51, 53, 54, 56, 57] f f409 ∧ f409 h0 = .inr (12, [.int o331_x0, .int o331_x1, .ref (ρ h0 2), .ref (ρ h0 3), .ref (ρ h0 4), .ref (ρ h0 5), .ref (ρ h0 6), .int o331_x7, .ref (ρ h0 8), .int 0, .int o331_x10, .int o331_x11, .int o331_x12, .long o331_x13, .int o331_x14, .int o331_x15, .int o331_x16, .int o331_x17, .int o331_x18, .int o331_x19, .int o331_x20, .ref (ρ h0 21), .int o331_x22, .ref (ρ h0 23), .ref (ρ h0 24), .int o331_x25, .ref (ρ h0 26), .ref (ρ h0 27), .int o331_x28, .int o331_x29, .ref (ρ h0 30), .ref (ρ h0 31), .int o331_x32, .long o331_x33, .long o331_x34, .long o331_x35, .int o331_x36, .int o331_x37, .int o331_x38, .ref (ρ h0 39), .ref (ρ h0 40), .ref (ρ h0 41), .ref (ρ h0 42), .ref (ρ h0 43), .ref (ρ h0 44), .ref (ρ h0 45), .ref (ρ h0 46), .int o331_x47, .int o331_x48, .ref (ρ h0 49), .ref (ρ h0 50), .ref (ρ h0 51), .ref (ρ h0 52)]) ∧ f409 (ρ h0 21) = .inl (κ 0, 60, .inl g149) ∧ f409 (ρ h0 23) = .inl (κ 0, 400, .inl g152) ∧ f409 (ρ h0 24) = .inl (κ 0, 400, .inl g155) ∧ ((mo_RI (-1) 0 (mo_R (mo_i (f409 (ρ h0 2)))))) ∧ (((mo_R (mo_i (f409 (ρ h0 2)))) (8) = n8)) ∧ ((mo_CC (mo_R (mo_i (f409 (ρ h0 2)))) (2251 + 864 * n8) (mo_R (mo_i (f409 (ρ h0 21)))) (mo_R (mo_i (f409 (ρ h0 23)))) (mo_R (mo_i (f409 (ρ h0 24)))) (tp_fld (f409 h0) 20) (5 * o331_x20.toInt) (w403.toInt))) ∧ (0 ≤ w403.toInt ∧ w403.toInt ≤ 400) ∧ ((w403.toInt) ≤ o331_x22.toInt) ∧ va_P (dC, dI) vwCl (va_pl L f409) H ∧ va_D A (va_pl L f409) ∧ va_S A s.heap H locs ∧ lv_has ls 3 [(2, .int w403), (1, .int z363), (0, .ref h0)]) ?_ _ _ _ _ ⟨f388, 0, rfl, hT, hR, hk380k, hk381k, hk382k, hk383k, (by rw [hf_o394, mo_i1]; exact hI), (by rw [hf_o394, mo_i1]; have : (0 : Int32).toInt = 0 := rfl; omega), (by first | (simp only [tf396, tf397, tf398, tf399, hf_o394, mo_i1, mo_l1]; exact (show mo_CC (mo_R g395) (2251 + 864 * n8) (mo_R g149) (mo_R g152) (mo_R g155) o331_x20.toInt (5 * o331_x20.toInt) (0 : Int32).toInt from (by have q8 : (0 : Int32).toInt = 0 := rfl; rw [q8]; have q9 := jf393; rw [show w375.toInt = 5 * o331_x20.toInt by omega] at q9; exact q9))) | (rw [tf396, tf397, tf398, tf399, hf_o394]; exact (show mo_CC (mo_R g395) (2251 + 864 * n8) (mo_R g149) (mo_R g152) (mo_R g155) o331_x20.toInt (5 * o331_x20.toInt) (0 : Int32).toInt from (by have q8 : (0 : Int32).toInt = 0 := rfl; rw [q8]; have q9 := jf393; rw [show w375.toInt = 5 * o331_x20.toInt by omega] at q9; exact q9)))), (by have : (0 : Int32).toInt = 0 := rfl; omega), (by have : (0 : Int32).toInt = 0 := rfl; omega), hP, hD, hS, lv_sub hl [0, 1, 2] rfl⟩
                intro n0 H locs ls hI ih411
                obtain ⟨f409, w403, hn412, hT, hR, hk405k, hk406k, hk407k, hk408k, hJ, jf413, jf414, rw403, k404, hP, hD, hS, hl⟩ := hI
                obtain ⟨g416, hf_o415⟩ := tpo_32 hT y1
                have hI : mo_RI (-1) 0 (mo_R g416) := by have q9 := hJ; rw [hf_o415, mo_i1] at q9; exact q9
                rw [hf_o415, mo_i1] at jf413
                have tf417 : mo_i (f409 (ρ h0 21)) = g149 := tfa_i hk406k
                have tf418 : mo_i (f409 (ρ h0 23)) = g152 := tfa_i hk407k
                have tf419 : mo_i (f409 (ρ h0 24)) = g155 := tfa_i hk408k
                have tf420 : tp_fld (f409 h0) 20 = o331_x20.toInt := tff_20 hk405k
                have jf414 : mo_CC (mo_R g416) (2251 + 864 * n8) (mo_R g149) (mo_R g152) (mo_R g155) o331_x20.toInt (5 * o331_x20.toInt) (w403.toInt) := by have q9 := jf414; first | (simp only [tf417, tf418, tf419, tf420, hf_o415, mo_i1, mo_l1] at q9; exact q9) | (rw [tf417, tf418, tf419, tf420, hf_o415] at q9; exact q9)
                refine lv_iload_n hx hb dX12_contract_212 rfl (lv_at hl 0 rfl) ?_
                refine lv_aload_n hx hb dX12_contract_213 rfl (lv_at hl 2 rfl) ?_
                obtain ⟨q421, eq421⟩ := tp_pos (tp_in hG ht_h0 (by decide)) hk405k
                refine va_get (D := (dC, dI)) (ci := 12) (v := .int o331_x22) (C := RX12) (T := TX12) (N := 53) hx hb hts hfX12 hown hK hP q421 eq421 rfl 22 (by decide) (hts (.fieldLink RX12 297 "ColdShipsModel" "nCode" "I") wa_989) (fun _ h9 => h9) rfl dX12_contract_214 ?_
                refine lv_icmp_ge (tgt := 266) hx hb dX12_contract_217 (by decide) (fun c422 => ?_) (fun c422 => ?_)
                · have ic422 : w403.toInt ≥ o331_x22.toInt := zi_ge rfl rfl c422
                  have hco := ((jf137 (by omega)).2.2).co jf414 (by omega) (by omega) (by omega) (by omega)
                  refine lv_aload_n hx hb dX12_contract_266 rfl (lv_at hl 2 rfl) ?_
                  refine va_get (D := (dC, dI)) (ci := 12) (v := .ref (ρ h0 2)) (C := RX12) (T := TX12) (N := 53) hx hb hts hfX12 hown hK hP q421 eq421 rfl 2 (by decide) (hts (.fieldLink RX12 7 "ColdShipsModel" "row" "[I") wa_148) (fun _ h9 => h9) rfl dX12_contract_267 ?_
                  refine lv_bipush (v := 8) hx hb dX12_contract_270 (by decide) ?_
                  refine lv_dup2_11 hx hb dX12_contract_272 rfl rfl ?_
                  obtain ⟨q423, eq423⟩ := tp_pos (tp_in hG y1 (by decide)) hf_o415
                  refine va_iald hx hb hK hP q423 0 eq423 rfl (vp_in_iff.mpr ⟨by decide, by decide⟩) dX12_contract_273 ?_
                  refine lv_topi (fun z424 ez424 => ?_)
                  have jz424 : z424.toInt = mo_R g416 (8) := mo_rd ez424 (show (8 : Int32).toInt = (8) from by decide)
                  have kz424 := hI.k8
                  refine lv_iconst (v := 1) hx hb dX12_contract_274 (by decide) ?_
                  refine lv_iadd hx hb dX12_contract_275 ?_
                  refine lv_topi (fun z425 ez425 => ?_)
                  have iz425 : z425.toInt = z424.toInt + 1 := zi_add ez425 rfl rfl (by omega) (by omega)
                  refine va_iast hx hb hK hP hD hS q423 0 eq423 rfl (vp_in_iff.mpr ⟨by decide, by decide⟩) dX12_contract_276 (tp_k (.inl (κ 0, 12967, .inl (upd g416 (8 : Int32).toNatClampNeg z425))) hD (tp_in hG y1 (by decide)) eq423 (fun f426 H locs hP hD hS g428 k427 => ?_))
                  have hT := hT.up y1 g428 k427 tp_o32
                  have hR := hR.up y1 (by decide) k427
                  have hU : mo_U (mo_R g416) (mo_R (upd g416 (8 : Int32).toNatClampNeg z425)) (8) (z425.toInt) := mo_up (show (8 : Int32).toInt = (8) from by decide) (rfl : z425.toInt = _) (by omega)
                  generalize (upd g416 (8 : Int32).toNatClampNeg z425) = g429 at g428 hU
                  have hI := mo_w_nC hI hU n8 rfl jf413 (by omega) hco
                  have pn430 : mo_R g429 (8) = z425.toInt := hU.eq (by omega)
                  refine lv_aload_n hx hb dX12_contract_277 rfl (lv_at hl 2 rfl) ?_
                  refine lv_aload_n hx hb dX12_contract_278 rfl (lv_at hl 2 rfl) ?_
                  have hf_431 : f426 h0 = .inr (12, [.int o331_x0, .int o331_x1, .ref (ρ h0 2), .ref (ρ h0 3), .ref (ρ h0 4), .ref (ρ h0 5), .ref (ρ h0 6), .int o331_x7, .ref (ρ h0 8), .int 0, .int o331_x10, .int o331_x11, .int o331_x12, .long o331_x13, .int o331_x14, .int o331_x15, .int o331_x16, .int o331_x17, .int o331_x18, .int o331_x19, .int o331_x20, .ref (ρ h0 21), .int o331_x22, .ref (ρ h0 23), .ref (ρ h0 24), .int o331_x25, .ref (ρ h0 26), .ref (ρ h0 27), .int o331_x28, .int o331_x29, .ref (ρ h0 30), .ref (ρ h0 31), .int o331_x32, .long o331_x33, .long o331_x34, .long o331_x35, .int o331_x36, .int o331_x37, .int o331_x38, .ref (ρ h0 39), .ref (ρ h0 40), .ref (ρ h0 41), .ref (ρ h0 42), .ref (ρ h0 43), .ref (ρ h0 44), .ref (ρ h0 45), .ref (ρ h0 46), .int o331_x47, .int o331_x48, .ref (ρ h0 49), .ref (ρ h0 50), .ref (ρ h0 51), .ref (ρ h0 52)]) := (k427 _ (tp_ne ht_h0 y1 (by decide))).trans hk405k
                  obtain ⟨q432, eq432⟩ := tp_pos (tp_in hG ht_h0 (by decide)) hf_431
                  refine va_get (D := (dC, dI)) (ci := 12) (v := .ref (ρ h0 2)) (C := RX12) (T := TX12) (N := 53) hx hb hts hfX12 hown hK hP q432 eq432 rfl 2 (by decide) (hts (.fieldLink RX12 7 "ColdShipsModel" "row" "[I") wa_148) (fun _ h9 => h9) rfl dX12_contract_279 ?_
                  refine lv_bipush (v := 8) hx hb dX12_contract_282 (by decide) ?_
                  obtain ⟨q433, eq433⟩ := tp_pos (tp_in hG y1 (by decide)) g428
                  refine va_iald hx hb hK hP q433 0 eq433 rfl (vp_in_iff.mpr ⟨by decide, by decide⟩) dX12_contract_284 ?_
                  refine lv_topi (fun z434 ez434 => ?_)
                  have jz434 : z434.toInt = mo_R g429 (8) := mo_rd ez434 (show (8 : Int32).toInt = (8) from by decide)
                  have kz434 := hI.k8
                  refine lv_iconst (v := 1) hx hb dX12_contract_285 (by decide) ?_
                  refine lv_isub hx hb dX12_contract_286 ?_
                  refine lv_topi (fun z435 ez435 => ?_)
                  have iz435 : z435.toInt = z434.toInt - 1 := zi_sub ez435 rfl rfl (by omega) (by omega)
                  have hFc := tp_fr hD hS hA
                  refine va_calli (va_runV (As := [.int z435]) (rest := []) ⟨hx, hb, hml, hown, hts⟩ (t_X12_told l dC dI _ κ τ ν ρ L f426 hG hT h0 z435 ht_h0) (cwV 1 hts gX12_contract_X12_told rfl rfl rfl ⟨rfl, pd_X12_told⟩ ⟨Nat.le_of_ble_eq_true rfl, Nat.le_of_ble_eq_true rfl⟩) ⟨pz_blind, va_recv hK hP (ci := 12) (q0 := q432) rfl eq432, pz_pre hP hK hD hN⟩ rfl rfl hl.1 rfl (lv_room (Nat.le_of_ble_eq_true rfl)) dX12_contract_287 ⟨Nat.le_of_ble_eq_true rfl, Nat.le_of_ble_eq_true rfl⟩) hS (fun q _ h => hFc q h) hFc (fun r436 f438 t H1 locs ht hvm hw437 hB hz1 hk1 hS => ?_)
                  obtain ⟨hT, hF439, hw437r, hw437p⟩ := hw437
                  have hR := hR.then hF439 (by decide)
                  have hP := hB.1; rw [ht] at hP; have hD := tp_ad f438 hD; clear hB hFc hz1 hk1; subst ht; generalize t.heap = H at hP hS ⊢
                  have hw437pq : r436.toInt = z435.toInt := by rw [hw437p]
                  have hf_440 : f438 (ρ h0 2) = .inl (κ 0, 12967, .inl g429) := (hF439 _ (by rw [y1]; decide)).trans g428
                  exact W.iret (v := r436) hx hb hr (fun t ht hW => ⟨⟨r436, f438, rfl, ⟨hT, hR, trivial, (by rw [hf_440, mo_i1]; exact hI)⟩, by rw [ht]; exact hP, va_K.moved hW.alike hK, hD⟩, hS.F ht⟩) hS.2.2 dX12_contract_290
                · have ic422 : w403.toInt < o331_x22.toInt := zi_gef rfl rfl c422
                  refine lv_aload_n hx hb dX12_contract_220 rfl (lv_at hl 2 rfl) ?_
                  refine va_get (D := (dC, dI)) (ci := 12) (v := .ref (ρ h0 2)) (C := RX12) (T := TX12) (N := 53) hx hb hts hfX12 hown hK hP q421 eq421 rfl 2 (by decide) (hts (.fieldLink RX12 7 "ColdShipsModel" "row" "[I") wa_148) (fun _ h9 => h9) rfl dX12_contract_221 ?_
                  refine lv_iload_n hx hb dX12_contract_224 rfl (lv_at hl 1 rfl) ?_
                  refine lv_bipush (v := 64) hx hb dX12_contract_225 (by decide) ?_
                  refine lv_iadd hx hb dX12_contract_227 ?_
                  refine lv_topi (fun z441 ez441 => ?_)
                  have iz441 : z441.toInt = z363.toInt + 64 := zi_add ez441 rfl rfl (by omega) (by omega)
                  refine lv_iconst (v := 2) hx hb dX12_contract_228 (by decide) ?_
                  refine lv_iload_n hx hb dX12_contract_229 rfl (lv_at hl 0 rfl) ?_
                  refine lv_imul hx hb dX12_contract_230 ?_
                  refine lv_topi (fun z442 ez442 => ?_)
                  have iz442 : z442.toInt = 2 * w403.toInt := zi_mul ez442 rfl rfl (by omega) (by omega)
                  refine lv_iadd hx hb dX12_contract_231 ?_
                  refine lv_topi (fun z443 ez443 => ?_)
                  have iz443 : z443.toInt = z441.toInt + z442.toInt := zi_add ez443 rfl rfl (by omega) (by omega)
                  refine lv_aload_n hx hb dX12_contract_232 rfl (lv_at hl 2 rfl) ?_
                  refine va_get (D := (dC, dI)) (ci := 12) (v := .ref (ρ h0 23)) (C := RX12) (T := TX12) (N := 53) hx hb hts hfX12 hown hK hP q421 eq421 rfl 23 (by decide) (hts (.fieldLink RX12 37 "ColdShipsModel" "nOp" "[I") wa_157) (fun _ h9 => h9) rfl dX12_contract_233 ?_
                  refine lv_iload_n hx hb dX12_contract_236 rfl (lv_at hl 0 rfl) ?_
                  obtain ⟨q444, eq444⟩ := tp_pos (tp_in hG y8 (by decide)) hk407k
                  refine va_iald hx hb hK hP q444 0 eq444 rfl (vp_in_iff.mpr ⟨by omega, by omega⟩) dX12_contract_237 ?_
                  refine lv_topi (fun z445 ez445 => ?_)
                  have jz445 : z445.toInt = mo_R g152 w403.toInt := mo_rd ez445 (by omega)
                  obtain ⟨q446, eq446⟩ := tp_pos (tp_in hG y1 (by decide)) hf_o415
                  refine va_iast hx hb hK hP hD hS q446 0 eq446 rfl (vp_in_iff.mpr ⟨by omega, by omega⟩) dX12_contract_238 (tp_k (.inl (κ 0, 12967, .inl (upd g416 z443.toNatClampNeg z445))) hD (tp_in hG y1 (by decide)) eq446 (fun f447 H locs hP hD hS g449 k448 => ?_))
                  have hT := hT.up y1 g449 k448 tp_o32
                  have hR := hR.up y1 (by decide) k448
                  have hU : mo_U (mo_R g416) (mo_R (upd g416 z443.toNatClampNeg z445)) (2251 + 864 * n8 + 64 + 2 * w403.toInt) (z445.toInt) := mo_up (by omega) (rfl : z445.toInt = _) (by omega)
                  generalize (upd g416 z443.toNatClampNeg z445) = g450 at g449 hU
                  have hI := mo_w_con hI hU n8 (64 + 2 * w403.toInt) (by omega) (by omega) (by omega) (by omega)
                  have pn451 : mo_R g450 (8) = n8 := (hU.ne (by omega) (by omega)).trans jf413
                  have hU1 := hU
                  refine lv_aload_n hx hb dX12_contract_239 rfl (lv_at hl 2 rfl) ?_
                  have hf_452 : f447 h0 = .inr (12, [.int o331_x0, .int o331_x1, .ref (ρ h0 2), .ref (ρ h0 3), .ref (ρ h0 4), .ref (ρ h0 5), .ref (ρ h0 6), .int o331_x7, .ref (ρ h0 8), .int 0, .int o331_x10, .int o331_x11, .int o331_x12, .long o331_x13, .int o331_x14, .int o331_x15, .int o331_x16, .int o331_x17, .int o331_x18, .int o331_x19, .int o331_x20, .ref (ρ h0 21), .int o331_x22, .ref (ρ h0 23), .ref (ρ h0 24), .int o331_x25, .ref (ρ h0 26), .ref (ρ h0 27), .int o331_x28, .int o331_x29, .ref (ρ h0 30), .ref (ρ h0 31), .int o331_x32, .long o331_x33, .long o331_x34, .long o331_x35, .int o331_x36, .int o331_x37, .int o331_x38, .ref (ρ h0 39), .ref (ρ h0 40), .ref (ρ h0 41), .ref (ρ h0 42), .ref (ρ h0 43), .ref (ρ h0 44), .ref (ρ h0 45), .ref (ρ h0 46), .int o331_x47, .int o331_x48, .ref (ρ h0 49), .ref (ρ h0 50), .ref (ρ h0 51), .ref (ρ h0 52)]) := (k448 _ (tp_ne ht_h0 y1 (by decide))).trans hk405k
                  obtain ⟨q453, eq453⟩ := tp_pos (tp_in hG ht_h0 (by decide)) hf_452
                  refine va_get (D := (dC, dI)) (ci := 12) (v := .ref (ρ h0 2)) (C := RX12) (T := TX12) (N := 53) hx hb hts hfX12 hown hK hP q453 eq453 rfl 2 (by decide) (hts (.fieldLink RX12 7 "ColdShipsModel" "row" "[I") wa_148) (fun _ h9 => h9) rfl dX12_contract_240 ?_
                  refine lv_iload_n hx hb dX12_contract_243 rfl (lv_at hl 1 rfl) ?_
                  refine lv_bipush (v := 64) hx hb dX12_contract_244 (by decide) ?_
                  refine lv_iadd hx hb dX12_contract_246 ?_
                  refine lv_topi (fun z454 ez454 => ?_)
                  have iz454 : z454.toInt = z363.toInt + 64 := zi_add ez454 rfl rfl (by omega) (by omega)
                  refine lv_iconst (v := 2) hx hb dX12_contract_247 (by decide) ?_
                  refine lv_iload_n hx hb dX12_contract_248 rfl (lv_at hl 0 rfl) ?_
                  refine lv_imul hx hb dX12_contract_249 ?_
                  refine lv_topi (fun z455 ez455 => ?_)
                  have iz455 : z455.toInt = 2 * w403.toInt := zi_mul ez455 rfl rfl (by omega) (by omega)
                  refine lv_iadd hx hb dX12_contract_250 ?_
                  refine lv_topi (fun z456 ez456 => ?_)
                  have iz456 : z456.toInt = z454.toInt + z455.toInt := zi_add ez456 rfl rfl (by omega) (by omega)
                  refine lv_iconst (v := 1) hx hb dX12_contract_251 (by decide) ?_
                  refine lv_iadd hx hb dX12_contract_252 ?_
                  refine lv_topi (fun z457 ez457 => ?_)
                  have iz457 : z457.toInt = z456.toInt + 1 := zi_add ez457 rfl rfl (by omega) (by omega)
                  refine lv_aload_n hx hb dX12_contract_253 rfl (lv_at hl 2 rfl) ?_
                  refine va_get (D := (dC, dI)) (ci := 12) (v := .ref (ρ h0 24)) (C := RX12) (T := TX12) (N := 53) hx hb hts hfX12 hown hK hP q453 eq453 rfl 24 (by decide) (hts (.fieldLink RX12 40 "ColdShipsModel" "nArg" "[I") wa_158) (fun _ h9 => h9) rfl dX12_contract_254 ?_
                  refine lv_iload_n hx hb dX12_contract_257 rfl (lv_at hl 0 rfl) ?_
                  have hf_458 : f447 (ρ h0 24) = .inl (κ 0, 400, .inl g155) := (k448 _ (tp_ne y9 y1 (by decide))).trans hk408k
                  obtain ⟨q459, eq459⟩ := tp_pos (tp_in hG y9 (by decide)) hf_458
                  refine va_iald hx hb hK hP q459 0 eq459 rfl (vp_in_iff.mpr ⟨by omega, by omega⟩) dX12_contract_258 ?_
                  refine lv_topi (fun z460 ez460 => ?_)
                  have jz460 : z460.toInt = mo_R g155 w403.toInt := mo_rd ez460 (by omega)
                  obtain ⟨q461, eq461⟩ := tp_pos (tp_in hG y1 (by decide)) g449
                  refine va_iast hx hb hK hP hD hS q461 0 eq461 rfl (vp_in_iff.mpr ⟨by omega, by omega⟩) dX12_contract_259 (tp_k (.inl (κ 0, 12967, .inl (upd g450 z457.toNatClampNeg z460))) hD (tp_in hG y1 (by decide)) eq461 (fun f462 H locs hP hD hS g464 k463 => ?_))
                  have hT := hT.up y1 g464 k463 tp_o32
                  have hR := hR.up y1 (by decide) k463
                  have hU : mo_U (mo_R g450) (mo_R (upd g450 z457.toNatClampNeg z460)) (2251 + 864 * n8 + 65 + 2 * w403.toInt) (z460.toInt) := mo_up (by omega) (rfl : z460.toInt = _) (by omega)
                  generalize (upd g450 z457.toNatClampNeg z460) = g465 at g464 hU
                  have hI := mo_w_con hI hU n8 (65 + 2 * w403.toInt) (by omega) (by omega) (by omega) (by omega)
                  have pn466 : mo_R g465 (8) = n8 := (hU.ne (by omega) (by omega)).trans pn451
                  obtain ⟨z467, ez467⟩ : ∃ y : Int32, y = w403 + 1 := ⟨_, rfl⟩
                  refine lv_iinc (v := z467) (lv' := [(2, .int z467), (1, .int z363), (0, .ref h0)]) hx hb dX12_contract_260 hl (k := 0) rfl (by rw [ez467]; rfl) (by decide) rfl (fun ls hl => ?_)
                  have iz467 : z467.toInt = w403.toInt + 1 := zi_add ez467 rfl rfl (by omega) (by omega)
                  refine lv_goto (tgt := 212) hx hb dX12_contract_263 (by decide) ?_
                  have hf_468 : f447 (ρ h0 21) = .inl (κ 0, 60, .inl g149) := (k448 _ (tp_ne y7 y1 (by decide))).trans hk406k
                  have hf_469 : f462 (ρ h0 21) = .inl (κ 0, 60, .inl g149) := (k463 _ (tp_ne y7 y1 (by decide))).trans hf_468
                  have tf470 : mo_i (f462 (ρ h0 21)) = g149 := tfa_i hf_469
                  have hf_471 : f447 (ρ h0 23) = .inl (κ 0, 400, .inl g152) := (k448 _ (tp_ne y8 y1 (by decide))).trans hk407k
                  have hf_472 : f462 (ρ h0 23) = .inl (κ 0, 400, .inl g152) := (k463 _ (tp_ne y8 y1 (by decide))).trans hf_471
                  have tf473 : mo_i (f462 (ρ h0 23)) = g152 := tfa_i hf_472
                  have hf_474 : f462 (ρ h0 24) = .inl (κ 0, 400, .inl g155) := (k463 _ (tp_ne y9 y1 (by decide))).trans hf_458
                  have tf475 : mo_i (f462 (ρ h0 24)) = g155 := tfa_i hf_474
                  have hf_476 : f462 h0 = .inr (12, [.int o331_x0, .int o331_x1, .ref (ρ h0 2), .ref (ρ h0 3), .ref (ρ h0 4), .ref (ρ h0 5), .ref (ρ h0 6), .int o331_x7, .ref (ρ h0 8), .int 0, .int o331_x10, .int o331_x11, .int o331_x12, .long o331_x13, .int o331_x14, .int o331_x15, .int o331_x16, .int o331_x17, .int o331_x18, .int o331_x19, .int o331_x20, .ref (ρ h0 21), .int o331_x22, .ref (ρ h0 23), .ref (ρ h0 24), .int o331_x25, .ref (ρ h0 26), .ref (ρ h0 27), .int o331_x28, .int o331_x29, .ref (ρ h0 30), .ref (ρ h0 31), .int o331_x32, .long o331_x33, .long o331_x34, .long o331_x35, .int o331_x36, .int o331_x37, .int o331_x38, .ref (ρ h0 39), .ref (ρ h0 40), .ref (ρ h0 41), .ref (ρ h0 42), .ref (ρ h0 43), .ref (ρ h0 44), .ref (ρ h0 45), .ref (ρ h0 46), .int o331_x47, .int o331_x48, .ref (ρ h0 49), .ref (ρ h0 50), .ref (ρ h0 51), .ref (ρ h0 52)]) := (k463 _ (tp_ne ht_h0 y1 (by decide))).trans hf_452
                  have tf477 : tp_fld (f462 h0) 20 = o331_x20.toInt := tff_20 hf_476
                  exact ih411 _ _ _ _ (by rw [hn412]; omega) ⟨f462, z467, rfl, hT, hR, hf_476, hf_469, hf_472, hf_474, (by rw [g464, mo_i1]; exact hI), (by rw [g464, mo_i1]; omega), (by first | (simp only [tf470, tf473, tf475, tf477, g464, mo_i1, mo_l1]; exact (show mo_CC (mo_R g465) (2251 + 864 * n8) (mo_R g149) (mo_R g152) (mo_R g155) o331_x20.toInt (5 * o331_x20.toInt) (z467.toInt) from jf414.o (by omega) (by omega) (by omega) hU1 (by omega) (by omega) hU (by omega) (by omega) (by omega))) | (rw [tf470, tf473, tf475, tf477, g464]; exact (show mo_CC (mo_R g465) (2251 + 864 * n8) (mo_R g149) (mo_R g152) (mo_R g155) o331_x20.toInt (5 * o331_x20.toInt) (z467.toInt) from jf414.o (by omega) (by omega) (by omega) hU1 (by omega) (by omega) hU (by omega) (by omega) (by omega)))), (by omega), (by omega), hP, hD, hS, lv_sub hl [0, 1, 2] rfl⟩
              · have ic402 : w375.toInt < z401.toInt := zi_gef rfl rfl c402
                refine lv_aload_n hx hb dX12_contract_188 rfl (lv_at hl 2 rfl) ?_
                refine va_get (D := (dC, dI)) (ci := 12) (v := .ref (ρ h0 2)) (C := RX12) (T := TX12) (N := 53) hx hb hts hfX12 hown hK hP q400 eq400 rfl 2 (by decide) (hts (.fieldLink RX12 7 "ColdShipsModel" "row" "[I") wa_148) (fun _ h9 => h9) rfl dX12_contract_189 ?_
                refine lv_iload_n hx hb dX12_contract_192 rfl (lv_at hl 1 rfl) ?_
                refine lv_iconst (v := 4) hx hb dX12_contract_193 (by decide) ?_
                refine lv_iadd hx hb dX12_contract_194 ?_
                refine lv_topi (fun z478 ez478 => ?_)
                have iz478 : z478.toInt = z363.toInt + 4 := zi_add ez478 rfl rfl (by omega) (by omega)
                refine lv_iload_n hx hb dX12_contract_195 rfl (lv_at hl 0 rfl) ?_
                refine lv_iadd hx hb dX12_contract_196 ?_
                refine lv_topi (fun z479 ez479 => ?_)
                have iz479 : z479.toInt = z478.toInt + w375.toInt := zi_add ez479 rfl rfl (by omega) (by omega)
                refine lv_aload_n hx hb dX12_contract_197 rfl (lv_at hl 2 rfl) ?_
                refine va_get (D := (dC, dI)) (ci := 12) (v := .ref (ρ h0 21)) (C := RX12) (T := TX12) (N := 53) hx hb hts hfX12 hown hK hP q400 eq400 rfl 21 (by decide) (hts (.fieldLink RX12 34 "ColdShipsModel" "nClause" "[I") wa_156) (fun _ h9 => h9) rfl dX12_contract_198 ?_
                refine lv_iload_n hx hb dX12_contract_201 rfl (lv_at hl 0 rfl) ?_
                obtain ⟨q480, eq480⟩ := tp_pos (tp_in hG y7 (by decide)) hk381k
                refine va_iald hx hb hK hP q480 0 eq480 rfl (vp_in_iff.mpr ⟨by omega, by omega⟩) dX12_contract_202 ?_
                refine lv_topi (fun z481 ez481 => ?_)
                have jz481 : z481.toInt = mo_R g149 w375.toInt := mo_rd ez481 (by omega)
                obtain ⟨q482, eq482⟩ := tp_pos (tp_in hG y1 (by decide)) hf_o394
                refine va_iast hx hb hK hP hD hS q482 0 eq482 rfl (vp_in_iff.mpr ⟨by omega, by omega⟩) dX12_contract_203 (tp_k (.inl (κ 0, 12967, .inl (upd g395 z479.toNatClampNeg z481))) hD (tp_in hG y1 (by decide)) eq482 (fun f483 H locs hP hD hS g485 k484 => ?_))
                have hT := hT.up y1 g485 k484 tp_o32
                have hR := hR.up y1 (by decide) k484
                have hU : mo_U (mo_R g395) (mo_R (upd g395 z479.toNatClampNeg z481)) (2251 + 864 * n8 + 4 + w375.toInt) (z481.toInt) := mo_up (by omega) (rfl : z481.toInt = _) (by omega)
                generalize (upd g395 z479.toNatClampNeg z481) = g486 at g485 hU
                have hI := mo_w_con hI hU n8 (4 + w375.toInt) (by omega) (by omega) (by omega) (by omega)
                have pn487 : mo_R g486 (8) = n8 := (hU.ne (by omega) (by omega)).trans jf392
                obtain ⟨z488, ez488⟩ : ∃ y : Int32, y = w375 + 1 := ⟨_, rfl⟩
                refine lv_iinc (v := z488) (lv' := [(2, .int z488), (1, .int z363), (0, .ref h0)]) hx hb dX12_contract_204 hl (k := 0) rfl (by rw [ez488]; rfl) (by decide) rfl (fun ls hl => ?_)
                have iz488 : z488.toInt = w375.toInt + 1 := zi_add ez488 rfl rfl (by omega) (by omega)
                refine lv_goto (tgt := 178) hx hb dX12_contract_207 (by decide) ?_
                have hf_489 : f483 (ρ h0 21) = .inl (κ 0, 60, .inl g149) := (k484 _ (tp_ne y7 y1 (by decide))).trans hk381k
                have tf490 : mo_i (f483 (ρ h0 21)) = g149 := tfa_i hf_489
                have hf_491 : f483 (ρ h0 23) = .inl (κ 0, 400, .inl g152) := (k484 _ (tp_ne y8 y1 (by decide))).trans hk382k
                have tf492 : mo_i (f483 (ρ h0 23)) = g152 := tfa_i hf_491
                have hf_493 : f483 (ρ h0 24) = .inl (κ 0, 400, .inl g155) := (k484 _ (tp_ne y9 y1 (by decide))).trans hk383k
                have tf494 : mo_i (f483 (ρ h0 24)) = g155 := tfa_i hf_493
                have hf_495 : f483 h0 = .inr (12, [.int o331_x0, .int o331_x1, .ref (ρ h0 2), .ref (ρ h0 3), .ref (ρ h0 4), .ref (ρ h0 5), .ref (ρ h0 6), .int o331_x7, .ref (ρ h0 8), .int 0, .int o331_x10, .int o331_x11, .int o331_x12, .long o331_x13, .int o331_x14, .int o331_x15, .int o331_x16, .int o331_x17, .int o331_x18, .int o331_x19, .int o331_x20, .ref (ρ h0 21), .int o331_x22, .ref (ρ h0 23), .ref (ρ h0 24), .int o331_x25, .ref (ρ h0 26), .ref (ρ h0 27), .int o331_x28, .int o331_x29, .ref (ρ h0 30), .ref (ρ h0 31), .int o331_x32, .long o331_x33, .long o331_x34, .long o331_x35, .int o331_x36, .int o331_x37, .int o331_x38, .ref (ρ h0 39), .ref (ρ h0 40), .ref (ρ h0 41), .ref (ρ h0 42), .ref (ρ h0 43), .ref (ρ h0 44), .ref (ρ h0 45), .ref (ρ h0 46), .int o331_x47, .int o331_x48, .ref (ρ h0 49), .ref (ρ h0 50), .ref (ρ h0 51), .ref (ρ h0 52)]) := (k484 _ (tp_ne ht_h0 y1 (by decide))).trans hk380k
                have tf496 : tp_fld (f483 h0) 20 = o331_x20.toInt := tff_20 hf_495
                exact ih390 _ _ _ _ (by rw [hn391]; omega) ⟨f483, z488, rfl, hT, hR, hf_495, hf_489, hf_491, hf_493, (by rw [g485, mo_i1]; exact hI), (by rw [g485, mo_i1]; omega), (by first | (simp only [tf490, tf492, tf494, tf496, g485, mo_i1, mo_l1]; exact (show mo_CC (mo_R g486) (2251 + 864 * n8) (mo_R g149) (mo_R g152) (mo_R g155) o331_x20.toInt (z488.toInt) 0 from jf393.c (by omega) (by omega) hU (by omega) (by omega) (by omega))) | (rw [tf490, tf492, tf494, tf496, g485]; exact (show mo_CC (mo_R g486) (2251 + 864 * n8) (mo_R g149) (mo_R g152) (mo_R g155) o331_x20.toInt (z488.toInt) 0 from jf393.c (by omega) (by omega) hU (by omega) (by omega) (by omega)))), (by omega), (by omega), hP, hD, hS, lv_sub hl [0, 1, 2] rfl⟩
            · have ic348 : o331_x15.toInt ≠ 0 := zi_eqf rfl rfl c348
              refine lv_aload_n hx hb dX12_contract_132 rfl (lv_at hl 0 rfl) ?_
              refine lv_bipush (v := (-6)) hx hb dX12_contract_133 (by decide) ?_
              have hf_497 : f329 (ρ h0 2) = .inl (κ 0, 12967, .inl g27) := (hF330 _ (by rw [y1]; decide)).trans hk131k
              have hf_498 : f344 (ρ h0 2) = .inl (κ 0, 12967, .inl g27) := (k345 _ (tp_ne y1 ht_h0 (by decide))).trans hf_497
              have hFc := tp_fr hD hS hA
              refine va_calli (va_runV (As := [.int (-6)]) (rest := []) ⟨hx, hb, hml, hown, hts⟩ (t_X12_told l dC dI _ κ τ ν ρ L f344 hG hT h0 ((-6)) ht_h0) (cwV 1 hts gX12_contract_X12_told rfl rfl rfl ⟨rfl, pd_X12_told⟩ ⟨Nat.le_of_ble_eq_true rfl, Nat.le_of_ble_eq_true rfl⟩) ⟨pz_blind, va_recv hK hP (ci := 12) (q0 := q347) rfl eq347, pz_pre hP hK hD hN⟩ rfl rfl hl.1 rfl (lv_room (Nat.le_of_ble_eq_true rfl)) dX12_contract_135 ⟨Nat.le_of_ble_eq_true rfl, Nat.le_of_ble_eq_true rfl⟩) hS (fun q _ h => hFc q h) hFc (fun r499 f501 t H1 locs ht hvm hw500 hB hz1 hk1 hS => ?_)
              obtain ⟨hT, hF502, hw500r, hw500p⟩ := hw500
              have hR := hR.then hF502 (by decide)
              have hP := hB.1; rw [ht] at hP; have hD := tp_ad f501 hD; clear hB hFc hz1 hk1; subst ht; generalize t.heap = H at hP hS ⊢
              have hw500pq : r499.toInt = (-6) := by rw [hw500p]; rfl
              have hf_503 : f501 (ρ h0 2) = .inl (κ 0, 12967, .inl g27) := (hF502 _ (by rw [y1]; decide)).trans hf_498
              exact W.iret (v := r499) hx hb hr (fun t ht hW => ⟨⟨r499, f501, rfl, ⟨hT, hR, trivial, (by rw [hf_503, mo_i1]; exact hI)⟩, by rw [ht]; exact hP, va_K.moved hW.alike hK, hD⟩, hS.F ht⟩) hS.2.2 dX12_contract_138
      · have ic174 : r171.toInt ≠ 0 := zi_eqf rfl rfl c174
        refine lv_aload_n hx hb dX12_contract_90 rfl (lv_at hl 0 rfl) ?_
        have tf504 : tp_fld (f132 h0) 28 = o138_x28.toInt := tff_28 hf_o138
        have hFc := tp_fr hD hS hA
        refine va_callv (va_runV (As := []) (rest := []) ⟨hx, hb, hml, hown, hts⟩ (t_X12_next l dC dI _ κ τ ν ρ L f132 hG hT h0 ht_h0 (by first | (simp only [tf140, tf141, mo_i1, mo_l1]; exact (show o138_x11.toInt ≤ o138_x9.toInt from by first | omega | decide)) | (rw [tf140, tf141]; exact (show o138_x11.toInt ≤ o138_x9.toInt from by first | omega | decide)))) (cwV 0 hts gX12_contract_X12_next rfl rfl rfl ⟨rfl, pd_X12_next⟩ ⟨Nat.le_of_ble_eq_true rfl, Nat.le_of_ble_eq_true rfl⟩) ⟨pz_blind, va_recv hK hP (ci := 12) (q0 := q157) rfl eq157, pz_pre hP hK hD hN⟩ rfl rfl hl.1 rfl (lv_room (Nat.le_of_ble_eq_true rfl)) dX12_contract_91 ⟨Nat.le_of_ble_eq_true rfl, Nat.le_of_ble_eq_true rfl⟩) hS (fun q _ h => hFc q h) hFc (fun f507 t H1 locs ht hvm hw506 hB hz1 hk1 hS => ?_)
        obtain ⟨hT, hF508, hw506p⟩ := hw506
        have hR := hR.then hF508 (by decide)
        have hP := hB.1; rw [ht] at hP; have hD := tp_ad f507 hD; clear hB hFc hz1 hk1; subst ht; generalize t.heap = H at hP hS ⊢
        obtain ⟨o509_x0, o509_x1, o509_x7, o509_x9, o509_x10, o509_x11, o509_x12, o509_x13, o509_x14, o509_x15, o509_x16, o509_x17, o509_x18, o509_x19, o509_x20, o509_x22, o509_x25, o509_x28, o509_x29, o509_x32, o509_x33, o509_x34, o509_x35, o509_x36, o509_x37, o509_x38, o509_x47, o509_x48, hf_o509, ro509_0, ro509_1, ro509_2, ro509_3, ro509_4, ro509_5, ro509_6, ro509_7, ro509_8, ro509_9, ro509_10, ro509_11, ro509_12, ro509_13⟩ := tpo_13 hT ht_h0
        have tf510 : tp_fld (f507 h0) 10 = o509_x10.toInt := tff_10 hf_o509
        have tf511 : tp_fld (f507 h0) 11 = o509_x11.toInt := tff_11 hf_o509
        have tf512 : tp_fld (f507 h0) 9 = o509_x9.toInt := tff_9 hf_o509
        have tf513 : tp_fld (f507 h0) 12 = o509_x12.toInt := tff_12 hf_o509
        have tf514 : mo_fj (f507 h0) 13 = o509_x13.toInt := tff_13 hf_o509
        have tf515 : tp_fld (f507 h0) 15 = o509_x15.toInt := tff_15 hf_o509
        have tf516 : tp_fld (f507 h0) 19 = o509_x19.toInt := tff_19 hf_o509
        have tf517 : tp_fld (f507 h0) 20 = o509_x20.toInt := tff_20 hf_o509
        have tf518 : tp_fld (f507 h0) 22 = o509_x22.toInt := tff_22 hf_o509
        have tf519 : tp_fld (f507 h0) 28 = o509_x28.toInt := tff_28 hf_o509
        have tk520 : (o509_x10.toInt ≤ o509_x11.toInt ∧ o509_x11.toInt ≤ o509_x9.toInt ∧ (o509_x12.toInt = 0 ∨ o509_x10.toInt < o509_x11.toInt) ∧ (o509_x12.toInt = 1 → o509_x11.toInt = o509_x10.toInt + 1 → o509_x13.toInt ≤ 26)) ∧ o138_x11.toInt ≤ o509_x10.toInt ∧ o509_x9.toInt = o138_x9.toInt ∧ o509_x15.toInt = o138_x15.toInt ∧ o509_x19.toInt = o138_x19.toInt ∧ o509_x20.toInt = o138_x20.toInt ∧ o509_x22.toInt = o138_x22.toInt ∧ o509_x28.toInt = o138_x28.toInt := by have q9 := hw506p; first | (simp only [tf510, tf511, tf512, tf513, tf514, tf140, tf141, tf515, tf144, tf516, tf147, tf517, tf146, tf518, tf145, tf519, tf504, mo_i1, mo_l1] at q9; exact q9) | (rw [tf510, tf511, tf512, tf513, tf514, tf140, tf141, tf515, tf144, tf516, tf147, tf517, tf146, tf518, tf145, tf519, tf504] at q9; exact q9)
        refine lv_aload_n hx hb dX12_contract_94 rfl (lv_at hl 0 rfl) ?_
        have hf_521 : f507 (ρ h0 2) = .inl (κ 0, 12967, .inl g27) := (hF508 _ (by rw [y1]; decide)).trans hk131k
        have hf_522 : f507 (ρ h0 21) = .inl (κ 0, 60, .inl g149) := (hF508 _ (by rw [y7]; decide)).trans hf_o148
        have tf523 : mo_i (f507 (ρ h0 21)) = g149 := tfa_i hf_522
        have hf_524 : f507 (ρ h0 23) = .inl (κ 0, 400, .inl g152) := (hF508 _ (by rw [y8]; decide)).trans hf_o151
        have tf525 : mo_i (f507 (ρ h0 23)) = g152 := tfa_i hf_524
        have hf_526 : f507 (ρ h0 24) = .inl (κ 0, 400, .inl g155) := (hF508 _ (by rw [y9]; decide)).trans hf_o154
        have tf527 : mo_i (f507 (ρ h0 24)) = g155 := tfa_i hf_526
        obtain ⟨q528, eq528⟩ := tp_pos (tp_in hG ht_h0 (by decide)) hf_o509
        have hFc := tp_fr hD hS hA
        refine va_callv (va_runV (As := []) (rest := []) ⟨hx, hb, hml, hown, hts⟩ (t_X12_readClause l dC dI _ κ τ ν ρ L f507 hG hT h0 ht_h0 (by first | (simp only [tf510, tf511, tf512, tf513, tf514, mo_i1, mo_l1]; exact (show (o509_x10.toInt ≤ o509_x11.toInt ∧ o509_x11.toInt ≤ o509_x9.toInt ∧ (o509_x12.toInt = 0 ∨ o509_x10.toInt < o509_x11.toInt) ∧ (o509_x12.toInt = 1 → o509_x11.toInt = o509_x10.toInt + 1 → o509_x13.toInt ≤ 26)) from by first | omega | decide)) | (rw [tf510, tf511, tf512, tf513, tf514]; exact (show (o509_x10.toInt ≤ o509_x11.toInt ∧ o509_x11.toInt ≤ o509_x9.toInt ∧ (o509_x12.toInt = 0 ∨ o509_x10.toInt < o509_x11.toInt) ∧ (o509_x12.toInt = 1 → o509_x11.toInt = o509_x10.toInt + 1 → o509_x13.toInt ≤ 26)) from by first | omega | decide))) (by first | (simp only [tf515, mo_i1, mo_l1]; exact (show o509_x15.toInt = 0 from by first | omega | decide)) | (rw [tf515]; exact (show o509_x15.toInt = 0 from by first | omega | decide))) (by first | (simp only [tf518, tf510, mo_i1, mo_l1]; exact (show o509_x22.toInt ≤ o509_x10.toInt from by first | omega | decide)) | (rw [tf518, tf510]; exact (show o509_x22.toInt ≤ o509_x10.toInt from by first | omega | decide))) (by first | (simp only [tf517, tf516, mo_i1, mo_l1]; exact (show o509_x20.toInt ≤ o509_x19.toInt from by first | omega | decide)) | (rw [tf517, tf516]; exact (show o509_x20.toInt ≤ o509_x19.toInt from by first | omega | decide))) (by first | (simp only [tf523, tf525, tf527, tf517, tf518, mo_i1, mo_l1]; exact (show mo_NC (mo_R g149) (mo_R g152) (mo_R g155) o509_x20.toInt o509_x22.toInt from (by rw [show o509_x20.toInt = o138_x20.toInt by omega, show o509_x22.toInt = o138_x22.toInt by omega]; exact (jf137 (by omega)).2.2))) | (rw [tf523, tf525, tf527, tf517, tf518]; exact (show mo_NC (mo_R g149) (mo_R g152) (mo_R g155) o509_x20.toInt o509_x22.toInt from (by rw [show o509_x20.toInt = o138_x20.toInt by omega, show o509_x22.toInt = o138_x22.toInt by omega]; exact (jf137 (by omega)).2.2))))) (cwV 0 hts gX12_contract_X12_readClause rfl rfl rfl ⟨rfl, pd_X12_readClause⟩ ⟨Nat.le_of_ble_eq_true rfl, Nat.le_of_ble_eq_true rfl⟩) ⟨pz_blind, va_recv hK hP (ci := 12) (q0 := q528) rfl eq528, pz_pre hP hK hD hN⟩ rfl rfl hl.1 rfl (lv_room (Nat.le_of_ble_eq_true rfl)) dX12_contract_95 ⟨Nat.le_of_ble_eq_true rfl, Nat.le_of_ble_eq_true rfl⟩) hS (fun q _ h => hFc q h) hFc (fun f531 t H1 locs ht hvm hw530 hB hz1 hk1 hS => ?_)
        obtain ⟨hT, hF532, hw530p⟩ := hw530
        have hR := hR.then hF532 (by decide)
        have hP := hB.1; rw [ht] at hP; have hD := tp_ad f531 hD; clear hB hFc hz1 hk1; subst ht; generalize t.heap = H at hP hS ⊢
        obtain ⟨o533_x0, o533_x1, o533_x7, o533_x9, o533_x10, o533_x11, o533_x12, o533_x13, o533_x14, o533_x15, o533_x16, o533_x17, o533_x18, o533_x19, o533_x20, o533_x22, o533_x25, o533_x28, o533_x29, o533_x32, o533_x33, o533_x34, o533_x35, o533_x36, o533_x37, o533_x38, o533_x47, o533_x48, hf_o533, ro533_0, ro533_1, ro533_2, ro533_3, ro533_4, ro533_5, ro533_6, ro533_7, ro533_8, ro533_9, ro533_10, ro533_11, ro533_12, ro533_13⟩ := tpo_13 hT ht_h0
        have tf534 : tp_fld (f531 h0) 10 = o533_x10.toInt := tff_10 hf_o533
        have tf535 : tp_fld (f531 h0) 11 = o533_x11.toInt := tff_11 hf_o533
        have tf536 : tp_fld (f531 h0) 9 = o533_x9.toInt := tff_9 hf_o533
        have tf537 : tp_fld (f531 h0) 12 = o533_x12.toInt := tff_12 hf_o533
        have tf538 : mo_fj (f531 h0) 13 = o533_x13.toInt := tff_13 hf_o533
        have tf539 : tp_fld (f531 h0) 15 = o533_x15.toInt := tff_15 hf_o533
        have tf540 : tp_fld (f531 h0) 22 = o533_x22.toInt := tff_22 hf_o533
        have tf541 : tp_fld (f531 h0) 20 = o533_x20.toInt := tff_20 hf_o533
        have tf542 : tp_fld (f531 h0) 19 = o533_x19.toInt := tff_19 hf_o533
        obtain ⟨g544, hf_o543⟩ := tpo_51 hT y7
        have tf545 : mo_i (f531 (ρ h0 21)) = g544 := tfa_i hf_o543
        obtain ⟨g547, hf_o546⟩ := tpo_53 hT y8
        have tf548 : mo_i (f531 (ρ h0 23)) = g547 := tfa_i hf_o546
        obtain ⟨g550, hf_o549⟩ := tpo_54 hT y9
        have tf551 : mo_i (f531 (ρ h0 24)) = g550 := tfa_i hf_o549
        have tk552 : (o533_x10.toInt ≤ o533_x11.toInt ∧ o533_x11.toInt ≤ o533_x9.toInt ∧ (o533_x12.toInt = 0 ∨ o533_x10.toInt < o533_x11.toInt) ∧ (o533_x12.toInt = 1 → o533_x11.toInt = o533_x10.toInt + 1 → o533_x13.toInt ≤ 26)) ∧ (o533_x15.toInt = 0 → o533_x22.toInt ≤ o533_x10.toInt ∧ o533_x20.toInt ≤ o533_x19.toInt ∧ mo_NC (mo_R g544) (mo_R g547) (mo_R g550) o533_x20.toInt o533_x22.toInt) ∧ o533_x9.toInt = o509_x9.toInt := by have q9 := hw530p; first | (simp only [tf534, tf535, tf536, tf537, tf538, tf539, tf540, tf541, tf542, tf545, tf548, tf551, tf512, mo_i1, mo_l1] at q9; exact q9) | (rw [tf534, tf535, tf536, tf537, tf538, tf539, tf540, tf541, tf542, tf545, tf548, tf551, tf512] at q9; exact q9)
        refine lv_goto (tgt := 74) hx hb dX12_contract_98 (by decide) ?_
        have hf_553 : f531 (ρ h0 2) = .inl (κ 0, 12967, .inl g27) := (hF532 _ (by rw [y1]; decide)).trans hf_521
        exact ih134 _ _ _ _ (by rw [hn135]; first | (simp only [tf534, tf539, mo_i1, mo_l1]; exact (show (2010 - 5 * o533_x10.toInt - 3000 * o533_x15.toInt).toNat < (2010 - 5 * o138_x10.toInt - 3000 * o138_x15.toInt).toNat from by omega)) | (rw [tf534, tf539]; exact (show (2010 - 5 * o533_x10.toInt - 3000 * o533_x15.toInt).toNat < (2010 - 5 * o138_x10.toInt - 3000 * o138_x15.toInt).toNat from by omega))) ⟨f531, rfl, hT, hR, hf_553, (by first | (simp only [tf534, tf535, tf536, tf537, tf538, mo_i1, mo_l1]; exact (show (o533_x10.toInt ≤ o533_x11.toInt ∧ o533_x11.toInt ≤ o533_x9.toInt ∧ (o533_x12.toInt = 0 ∨ o533_x10.toInt < o533_x11.toInt) ∧ (o533_x12.toInt = 1 → o533_x11.toInt = o533_x10.toInt + 1 → o533_x13.toInt ≤ 26)) from by first | omega | decide)) | (rw [tf534, tf535, tf536, tf537, tf538]; exact (show (o533_x10.toInt ≤ o533_x11.toInt ∧ o533_x11.toInt ≤ o533_x9.toInt ∧ (o533_x12.toInt = 0 ∨ o533_x10.toInt < o533_x11.toInt) ∧ (o533_x12.toInt = 1 → o533_x11.toInt = o533_x10.toInt + 1 → o533_x13.toInt ≤ 26)) from by first | omega | decide))), (by first | (simp only [tf539, tf540, tf534, tf541, tf542, tf545, tf548, tf551, mo_i1, mo_l1]; exact (show (o533_x15.toInt = 0 → o533_x22.toInt ≤ o533_x10.toInt ∧ o533_x20.toInt ≤ o533_x19.toInt ∧ mo_NC (mo_R g544) (mo_R g547) (mo_R g550) o533_x20.toInt o533_x22.toInt) from tk552.2.1)) | (rw [tf539, tf540, tf534, tf541, tf542, tf545, tf548, tf551]; exact (show (o533_x15.toInt = 0 → o533_x22.toInt ≤ o533_x10.toInt ∧ o533_x20.toInt ≤ o533_x19.toInt ∧ mo_NC (mo_R g544) (mo_R g547) (mo_R g550) o533_x20.toInt o533_x22.toInt) from tk552.2.1))), hP, hD, hS, lv_sub hl [0] rfl⟩
  · have ic37 : z36.toInt = 12 := zi_nef rfl rfl c37
    refine lv_aload_n hx hb dX12_contract_17 rfl (lv_at hl 0 rfl) ?_
    refine lv_iconst (v := 0) hx hb dX12_contract_18 (by decide) ?_
    refine va_put (D := (dC, dI)) (ci := 12) (v := .int 0) (ty := .int) (C := RX12) (T := TX12) (N := 53) hx hb hts hfX12 tyX12 tyX12_ok nmX12 hown hK hP hD hS q33 eq33 rfl 9 (by decide) (hts (.fieldLink RX12 252 "ColdShipsModel" "taped" "I") wa_774) (fun _ h9 => h9) rfl (tyX12_ok 9 (by decide)) rfl rfl (Nat.le_of_ble_eq_true rfl) dX12_contract_19 (tp_k (.inr (12, [.int 0, .int o28_x1, .ref (ρ h0 2), .ref (ρ h0 3), .ref (ρ h0 4), .ref (ρ h0 5), .ref (ρ h0 6), .int o28_x7, .ref (ρ h0 8), .int 0, .int o28_x10, .int o28_x11, .int o28_x12, .long o28_x13, .int o28_x14, .int o28_x15, .int o28_x16, .int o28_x17, .int o28_x18, .int o28_x19, .int o28_x20, .ref (ρ h0 21), .int o28_x22, .ref (ρ h0 23), .ref (ρ h0 24), .int o28_x25, .ref (ρ h0 26), .ref (ρ h0 27), .int o28_x28, .int o28_x29, .ref (ρ h0 30), .ref (ρ h0 31), .int o28_x32, .long o28_x33, .long o28_x34, .long o28_x35, .int o28_x36, .int o28_x37, .int o28_x38, .ref (ρ h0 39), .ref (ρ h0 40), .ref (ρ h0 41), .ref (ρ h0 42), .ref (ρ h0 43), .ref (ρ h0 44), .ref (ρ h0 45), .ref (ρ h0 46), .int o28_x47, .int o28_x48, .ref (ρ h0 49), .ref (ρ h0 50), .ref (ρ h0 51), .ref (ρ h0 52)])) hD (tp_in hG ht_h0 (by decide)) eq33 (fun f554 H locs hP hD hS g556 k555 => ?_))
    have hT := hT.up ht_h0 g556 k555 ⟨_, _, _, _, _, _, _, _, _, _, _, _, _, _, _, _, _, _, _, _, _, _, _, _, _, _, _, _, rfl, ro28_0, (by decide), ro28_2, ro28_3, ro28_4, ro28_5, ro28_6, ro28_7, ro28_8, ro28_9, ro28_10, ro28_11, ro28_12, ro28_13⟩
    have hR := hR.up ht_h0 (by decide) k555
    refine lv_aload_n hx hb dX12_contract_22 rfl (lv_at hl 0 rfl) ?_
    refine lv_bipush (v := (-5)) hx hb dX12_contract_23 (by decide) ?_
    have hf_557 : f554 (ρ h0 2) = .inl (κ 0, 12967, .inl g27) := (k555 _ (tp_ne y1 ht_h0 (by decide))).trans hf_34
    obtain ⟨q558, eq558⟩ := tp_pos (tp_in hG ht_h0 (by decide)) g556
    have hFc := tp_fr hD hS hA
    refine va_calli (va_runV (As := [.int (-5)]) (rest := []) ⟨hx, hb, hml, hown, hts⟩ (t_X12_told l dC dI _ κ τ ν ρ L f554 hG hT h0 ((-5)) ht_h0) (cwV 1 hts gX12_contract_X12_told rfl rfl rfl ⟨rfl, pd_X12_told⟩ ⟨Nat.le_of_ble_eq_true rfl, Nat.le_of_ble_eq_true rfl⟩) ⟨pz_blind, va_recv hK hP (ci := 12) (q0 := q558) rfl eq558, pz_pre hP hK hD hN⟩ rfl rfl hl.1 rfl (lv_room (Nat.le_of_ble_eq_true rfl)) dX12_contract_25 ⟨Nat.le_of_ble_eq_true rfl, Nat.le_of_ble_eq_true rfl⟩) hS (fun q _ h => hFc q h) hFc (fun r559 f561 t H1 locs ht hvm hw560 hB hz1 hk1 hS => ?_)
    obtain ⟨hT, hF562, hw560r, hw560p⟩ := hw560
    have hR := hR.then hF562 (by decide)
    have hP := hB.1; rw [ht] at hP; have hD := tp_ad f561 hD; clear hB hFc hz1 hk1; subst ht; generalize t.heap = H at hP hS ⊢
    have hw560pq : r559.toInt = (-5) := by rw [hw560p]; rfl
    have hf_563 : f561 (ρ h0 2) = .inl (κ 0, 12967, .inl g27) := (hF562 _ (by rw [y1]; decide)).trans hf_557
    exact W.iret (v := r559) hx hb hr (fun t ht hW => ⟨⟨r559, f561, rfl, ⟨hT, hR, trivial, (by rw [hf_563, mo_i1]; exact hI)⟩, by rw [ht]; exact hP, va_K.moved hW.alike hK, hD⟩, hS.F ht⟩) hS.2.2 dX12_contract_28

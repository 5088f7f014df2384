set_option maxHeartbeats 4000000 in
set_option maxRecDepth 100000 in
theorem t_X12_contract (l : Launch) (dC : Nat → ClassId) (dI : Nat → Nat → Nat) (sz : Nat) (κ : Nat → ClassId) (τ ν : Nat → Nat) (ρ : Nat → Nat → Nat) (L : List Nat) (f : Nat → va_E) (hG : tp_G τ ν ρ L) (hT : tp_T (mo_O κ) κ τ ν ρ f) (h0 : Nat) (ht_h0 : τ h0 = 13) (hJ : mo_RI (-1) 0 (mo_R (mo_i (f (ρ h0 2))))) : Met l yX12_contract wqX12_contract ({ frames := 10, cells := 0, slots := 0, locals := 3600 }) (va_Pc [.ref h0] (pz_B dC dI (tp_K κ) (va_pl L f) sz)) (va_Qi (fun (r : Int32) (f1 : Nat → va_E) => tp_T (mo_O κ) κ τ ν ρ f1 ∧ tp_F τ [13, 32, 51, 53, 54, 56, 57] f f1 ∧ True ∧ mo_RI (-1) 0 (mo_R (mo_i (f1 (ρ h0 2))))) (fun (f1 : Nat → va_E) (t : State) => pz_E dC dI (tp_K κ) (va_A (va_pl L f) sz) (va_pl L f1) t) (va_A (va_pl L f) sz)) 0 0 (va_A (va_pl L f) sz) := by
  refine Met.ofW (cc := cX12_contract) (maxL := 3) (ret := some .int) (by decide) rfl ?_
  intro p e s m args below meth c s₁ B hml hv
  obtain ⟨rfl, hsz, hP, hK, hD0, hN⟩ := hv
  have hx := B.exec
  have hb := B.bytes
  have hr := B.returns
  have hts := fun (w : Cond) (h : w ∈ WALL) => atoms_spec (ws := wqX12_contract) B.pre w (List.mem_cons_of_mem _ h)
  have hown : s.vm.findClass RX12 = some m.cls := findClass_of_methodNamed B.named
  have hlocks := B.notSynchronized
  subst hsz
  have hD := hD0.self (sz := s.heap.size)
  generalize hAe : va_A (va_pl L f) s.heap.size = A at hD ⊢
  have hA : ∀ q : Nat, s.heap.size ≤ q → A q := fun q h => by rw [← hAe]; exact Or.inr h
  have hS : va_S A s.heap s.heap [] := va_S.rf
  have hR : tp_F τ [13, 32, 51, 53, 54, 56, 57] f f := tp_F.rf
  have hl := lv_entry ([.ref h0]) (n := 3) (Nat.le_of_ble_eq_true rfl)
  rw [lg_entry_eq]
  generalize (lg_sl ([.ref h0]) ++ List.replicate (3 - (lg_sl ([.ref h0])).length) Slot.unset).toArray = ls at hl ⊢
  have hl : lv_has ls 3 [(0, .ref h0)] := hl
  obtain ⟨y1, y2, y3, y4, y5, y6, y7, y8, y9, y10, y11, y12, y13, y14, y15, y16, y17, y18, y19, y20, y21, y22, y23, y24, y25⟩ := tpg_13 hG ht_h0
  obtain ⟨g27, hf_o26⟩ := tpo_32 hT y1
  have hI : mo_RI (-1) 0 (mo_R g27) := by have q9 := hJ; rw [hf_o26, mo_i1] at q9; exact q9
  obtain ⟨n8, en8⟩ : ∃ n : Int, n = mo_R g27 (8) := ⟨_, rfl⟩
  have kn8 := hI.k8
  refine lv_aload_n hx hb dX12_contract_0 rfl (lv_at hl 0 rfl) ?_
  refine lv_iconst (v := 0) hx hb dX12_contract_1 (by decide) ?_
  obtain ⟨o28_x0, o28_x1, o28_x7, o28_x9, o28_x10, o28_x11, o28_x12, o28_x13, o28_x14, o28_x15, o28_x16, o28_x17, o28_x18, o28_x19, o28_x20, o28_x22, o28_x25, o28_x28, o28_x29, o28_x32, o28_x33, o28_x34, o28_x35, o28_x36, o28_x37, o28_x38, o28_x47, o28_x48, hf_o28, ro28_0, ro28_1, ro28_2, ro28_3, ro28_4, ro28_5, ro28_6, ro28_7, ro28_8, ro28_9, ro28_10, ro28_11, ro28_12, ro28_13⟩ := tpo_13 hT ht_h0
  obtain ⟨q29, eq29⟩ := tp_pos (tp_in hG ht_h0 (by decide)) hf_o28
  refine va_put (D := (dC, dI)) (ci := 12) (v := .int 0) (ty := .int) (C := RX12) (T := TX12) (N := 53) hx hb hts hfX12 tyX12 tyX12_ok nmX12 hown hK hP hD hS q29 eq29 rfl 0 (by decide) (hts (.fieldLink RX12 91 "ColdShipsModel" "thrown" "I") wa_209) (fun _ h9 => h9) rfl (tyX12_ok 0 (by decide)) rfl rfl (Nat.le_of_ble_eq_true rfl) dX12_contract_2 (tp_k (.inr (12, [.int 0, .int o28_x1, .ref (ρ h0 2), .ref (ρ h0 3), .ref (ρ h0 4), .ref (ρ h0 5), .ref (ρ h0 6), .int o28_x7, .ref (ρ h0 8), .int o28_x9, .int o28_x10, .int o28_x11, .int o28_x12, .long o28_x13, .int o28_x14, .int o28_x15, .int o28_x16, .int o28_x17, .int o28_x18, .int o28_x19, .int o28_x20, .ref (ρ h0 21), .int o28_x22, .ref (ρ h0 23), .ref (ρ h0 24), .int o28_x25, .ref (ρ h0 26), .ref (ρ h0 27), .int o28_x28, .int o28_x29, .ref (ρ h0 30), .ref (ρ h0 31), .int o28_x32, .long o28_x33, .long o28_x34, .long o28_x35, .int o28_x36, .int o28_x37, .int o28_x38, .ref (ρ h0 39), .ref (ρ h0 40), .ref (ρ h0 41), .ref (ρ h0 42), .ref (ρ h0 43), .ref (ρ h0 44), .ref (ρ h0 45), .ref (ρ h0 46), .int o28_x47, .int o28_x48, .ref (ρ h0 49), .ref (ρ h0 50), .ref (ρ h0 51), .ref (ρ h0 52)])) hD (tp_in hG ht_h0 (by decide)) eq29 (fun f30 H locs hP hD hS g32 k31 => ?_))
  have hT := hT.up ht_h0 g32 k31 ⟨_, _, _, _, _, _, _, _, _, _, _, _, _, _, _, _, _, _, _, _, _, _, _, _, _, _, _, _, rfl, ro28_0, ro28_1, ro28_2, ro28_3, ro28_4, ro28_5, ro28_6, ro28_7, ro28_8, ro28_9, ro28_10, ro28_11, ro28_12, ro28_13⟩
  have hR := hR.up ht_h0 (by decide) k31
  refine lv_aload_n hx hb dX12_contract_5 rfl (lv_at hl 0 rfl) ?_
  obtain ⟨q33, eq33⟩ := tp_pos (tp_in hG ht_h0 (by decide)) g32
  refine va_get (D := (dC, dI)) (ci := 12) (v := .ref (ρ h0 2)) (C := RX12) (T := TX12) (N := 53) hx hb hts hfX12 hown hK hP q33 eq33 rfl 2 (by decide) (hts (.fieldLink RX12 7 "ColdShipsModel" "row" "[I") wa_148) (fun _ h9 => h9) rfl dX12_contract_6 ?_
  refine lv_bipush (v := 8) hx hb dX12_contract_9 (by decide) ?_
  have hf_34 : f30 (ρ h0 2) = .inl (κ 0, 12967, .inl g27) := (k31 _ (tp_ne y1 ht_h0 (by decide))).trans hf_o26
  obtain ⟨q35, eq35⟩ := tp_pos (tp_in hG y1 (by decide)) hf_34
  refine va_iald hx hb hK hP q35 0 eq35 rfl (vp_in_iff.mpr ⟨by decide, by decide⟩) dX12_contract_11 ?_
  refine lv_topi (fun z36 ez36 => ?_)
  have jz36 : z36.toInt = mo_R g27 (8) := mo_rd ez36 (show (8 : Int32).toInt = (8) from by decide)
  have kz36 := hI.k8
  refine lv_bipush (v := 12) hx hb dX12_contract_12 (by decide) ?_
  refine lv_icmp_ne (tgt := 29) hx hb dX12_contract_14 (by decide) (fun c37 => ?_) (fun c37 => ?_)
  · have ic37 : z36.toInt ≠ 12 := zi_ne rfl rfl c37
    refine lv_aload_n hx hb dX12_contract_29 rfl (lv_at hl 0 rfl) ?_
    have hFc := tp_fr hD hS hA
    refine va_callv (va_runV (As := []) (rest := []) ⟨hx, hb, hml, hown, hts⟩ (t_X12_begin l dC dI _ κ τ ν ρ L f30 hG hT h0 ht_h0) (cwV 0 hts gX12_contract_X12_begin rfl rfl rfl ⟨rfl, pd_X12_begin⟩ ⟨Nat.le_of_ble_eq_true rfl, Nat.le_of_ble_eq_true rfl⟩) ⟨pz_blind, va_recv hK hP (ci := 12) (q0 := q33) rfl eq33, pz_pre hP hK hD hN⟩ rfl rfl hl.1 rfl (lv_room (Nat.le_of_ble_eq_true rfl)) dX12_contract_30 ⟨Nat.le_of_ble_eq_true rfl, Nat.le_of_ble_eq_true rfl⟩) hS (fun q _ h => hFc q h) hFc (fun f40 t H1 locs ht hvm hw39 hB hz1 hk1 hS => ?_)
    obtain ⟨hT, hF41, hw39p⟩ := hw39
    have hR := hR.then hF41 (by decide)
    have hP := hB.1; rw [ht] at hP; have hD := tp_ad f40 hD; clear hB hFc hz1 hk1; subst ht; generalize t.heap = H at hP hS ⊢
    obtain ⟨o42_x0, o42_x1, o42_x7, o42_x9, o42_x10, o42_x11, o42_x12, o42_x13, o42_x14, o42_x15, o42_x16, o42_x17, o42_x18, o42_x19, o42_x20, o42_x22, o42_x25, o42_x28, o42_x29, o42_x32, o42_x33, o42_x34, o42_x35, o42_x36, o42_x37, o42_x38, o42_x47, o42_x48, hf_o42, ro42_0, ro42_1, ro42_2, ro42_3, ro42_4, ro42_5, ro42_6, ro42_7, ro42_8, ro42_9, ro42_10, ro42_11, ro42_12, ro42_13⟩ := tpo_13 hT ht_h0
    have tk43 : (o42_x10.toInt ≤ o42_x11.toInt ∧ o42_x11.toInt ≤ o42_x9.toInt ∧ (o42_x12.toInt = 0 ∨ o42_x10.toInt < o42_x11.toInt) ∧ (o42_x12.toInt = 1 → o42_x11.toInt = o42_x10.toInt + 1 → o42_x13.toInt ≤ 26)) ∧ o42_x15.toInt = 0 ∧ 0 ≤ o42_x10.toInt ∧ o42_x9.toInt = o28_x9.toInt := by have q9 := hw39p; simp only [hf_o42, g32, mo_i1, mo_l1] at q9; exact q9
    refine lv_aload_n hx hb dX12_contract_33 rfl (lv_at hl 0 rfl) ?_
    refine lv_iconst (v := 0) hx hb dX12_contract_34 (by decide) ?_
    obtain ⟨q44, eq44⟩ := tp_pos (tp_in hG ht_h0 (by decide)) hf_o42
    refine va_put (D := (dC, dI)) (ci := 12) (v := .int 0) (ty := .int) (C := RX12) (T := TX12) (N := 53) hx hb hts hfX12 tyX12 tyX12_ok nmX12 hown hK hP hD hS q44 eq44 rfl 19 (by decide) (hts (.fieldLink RX12 391 "ColdShipsModel" "nClauses" "I") wa_987) (fun _ h9 => h9) rfl (tyX12_ok 19 (by decide)) rfl rfl (Nat.le_of_ble_eq_true rfl) dX12_contract_35 (tp_k (.inr (12, [.int o42_x0, .int o42_x1, .ref (ρ h0 2), .ref (ρ h0 3), .ref (ρ h0 4), .ref (ρ h0 5), .ref (ρ h0 6), .int o42_x7, .ref (ρ h0 8), .int o42_x9, .int o42_x10, .int o42_x11, .int o42_x12, .long o42_x13, .int o42_x14, .int o42_x15, .int o42_x16, .int o42_x17, .int o42_x18, .int 0, .int o42_x20, .ref (ρ h0 21), .int o42_x22, .ref (ρ h0 23), .ref (ρ h0 24), .int o42_x25, .ref (ρ h0 26), .ref (ρ h0 27), .int o42_x28, .int o42_x29, .ref (ρ h0 30), .ref (ρ h0 31), .int o42_x32, .long o42_x33, .long o42_x34, .long o42_x35, .int o42_x36, .int o42_x37, .int o42_x38, .ref (ρ h0 39), .ref (ρ h0 40), .ref (ρ h0 41), .ref (ρ h0 42), .ref (ρ h0 43), .ref (ρ h0 44), .ref (ρ h0 45), .ref (ρ h0 46), .int o42_x47, .int o42_x48, .ref (ρ h0 49), .ref (ρ h0 50), .ref (ρ h0 51), .ref (ρ h0 52)])) hD (tp_in hG ht_h0 (by decide)) eq44 (fun f45 H locs hP hD hS g47 k46 => ?_))
    have hT := hT.up ht_h0 g47 k46 ⟨_, _, _, _, _, _, _, _, _, _, _, _, _, _, _, _, _, _, _, _, _, _, _, _, _, _, _, _, rfl, ro42_0, ro42_1, ro42_2, ro42_3, ro42_4, ro42_5, (by decide), ro42_7, ro42_8, ro42_9, ro42_10, ro42_11, ro42_12, ro42_13⟩
    have hR := hR.up ht_h0 (by decide) k46
    refine lv_aload_n hx hb dX12_contract_38 rfl (lv_at hl 0 rfl) ?_
    refine lv_iconst (v := 0) hx hb dX12_contract_39 (by decide) ?_
    obtain ⟨q48, eq48⟩ := tp_pos (tp_in hG ht_h0 (by decide)) g47
    refine va_put (D := (dC, dI)) (ci := 12) (v := .int 0) (ty := .int) (C := RX12) (T := TX12) (N := 53) hx hb hts hfX12 tyX12 tyX12_ok nmX12 hown hK hP hD hS q48 eq48 rfl 20 (by decide) (hts (.fieldLink RX12 411 "ColdShipsModel" "nPays" "I") wa_988) (fun _ h9 => h9) rfl (tyX12_ok 20 (by decide)) rfl rfl (Nat.le_of_ble_eq_true rfl) dX12_contract_40 (tp_k (.inr (12, [.int o42_x0, .int o42_x1, .ref (ρ h0 2), .ref (ρ h0 3), .ref (ρ h0 4), .ref (ρ h0 5), .ref (ρ h0 6), .int o42_x7, .ref (ρ h0 8), .int o42_x9, .int o42_x10, .int o42_x11, .int o42_x12, .long o42_x13, .int o42_x14, .int o42_x15, .int o42_x16, .int o42_x17, .int o42_x18, .int 0, .int 0, .ref (ρ h0 21), .int o42_x22, .ref (ρ h0 23), .ref (ρ h0 24), .int o42_x25, .ref (ρ h0 26), .ref (ρ h0 27), .int o42_x28, .int o42_x29, .ref (ρ h0 30), .ref (ρ h0 31), .int o42_x32, .long o42_x33, .long o42_x34, .long o42_x35, .int o42_x36, .int o42_x37, .int o42_x38, .ref (ρ h0 39), .ref (ρ h0 40), .ref (ρ h0 41), .ref (ρ h0 42), .ref (ρ h0 43), .ref (ρ h0 44), .ref (ρ h0 45), .ref (ρ h0 46), .int o42_x47, .int o42_x48, .ref (ρ h0 49), .ref (ρ h0 50), .ref (ρ h0 51), .ref (ρ h0 52)])) hD (tp_in hG ht_h0 (by decide)) eq48 (fun f49 H locs hP hD hS g51 k50 => ?_))
    have hT := hT.up ht_h0 g51 k50 ⟨_, _, _, _, _, _, _, _, _, _, _, _, _, _, _, _, _, _, _, _, _, _, _, _, _, _, _, _, rfl, ro42_0, ro42_1, ro42_2, ro42_3, ro42_4, ro42_5, (by decide), (by decide), ro42_8, ro42_9, ro42_10, ro42_11, ro42_12, ro42_13⟩
    have hR := hR.up ht_h0 (by decide) k50
    refine lv_aload_n hx hb dX12_contract_43 rfl (lv_at hl 0 rfl) ?_
    refine lv_iconst (v := 0) hx hb dX12_contract_44 (by decide) ?_
    obtain ⟨q52, eq52⟩ := tp_pos (tp_in hG ht_h0 (by decide)) g51
    refine va_put (D := (dC, dI)) (ci := 12) (v := .int 0) (ty := .int) (C := RX12) (T := TX12) (N := 53) hx hb hts hfX12 tyX12 tyX12_ok nmX12 hown hK hP hD hS q52 eq52 rfl 22 (by decide) (hts (.fieldLink RX12 297 "ColdShipsModel" "nCode" "I") wa_989) (fun _ h9 => h9) rfl (tyX12_ok 22 (by decide)) rfl rfl (Nat.le_of_ble_eq_true rfl) dX12_contract_45 (tp_k (.inr (12, [.int o42_x0, .int o42_x1, .ref (ρ h0 2), .ref (ρ h0 3), .ref (ρ h0 4), .ref (ρ h0 5), .ref (ρ h0 6), .int o42_x7, .ref (ρ h0 8), .int o42_x9, .int o42_x10, .int o42_x11, .int o42_x12, .long o42_x13, .int o42_x14, .int o42_x15, .int o42_x16, .int o42_x17, .int o42_x18, .int 0, .int 0, .ref (ρ h0 21), .int 0, .ref (ρ h0 23), .ref (ρ h0 24), .int o42_x25, .ref (ρ h0 26), .ref (ρ h0 27), .int o42_x28, .int o42_x29, .ref (ρ h0 30), .ref (ρ h0 31), .int o42_x32, .long o42_x33, .long o42_x34, .long o42_x35, .int o42_x36, .int o42_x37, .int o42_x38, .ref (ρ h0 39), .ref (ρ h0 40), .ref (ρ h0 41), .ref (ρ h0 42), .ref (ρ h0 43), .ref (ρ h0 44), .ref (ρ h0 45), .ref (ρ h0 46), .int o42_x47, .int o42_x48, .ref (ρ h0 49), .ref (ρ h0 50), .ref (ρ h0 51), .ref (ρ h0 52)])) hD (tp_in hG ht_h0 (by decide)) eq52 (fun f53 H locs hP hD hS g55 k54 => ?_))
    have hT := hT.up ht_h0 g55 k54 ⟨_, _, _, _, _, _, _, _, _, _, _, _, _, _, _, _, _, _, _, _, _, _, _, _, _, _, _, _, rfl, ro42_0, ro42_1, ro42_2, ro42_3, ro42_4, ro42_5, (by decide), (by decide), (by decide), ro42_9, ro42_10, ro42_11, ro42_12, ro42_13⟩
    have hR := hR.up ht_h0 (by decide) k54
    refine lv_aload_n hx hb dX12_contract_48 rfl (lv_at hl 0 rfl) ?_
    refine lv_iconst (v := 0) hx hb dX12_contract_49 (by decide) ?_
    obtain ⟨q56, eq56⟩ := tp_pos (tp_in hG ht_h0 (by decide)) g55
    refine va_put (D := (dC, dI)) (ci := 12) (v := .int 0) (ty := .int) (C := RX12) (T := TX12) (N := 53) hx hb hts hfX12 tyX12 tyX12_ok nmX12 hown hK hP hD hS q56 eq56 rfl 25 (by decide) (hts (.fieldLink RX12 351 "ColdShipsModel" "nLeaves" "I") wa_990) (fun _ h9 => h9) rfl (tyX12_ok 25 (by decide)) rfl rfl (Nat.le_of_ble_eq_true rfl) dX12_contract_50 (tp_k (.inr (12, [.int o42_x0, .int o42_x1, .ref (ρ h0 2), .ref (ρ h0 3), .ref (ρ h0 4), .ref (ρ h0 5), .ref (ρ h0 6), .int o42_x7, .ref (ρ h0 8), .int o42_x9, .int o42_x10, .int o42_x11, .int o42_x12, .long o42_x13, .int o42_x14, .int o42_x15, .int o42_x16, .int o42_x17, .int o42_x18, .int 0, .int 0, .ref (ρ h0 21), .int 0, .ref (ρ h0 23), .ref (ρ h0 24), .int 0, .ref (ρ h0 26), .ref (ρ h0 27), .int o42_x28, .int o42_x29, .ref (ρ h0 30), .ref (ρ h0 31), .int o42_x32, .long o42_x33, .long o42_x34, .long o42_x35, .int o42_x36, .int o42_x37, .int o42_x38, .ref (ρ h0 39), .ref (ρ h0 40), .ref (ρ h0 41), .ref (ρ h0 42), .ref (ρ h0 43), .ref (ρ h0 44), .ref (ρ h0 45), .ref (ρ h0 46), .int o42_x47, .int o42_x48, .ref (ρ h0 49), .ref (ρ h0 50), .ref (ρ h0 51), .ref (ρ h0 52)])) hD (tp_in hG ht_h0 (by decide)) eq56 (fun f57 H locs hP hD hS g59 k58 => ?_))
    have hT := hT.up ht_h0 g59 k58 ⟨_, _, _, _, _, _, _, _, _, _, _, _, _, _, _, _, _, _, _, _, _, _, _, _, _, _, _, _, rfl, ro42_0, ro42_1, ro42_2, ro42_3, ro42_4, ro42_5, (by decide), (by decide), (by decide), ro42_9, ro42_10, ro42_11, ro42_12, ro42_13⟩
    have hR := hR.up ht_h0 (by decide) k58
    refine lv_aload_n hx hb dX12_contract_53 rfl (lv_at hl 0 rfl) ?_
    refine lv_iconst (v := 0) hx hb dX12_contract_54 (by decide) ?_
    obtain ⟨q60, eq60⟩ := tp_pos (tp_in hG ht_h0 (by decide)) g59
    refine va_put (D := (dC, dI)) (ci := 12) (v := .int 0) (ty := .int) (C := RX12) (T := TX12) (N := 53) hx hb hts hfX12 tyX12 tyX12_ok nmX12 hown hK hP hD hS q60 eq60 rfl 16 (by decide) (hts (.fieldLink RX12 398 "ColdShipsModel" "nFrom" "I") wa_991) (fun _ h9 => h9) rfl (tyX12_ok 16 (by decide)) rfl rfl (Nat.le_of_ble_eq_true rfl) dX12_contract_55 (tp_k (.inr (12, [.int o42_x0, .int o42_x1, .ref (ρ h0 2), .ref (ρ h0 3), .ref (ρ h0 4), .ref (ρ h0 5), .ref (ρ h0 6), .int o42_x7, .ref (ρ h0 8), .int o42_x9, .int o42_x10, .int o42_x11, .int o42_x12, .long o42_x13, .int o42_x14, .int o42_x15, .int 0, .int o42_x17, .int o42_x18, .int 0, .int 0, .ref (ρ h0 21), .int 0, .ref (ρ h0 23), .ref (ρ h0 24), .int 0, .ref (ρ h0 26), .ref (ρ h0 27), .int o42_x28, .int o42_x29, .ref (ρ h0 30), .ref (ρ h0 31), .int o42_x32, .long o42_x33, .long o42_x34, .long o42_x35, .int o42_x36, .int o42_x37, .int o42_x38, .ref (ρ h0 39), .ref (ρ h0 40), .ref (ρ h0 41), .ref (ρ h0 42), .ref (ρ h0 43), .ref (ρ h0 44), .ref (ρ h0 45), .ref (ρ h0 46), .int o42_x47, .int o42_x48, .ref (ρ h0 49), .ref (ρ h0 50), .ref (ρ h0 51), .ref (ρ h0 52)])) hD (tp_in hG ht_h0 (by decide)) eq60 (fun f61 H locs hP hD hS g63 k62 => ?_))
    have hT := hT.up ht_h0 g63 k62 ⟨_, _, _, _, _, _, _, _, _, _, _, _, _, _, _, _, _, _, _, _, _, _, _, _, _, _, _, _, rfl, ro42_0, ro42_1, ro42_2, ro42_3, ro42_4, ro42_5, (by decide), (by decide), (by decide), ro42_9, ro42_10, ro42_11, ro42_12, ro42_13⟩
    have hR := hR.up ht_h0 (by decide) k62
    refine lv_aload_n hx hb dX12_contract_58 rfl (lv_at hl 0 rfl) ?_
    refine lv_sipush (v := 2399) hx hb dX12_contract_59 (by decide) ?_
    obtain ⟨q64, eq64⟩ := tp_pos (tp_in hG ht_h0 (by decide)) g63
    refine va_put (D := (dC, dI)) (ci := 12) (v := .int 2399) (ty := .int) (C := RX12) (T := TX12) (N := 53) hx hb hts hfX12 tyX12 tyX12_ok nmX12 hown hK hP hD hS q64 eq64 rfl 17 (by decide) (hts (.fieldLink RX12 403 "ColdShipsModel" "nTo" "I") wa_992) (fun _ h9 => h9) rfl (tyX12_ok 17 (by decide)) rfl rfl (Nat.le_of_ble_eq_true rfl) dX12_contract_62 (tp_k (.inr (12, [.int o42_x0, .int o42_x1, .ref (ρ h0 2), .ref (ρ h0 3), .ref (ρ h0 4), .ref (ρ h0 5), .ref (ρ h0 6), .int o42_x7, .ref (ρ h0 8), .int o42_x9, .int o42_x10, .int o42_x11, .int o42_x12, .long o42_x13, .int o42_x14, .int o42_x15, .int 0, .int 2399, .int o42_x18, .int 0, .int 0, .ref (ρ h0 21), .int 0, .ref (ρ h0 23), .ref (ρ h0 24), .int 0, .ref (ρ h0 26), .ref (ρ h0 27), .int o42_x28, .int o42_x29, .ref (ρ h0 30), .ref (ρ h0 31), .int o42_x32, .long o42_x33, .long o42_x34, .long o42_x35, .int o42_x36, .int o42_x37, .int o42_x38, .ref (ρ h0 39), .ref (ρ h0 40), .ref (ρ h0 41), .ref (ρ h0 42), .ref (ρ h0 43), .ref (ρ h0 44), .ref (ρ h0 45), .ref (ρ h0 46), .int o42_x47, .int o42_x48, .ref (ρ h0 49), .ref (ρ h0 50), .ref (ρ h0 51), .ref (ρ h0 52)])) hD (tp_in hG ht_h0 (by decide)) eq64 (fun f65 H locs hP hD hS g67 k66 => ?_))
    have hT := hT.up ht_h0 g67 k66 ⟨_, _, _, _, _, _, _, _, _, _, _, _, _, _, _, _, _, _, _, _, _, _, _, _, _, _, _, _, rfl, ro42_0, ro42_1, ro42_2, ro42_3, ro42_4, ro42_5, (by decide), (by decide), (by decide), ro42_9, ro42_10, ro42_11, ro42_12, ro42_13⟩
    have hR := hR.up ht_h0 (by decide) k66
    refine lv_aload_n hx hb dX12_contract_65 rfl (lv_at hl 0 rfl) ?_
    refine lv_iconst (v := (-1)) hx hb dX12_contract_66 (by decide) ?_
    obtain ⟨q68, eq68⟩ := tp_pos (tp_in hG ht_h0 (by decide)) g67
    refine va_put (D := (dC, dI)) (ci := 12) (v := .int (-1)) (ty := .int) (C := RX12) (T := TX12) (N := 53) hx hb hts hfX12 tyX12 tyX12_ok nmX12 hown hK hP hD hS q68 eq68 rfl 18 (by decide) (hts (.fieldLink RX12 408 "ColdShipsModel" "nAt" "I") wa_993) (fun _ h9 => h9) rfl (tyX12_ok 18 (by decide)) rfl rfl (Nat.le_of_ble_eq_true rfl) dX12_contract_67 (tp_k (.inr (12, [.int o42_x0, .int o42_x1, .ref (ρ h0 2), .ref (ρ h0 3), .ref (ρ h0 4), .ref (ρ h0 5), .ref (ρ h0 6), .int o42_x7, .ref (ρ h0 8), .int o42_x9, .int o42_x10, .int o42_x11, .int o42_x12, .long o42_x13, .int o42_x14, .int o42_x15, .int 0, .int 2399, .int (-1), .int 0, .int 0, .ref (ρ h0 21), .int 0, .ref (ρ h0 23), .ref (ρ h0 24), .int 0, .ref (ρ h0 26), .ref (ρ h0 27), .int o42_x28, .int o42_x29, .ref (ρ h0 30), .ref (ρ h0 31), .int o42_x32, .long o42_x33, .long o42_x34, .long o42_x35, .int o42_x36, .int o42_x37, .int o42_x38, .ref (ρ h0 39), .ref (ρ h0 40), .ref (ρ h0 41), .ref (ρ h0 42), .ref (ρ h0 43), .ref (ρ h0 44), .ref (ρ h0 45), .ref (ρ h0 46), .int o42_x47, .int o42_x48, .ref (ρ h0 49), .ref (ρ h0 50), .ref (ρ h0 51), .ref (ρ h0 52)])) hD (tp_in hG ht_h0 (by decide)) eq68 (fun f69 H locs hP hD hS g71 k70 => ?_))
    have hT := hT.up ht_h0 g71 k70 ⟨_, _, _, _, _, _, _, _, _, _, _, _, _, _, _, _, _, _, _, _, _, _, _, _, _, _, _, _, rfl, ro42_0, ro42_1, ro42_2, ro42_3, ro42_4, ro42_5, (by decide), (by decide), (by decide), ro42_9, ro42_10, ro42_11, ro42_12, ro42_13⟩
    have hR := hR.up ht_h0 (by decide) k70
    refine lv_aload_n hx hb dX12_contract_70 rfl (lv_at hl 0 rfl) ?_
    have hf_72 : f40 (ρ h0 2) = .inl (κ 0, 12967, .inl g27) := (hF41 _ (by rw [y1]; decide)).trans hf_34
    have hf_73 : f45 (ρ h0 2) = .inl (κ 0, 12967, .inl g27) := (k46 _ (tp_ne y1 ht_h0 (by decide))).trans hf_72
    have hf_74 : f49 (ρ h0 2) = .inl (κ 0, 12967, .inl g27) := (k50 _ (tp_ne y1 ht_h0 (by decide))).trans hf_73
    have hf_75 : f53 (ρ h0 2) = .inl (κ 0, 12967, .inl g27) := (k54 _ (tp_ne y1 ht_h0 (by decide))).trans hf_74
    have hf_76 : f57 (ρ h0 2) = .inl (κ 0, 12967, .inl g27) := (k58 _ (tp_ne y1 ht_h0 (by decide))).trans hf_75
    have hf_77 : f61 (ρ h0 2) = .inl (κ 0, 12967, .inl g27) := (k62 _ (tp_ne y1 ht_h0 (by decide))).trans hf_76
    have hf_78 : f65 (ρ h0 2) = .inl (κ 0, 12967, .inl g27) := (k66 _ (tp_ne y1 ht_h0 (by decide))).trans hf_77
    have hf_79 : f69 (ρ h0 2) = .inl (κ 0, 12967, .inl g27) := (k70 _ (tp_ne y1 ht_h0 (by decide))).trans hf_78
    obtain ⟨g81, hf_o80⟩ := tpo_51 hT y7
    obtain ⟨g83, hf_o82⟩ := tpo_53 hT y8
    obtain ⟨g85, hf_o84⟩ := tpo_54 hT y9
    obtain ⟨q86, eq86⟩ := tp_pos (tp_in hG ht_h0 (by decide)) g71
    have hFc := tp_fr hD hS hA
    refine va_callv (va_runV (As := []) (rest := []) ⟨hx, hb, hml, hown, hts⟩ (t_X12_readClause l dC dI _ κ τ ν ρ L f69 hG hT h0 ht_h0 (by simp only [g71, mo_i1, mo_l1]; exact (show (o42_x10.toInt ≤ o42_x11.toInt ∧ o42_x11.toInt ≤ o42_x9.toInt ∧ (o42_x12.toInt = 0 ∨ o42_x10.toInt < o42_x11.toInt) ∧ (o42_x12.toInt = 1 → o42_x11.toInt = o42_x10.toInt + 1 → o42_x13.toInt ≤ 26)) from by first | omega | decide)) (by simp only [g71, mo_i1, mo_l1]; exact (show o42_x15.toInt = 0 from by first | omega | decide)) (by simp only [g71, mo_i1, mo_l1]; exact (show 0 ≤ o42_x10.toInt from by first | omega | decide)) (by simp only [g71, mo_i1, mo_l1]; exact (show 0 ≤ 0 from by first | omega | decide)) (by simp only [hf_o80, hf_o82, hf_o84, g71, mo_i1, mo_l1]; exact (show mo_NC (mo_R g81) (mo_R g83) (mo_R g85) 0 0 from mo_NC.rf _ _ _ (by decide)))) (cwV 0 hts gX12_contract_X12_readClause rfl rfl rfl ⟨rfl, pd_X12_readClause⟩ ⟨Nat.le_of_ble_eq_true rfl, Nat.le_of_ble_eq_true rfl⟩) ⟨pz_blind, va_recv hK hP (ci := 12) (q0 := q86) rfl eq86, pz_pre hP hK hD hN⟩ rfl rfl hl.1 rfl (lv_room (Nat.le_of_ble_eq_true rfl)) dX12_contract_71 ⟨Nat.le_of_ble_eq_true rfl, Nat.le_of_ble_eq_true rfl⟩) hS (fun q _ h => hFc q h) hFc (fun f89 t H1 locs ht hvm hw88 hB hz1 hk1 hS => ?_)
    obtain ⟨hT, hF90, hw88p⟩ := hw88
    have hR := hR.then hF90 (by decide)
    have hP := hB.1; rw [ht] at hP; have hD := tp_ad f89 hD; clear hB hFc hz1 hk1; subst ht; generalize t.heap = H at hP hS ⊢
    obtain ⟨o91_x0, o91_x1, o91_x7, o91_x9, o91_x10, o91_x11, o91_x12, o91_x13, o91_x14, o91_x15, o91_x16, o91_x17, o91_x18, o91_x19, o91_x20, o91_x22, o91_x25, o91_x28, o91_x29, o91_x32, o91_x33, o91_x34, o91_x35, o91_x36, o91_x37, o91_x38, o91_x47, o91_x48, hf_o91, ro91_0, ro91_1, ro91_2, ro91_3, ro91_4, ro91_5, ro91_6, ro91_7, ro91_8, ro91_9, ro91_10, ro91_11, ro91_12, ro91_13⟩ := tpo_13 hT ht_h0
    obtain ⟨g93, hf_o92⟩ := tpo_51 hT y7
    obtain ⟨g95, hf_o94⟩ := tpo_53 hT y8
    obtain ⟨g97, hf_o96⟩ := tpo_54 hT y9
    have tk98 : (o91_x10.toInt ≤ o91_x11.toInt ∧ o91_x11.toInt ≤ o91_x9.toInt ∧ (o91_x12.toInt = 0 ∨ o91_x10.toInt < o91_x11.toInt) ∧ (o91_x12.toInt = 1 → o91_x11.toInt = o91_x10.toInt + 1 → o91_x13.toInt ≤ 26)) ∧ (o91_x15.toInt = 0 → o91_x22.toInt ≤ o91_x10.toInt ∧ o91_x20.toInt ≤ o91_x19.toInt ∧ mo_NC (mo_R g93) (mo_R g95) (mo_R g97) o91_x20.toInt o91_x22.toInt) ∧ o91_x9.toInt = o42_x9.toInt := by have q9 := hw88p; simp only [hf_o91, hf_o92, hf_o94, hf_o96, g71, mo_i1, mo_l1] at q9; exact q9
    have hf_99 : f89 (ρ h0 2) = .inl (κ 0, 12967, .inl g27) := (hF90 _ (by rw [y1]; decide)).trans hf_79
    refine pz_loop (fun n0 H locs ls => ∃ f101 : Nat → va_E, n0 = (2010 - 5 * (tp_fld (f101 h0) 10) - 3000 * (tp_fld (f101 h0) 15)).toNat ∧ tp_T (mo_O κ) κ τ ν ρ f101 ∧ tp_F τ [13, 32, 51, 53, 54, 56, 57] f f101 ∧ f101 (ρ h0 2) = .inl (κ 0, 12967, .inl g27) ∧ ((((tp_fld (f101 h0) 10) ≤ (tp_fld (f101 h0) 11) ∧ (tp_fld (f101 h0) 11) ≤ (tp_fld (f101 h0) 9) ∧ ((tp_fld (f101 h0) 12) = 0 ∨ (tp_fld (f101 h0) 10) < (tp_fld (f101 h0) 11)) ∧ ((tp_fld (f101 h0) 12) = 1 → (tp_fld (f101 h0) 11) = (tp_fld (f101 h0) 10) + 1 → (mo_fj (f101 h0) 13) ≤ 26)))) ∧ ((((tp_fld (f101 h0) 15) = 0 → (tp_fld (f101 h0) 22) ≤ (tp_fld (f101 h0) 10) ∧ (tp_fld (f101 h0) 20) ≤ (tp_fld (f101 h0) 19) ∧ mo_NC (mo_R (mo_i (f101 (ρ h0 21)))) (mo_R (mo_i (f101 (ρ h0 23)))) (mo_R (mo_i (f101 (ρ h0 24)))) (tp_fld (f101 h0) 20) (tp_fld (f101 h0) 22)))) ∧ va_P (dC, dI) vwCl (va_pl L f101) H ∧ va_D A (va_pl L f101) ∧ va_S A s.heap H locs ∧ lv_has ls 3 [(0, .ref h0)]) ?_ _ _ _ _ ⟨f89, rfl, hT, hR, hf_99, (by simp only [hf_o91, mo_i1, mo_l1]; exact (show (o91_x10.toInt ≤ o91_x11.toInt ∧ o91_x11.toInt ≤ o91_x9.toInt ∧ (o91_x12.toInt = 0 ∨ o91_x10.toInt < o91_x11.toInt) ∧ (o91_x12.toInt = 1 → o91_x11.toInt = o91_x10.toInt + 1 → o91_x13.toInt ≤ 26)) from by first | omega | decide)), (by simp only [hf_o91, hf_o92, hf_o94, hf_o96, mo_i1, mo_l1]; exact (show (o91_x15.toInt = 0 → o91_x22.toInt ≤ o91_x10.toInt ∧ o91_x20.toInt ≤ o91_x19.toInt ∧ mo_NC (mo_R g93) (mo_R g95) (mo_R g97) o91_x20.toInt o91_x22.toInt) from tk98.2.1)), hP, hD, hS, lv_sub hl [0] rfl⟩
    intro n0 H locs ls hI ih103
    obtain ⟨f101, hn104, hT, hR, hk100k, jf105, jf106, hP, hD, hS, hl⟩ := hI
    obtain ⟨o107_x0, o107_x1, o107_x7, o107_x9, o107_x10, o107_x11, o107_x12, o107_x13, o107_x14, o107_x15, o107_x16, o107_x17, o107_x18, o107_x19, o107_x20, o107_x22, o107_x25, o107_x28, o107_x29, o107_x32, o107_x33, o107_x34, o107_x35, o107_x36, o107_x37, o107_x38, o107_x47, o107_x48, hf_o107, ro107_0, ro107_1, ro107_2, ro107_3, ro107_4, ro107_5, ro107_6, ro107_7, ro107_8, ro107_9, ro107_10, ro107_11, ro107_12, ro107_13⟩ := tpo_13 hT ht_h0
    have jf105 : (o107_x10.toInt ≤ o107_x11.toInt ∧ o107_x11.toInt ≤ o107_x9.toInt ∧ (o107_x12.toInt = 0 ∨ o107_x10.toInt < o107_x11.toInt) ∧ (o107_x12.toInt = 1 → o107_x11.toInt = o107_x10.toInt + 1 → o107_x13.toInt ≤ 26)) := by have q9 := jf105; simp only [hf_o107, mo_i1, mo_l1] at q9; exact q9
    obtain ⟨g109, hf_o108⟩ := tpo_51 hT y7
    obtain ⟨g111, hf_o110⟩ := tpo_53 hT y8
    obtain ⟨g113, hf_o112⟩ := tpo_54 hT y9
    have jf106 : (o107_x15.toInt = 0 → o107_x22.toInt ≤ o107_x10.toInt ∧ o107_x20.toInt ≤ o107_x19.toInt ∧ mo_NC (mo_R g109) (mo_R g111) (mo_R g113) o107_x20.toInt o107_x22.toInt) := by have q9 := jf106; simp only [hf_o107, hf_o108, hf_o110, hf_o112, mo_i1, mo_l1] at q9; exact q9
    simp only [hf_o107, mo_i1, mo_l1] at hn104
    refine lv_aload_n hx hb dX12_contract_74 rfl (lv_at hl 0 rfl) ?_
    obtain ⟨q114, eq114⟩ := tp_pos (tp_in hG ht_h0 (by decide)) hf_o107
    refine va_get (D := (dC, dI)) (ci := 12) (v := .int o107_x15) (C := RX12) (T := TX12) (N := 53) hx hb hts hfX12 hown hK hP q114 eq114 rfl 15 (by decide) (hts (.fieldLink RX12 261 "ColdShipsModel" "bad" "Z") wa_994) (fun _ h9 => h9) rfl dX12_contract_75 ?_
    refine lv_if_ne (tgt := 101) hx hb dX12_contract_78 (by decide) (fun c115 => ?_) (fun c115 => ?_)
    · have ic115 : o107_x15.toInt ≠ 0 := zi_ne rfl rfl c115
      refine lv_aload_n hx hb dX12_contract_101 rfl (lv_at hl 0 rfl) ?_
      refine va_get (D := (dC, dI)) (ci := 12) (v := .int o107_x15) (C := RX12) (T := TX12) (N := 53) hx hb hts hfX12 hown hK hP q114 eq114 rfl 15 (by decide) (hts (.fieldLink RX12 261 "ColdShipsModel" "bad" "Z") wa_994) (fun _ h9 => h9) rfl dX12_contract_102 ?_
      refine lv_if_ne (tgt := 120) hx hb dX12_contract_105 (by decide) (fun c116 => ?_) (fun c116 => ?_)
      · have ic116 : o107_x15.toInt ≠ 0 := zi_ne rfl rfl c116
        refine lv_aload_n hx hb dX12_contract_120 rfl (lv_at hl 0 rfl) ?_
        refine lv_iconst (v := 0) hx hb dX12_contract_121 (by decide) ?_
        refine va_put (D := (dC, dI)) (ci := 12) (v := .int 0) (ty := .int) (C := RX12) (T := TX12) (N := 53) hx hb hts hfX12 tyX12 tyX12_ok nmX12 hown hK hP hD hS q114 eq114 rfl 9 (by decide) (hts (.fieldLink RX12 252 "ColdShipsModel" "taped" "I") wa_774) (fun _ h9 => h9) rfl (tyX12_ok 9 (by decide)) rfl rfl (Nat.le_of_ble_eq_true rfl) dX12_contract_122 (tp_k (.inr (12, [.int o107_x0, .int o107_x1, .ref (ρ h0 2), .ref (ρ h0 3), .ref (ρ h0 4), .ref (ρ h0 5), .ref (ρ h0 6), .int o107_x7, .ref (ρ h0 8), .int 0, .int o107_x10, .int o107_x11, .int o107_x12, .long o107_x13, .int o107_x14, .int o107_x15, .int o107_x16, .int o107_x17, .int o107_x18, .int o107_x19, .int o107_x20, .ref (ρ h0 21), .int o107_x22, .ref (ρ h0 23), .ref (ρ h0 24), .int o107_x25, .ref (ρ h0 26), .ref (ρ h0 27), .int o107_x28, .int o107_x29, .ref (ρ h0 30), .ref (ρ h0 31), .int o107_x32, .long o107_x33, .long o107_x34, .long o107_x35, .int o107_x36, .int o107_x37, .int o107_x38, .ref (ρ h0 39), .ref (ρ h0 40), .ref (ρ h0 41), .ref (ρ h0 42), .ref (ρ h0 43), .ref (ρ h0 44), .ref (ρ h0 45), .ref (ρ h0 46), .int o107_x47, .int o107_x48, .ref (ρ h0 49), .ref (ρ h0 50), .ref (ρ h0 51), .ref (ρ h0 52)])) hD (tp_in hG ht_h0 (by decide)) eq114 (fun f117 H locs hP hD hS g119 k118 => ?_))
        have hT := hT.up ht_h0 g119 k118 ⟨_, _, _, _, _, _, _, _, _, _, _, _, _, _, _, _, _, _, _, _, _, _, _, _, _, _, _, _, rfl, ro107_0, (by decide), ro107_2, ro107_3, ro107_4, ro107_5, ro107_6, ro107_7, ro107_8, ro107_9, ro107_10, ro107_11, ro107_12, ro107_13⟩
        have hR := hR.up ht_h0 (by decide) k118
        refine lv_aload_n hx hb dX12_contract_125 rfl (lv_at hl 0 rfl) ?_
        obtain ⟨q120, eq120⟩ := tp_pos (tp_in hG ht_h0 (by decide)) g119
        refine va_get (D := (dC, dI)) (ci := 12) (v := .int o107_x15) (C := RX12) (T := TX12) (N := 53) hx hb hts hfX12 hown hK hP q120 eq120 rfl 15 (by decide) (hts (.fieldLink RX12 261 "ColdShipsModel" "bad" "Z") wa_994) (fun _ h9 => h9) rfl dX12_contract_126 ?_
        refine lv_if_eq (tgt := 139) hx hb dX12_contract_129 (by decide) (fun c121 => ?_) (fun c121 => ?_)
        · have ic121 : o107_x15.toInt = 0 := zi_eq rfl rfl c121
          exfalso; omega
        · have ic121 : o107_x15.toInt ≠ 0 := zi_eqf rfl rfl c121
          refine lv_aload_n hx hb dX12_contract_132 rfl (lv_at hl 0 rfl) ?_
          refine lv_bipush (v := (-6)) hx hb dX12_contract_133 (by decide) ?_
          have hf_122 : f117 (ρ h0 2) = .inl (κ 0, 12967, .inl g27) := (k118 _ (tp_ne y1 ht_h0 (by decide))).trans hk100k
          have hFc := tp_fr hD hS hA
          refine va_calli (va_runV (As := [.int (-6)]) (rest := []) ⟨hx, hb, hml, hown, hts⟩ (t_X12_told l dC dI _ κ τ ν ρ L f117 hG hT h0 ((-6)) ht_h0) (cwV 1 hts gX12_contract_X12_told rfl rfl rfl ⟨rfl, pd_X12_told⟩ ⟨Nat.le_of_ble_eq_true rfl, Nat.le_of_ble_eq_true rfl⟩) ⟨pz_blind, va_recv hK hP (ci := 12) (q0 := q120) rfl eq120, pz_pre hP hK hD hN⟩ rfl rfl hl.1 rfl (lv_room (Nat.le_of_ble_eq_true rfl)) dX12_contract_135 ⟨Nat.le_of_ble_eq_true rfl, Nat.le_of_ble_eq_true rfl⟩) hS (fun q _ h => hFc q h) hFc (fun r123 f125 t H1 locs ht hvm hw124 hB hz1 hk1 hS => ?_)
          obtain ⟨hT, hF126, hw124r, hw124p⟩ := hw124
          have hR := hR.then hF126 (by decide)
          have hP := hB.1; rw [ht] at hP; have hD := tp_ad f125 hD; clear hB hFc hz1 hk1; subst ht; generalize t.heap = H at hP hS ⊢
          have hw124pq : r123.toInt = (-6) := by rw [hw124p]; rfl
          have hf_127 : f125 (ρ h0 2) = .inl (κ 0, 12967, .inl g27) := (hF126 _ (by rw [y1]; decide)).trans hf_122
          exact W.iret (v := r123) hx hb hr (fun t ht hW => ⟨⟨r123, f125, rfl, ⟨hT, hR, trivial, (by rw [hf_127, mo_i1]; exact hI)⟩, by rw [ht]; exact hP, va_K.moved hW.alike hK, hD⟩, hS.F ht⟩) hS.2.2 dX12_contract_138
      · have ic116 : o107_x15.toInt = 0 := zi_nef rfl rfl c116
        exfalso; omega
    · have ic115 : o107_x15.toInt = 0 := zi_nef rfl rfl c115
      refine lv_aload_n hx hb dX12_contract_81 rfl (lv_at hl 0 rfl) ?_
      refine lv_bipush (v := 59) hx hb dX12_contract_82 (by decide) ?_
      refine pz_calli (va_runV (As := [.int 59]) (rest := []) ⟨hx, hb, hml, hown, hts⟩ (t_X12_isSign l dC dI _ κ τ ν ρ L f101 hG hT h0 (59) ht_h0) (cwV 1 hts gX12_contract_X12_isSign rfl rfl rfl ⟨rfl, pd_X12_isSign⟩ ⟨Nat.le_of_ble_eq_true rfl, Nat.le_of_ble_eq_true rfl⟩) ⟨pz_blind, va_recv hK hP (ci := 12) (q0 := q114) rfl eq114, pz_pre hP hK hD hN⟩ rfl rfl hl.1 rfl (lv_room (Nat.le_of_ble_eq_true rfl)) dX12_contract_84 ⟨Nat.le_of_ble_eq_true rfl, Nat.le_of_ble_eq_true rfl⟩) (fun r128 hw129 => ?_)
      obtain ⟨hw129r, hw129p⟩ := hw129
      have tk130 : (r128.toInt ≠ 0 → o107_x12.toInt = 3 ∧ o107_x13.toInt = (59)) := by have q9 := hw129p; simp only [hf_o107, mo_i1, mo_l1] at q9; exact q9
      refine lv_if_eq (tgt := 101) hx hb dX12_contract_87 (by decide) (fun c131 => ?_) (fun c131 => ?_)
      · have ic131 : r128.toInt = 0 := zi_eq rfl rfl c131
        refine lv_aload_n hx hb dX12_contract_101 rfl (lv_at hl 0 rfl) ?_
        refine va_get (D := (dC, dI)) (ci := 12) (v := .int o107_x15) (C := RX12) (T := TX12) (N := 53) hx hb hts hfX12 hown hK hP q114 eq114 rfl 15 (by decide) (hts (.fieldLink RX12 261 "ColdShipsModel" "bad" "Z") wa_994) (fun _ h9 => h9) rfl dX12_contract_102 ?_
        refine lv_if_ne (tgt := 120) hx hb dX12_contract_105 (by decide) (fun c132 => ?_) (fun c132 => ?_)
        · have ic132 : o107_x15.toInt ≠ 0 := zi_ne rfl rfl c132
          exfalso; omega
        · have ic132 : o107_x15.toInt = 0 := zi_nef rfl rfl c132
          refine lv_aload_n hx hb dX12_contract_108 rfl (lv_at hl 0 rfl) ?_
          refine va_get (D := (dC, dI)) (ci := 12) (v := .int o107_x12) (C := RX12) (T := TX12) (N := 53) hx hb hts hfX12 hown hK hP q114 eq114 rfl 12 (by decide) (hts (.fieldLink RX12 280 "ColdShipsModel" "sort" "I") wa_995) (fun _ h9 => h9) rfl dX12_contract_109 ?_
          refine lv_if_eq (tgt := 120) hx hb dX12_contract_112 (by decide) (fun c133 => ?_) (fun c133 => ?_)
          · have ic133 : o107_x12.toInt = 0 := zi_eq rfl rfl c133
            refine lv_aload_n hx hb dX12_contract_120 rfl (lv_at hl 0 rfl) ?_
            refine lv_iconst (v := 0) hx hb dX12_contract_121 (by decide) ?_
            refine va_put (D := (dC, dI)) (ci := 12) (v := .int 0) (ty := .int) (C := RX12) (T := TX12) (N := 53) hx hb hts hfX12 tyX12 tyX12_ok nmX12 hown hK hP hD hS q114 eq114 rfl 9 (by decide) (hts (.fieldLink RX12 252 "ColdShipsModel" "taped" "I") wa_774) (fun _ h9 => h9) rfl (tyX12_ok 9 (by decide)) rfl rfl (Nat.le_of_ble_eq_true rfl) dX12_contract_122 (tp_k (.inr (12, [.int o107_x0, .int o107_x1, .ref (ρ h0 2), .ref (ρ h0 3), .ref (ρ h0 4), .ref (ρ h0 5), .ref (ρ h0 6), .int o107_x7, .ref (ρ h0 8), .int 0, .int o107_x10, .int o107_x11, .int o107_x12, .long o107_x13, .int o107_x14, .int o107_x15, .int o107_x16, .int o107_x17, .int o107_x18, .int o107_x19, .int o107_x20, .ref (ρ h0 21), .int o107_x22, .ref (ρ h0 23), .ref (ρ h0 24), .int o107_x25, .ref (ρ h0 26), .ref (ρ h0 27), .int o107_x28, .int o107_x29, .ref (ρ h0 30), .ref (ρ h0 31), .int o107_x32, .long o107_x33, .long o107_x34, .long o107_x35, .int o107_x36, .int o107_x37, .int o107_x38, .ref (ρ h0 39), .ref (ρ h0 40), .ref (ρ h0 41), .ref (ρ h0 42), .ref (ρ h0 43), .ref (ρ h0 44), .ref (ρ h0 45), .ref (ρ h0 46), .int o107_x47, .int o107_x48, .ref (ρ h0 49), .ref (ρ h0 50), .ref (ρ h0 51), .ref (ρ h0 52)])) hD (tp_in hG ht_h0 (by decide)) eq114 (fun f134 H locs hP hD hS g136 k135 => ?_))
            have hT := hT.up ht_h0 g136 k135 ⟨_, _, _, _, _, _, _, _, _, _, _, _, _, _, _, _, _, _, _, _, _, _, _, _, _, _, _, _, rfl, ro107_0, (by decide), ro107_2, ro107_3, ro107_4, ro107_5, ro107_6, ro107_7, ro107_8, ro107_9, ro107_10, ro107_11, ro107_12, ro107_13⟩
            have hR := hR.up ht_h0 (by decide) k135
            refine lv_aload_n hx hb dX12_contract_125 rfl (lv_at hl 0 rfl) ?_
            obtain ⟨q137, eq137⟩ := tp_pos (tp_in hG ht_h0 (by decide)) g136
            refine va_get (D := (dC, dI)) (ci := 12) (v := .int o107_x15) (C := RX12) (T := TX12) (N := 53) hx hb hts hfX12 hown hK hP q137 eq137 rfl 15 (by decide) (hts (.fieldLink RX12 261 "ColdShipsModel" "bad" "Z") wa_994) (fun _ h9 => h9) rfl dX12_contract_126 ?_
            refine lv_if_eq (tgt := 139) hx hb dX12_contract_129 (by decide) (fun c138 => ?_) (fun c138 => ?_)
            · have ic138 : o107_x15.toInt = 0 := zi_eq rfl rfl c138
              have hf_139 : f134 (ρ h0 21) = .inl (κ 0, 60, .inl g109) := (k135 _ (tp_ne y7 ht_h0 (by decide))).trans hf_o108
              have hf_140 : f134 (ρ h0 23) = .inl (κ 0, 400, .inl g111) := (k135 _ (tp_ne y8 ht_h0 (by decide))).trans hf_o110
              have hf_141 : f134 (ρ h0 24) = .inl (κ 0, 400, .inl g113) := (k135 _ (tp_ne y9 ht_h0 (by decide))).trans hf_o112
              refine lv_sipush (v := 2251) hx hb dX12_contract_139 (by decide) ?_
              refine lv_sipush (v := 864) hx hb dX12_contract_142 (by decide) ?_
              refine lv_aload_n hx hb dX12_contract_145 rfl (lv_at hl 0 rfl) ?_
              refine va_get (D := (dC, dI)) (ci := 12) (v := .ref (ρ h0 2)) (C := RX12) (T := TX12) (N := 53) hx hb hts hfX12 hown hK hP q137 eq137 rfl 2 (by decide) (hts (.fieldLink RX12 7 "ColdShipsModel" "row" "[I") wa_148) (fun _ h9 => h9) rfl dX12_contract_146 ?_
              refine lv_bipush (v := 8) hx hb dX12_contract_149 (by decide) ?_
              have hf_142 : f134 (ρ h0 2) = .inl (κ 0, 12967, .inl g27) := (k135 _ (tp_ne y1 ht_h0 (by decide))).trans hk100k
              obtain ⟨q143, eq143⟩ := tp_pos (tp_in hG y1 (by decide)) hf_142
              refine va_iald hx hb hK hP q143 0 eq143 rfl (vp_in_iff.mpr ⟨by decide, by decide⟩) dX12_contract_151 ?_
              refine lv_topi (fun z144 ez144 => ?_)
              have jz144 : z144.toInt = mo_R g27 (8) := mo_rd ez144 (show (8 : Int32).toInt = (8) from by decide)
              have kz144 := hI.k8
              refine lv_imul hx hb dX12_contract_152 ?_
              refine lv_topi (fun z145 ez145 => ?_)
              have iz145 : z145.toInt = 864 * z144.toInt := zi_mul ez145 rfl rfl (by omega) (by omega)
              refine lv_iadd hx hb dX12_contract_153 ?_
              refine lv_topi (fun z146 ez146 => ?_)
              have iz146 : z146.toInt = 2251 + z145.toInt := zi_add ez146 rfl rfl (by omega) (by omega)
              refine lv_istore_n (lv' := [(1, .int z146), (0, .ref h0)]) hx hb dX12_contract_154 rfl hl (by decide) rfl (fun ls hl => ?_)
              refine lv_aload_n hx hb dX12_contract_155 rfl (lv_at hl 1 rfl) ?_
              refine lv_iload_n hx hb dX12_contract_156 rfl (lv_at hl 0 rfl) ?_
              refine lv_aload_n hx hb dX12_contract_157 rfl (lv_at hl 1 rfl) ?_
              refine va_get (D := (dC, dI)) (ci := 12) (v := .int o107_x16) (C := RX12) (T := TX12) (N := 53) hx hb hts hfX12 hown hK hP q137 eq137 rfl 16 (by decide) (hts (.fieldLink RX12 398 "ColdShipsModel" "nFrom" "I") wa_991) (fun _ h9 => h9) rfl dX12_contract_158 ?_
              refine lv_aload_n hx hb dX12_contract_161 rfl (lv_at hl 1 rfl) ?_
              refine va_get (D := (dC, dI)) (ci := 12) (v := .int o107_x17) (C := RX12) (T := TX12) (N := 53) hx hb hts hfX12 hown hK hP q137 eq137 rfl 17 (by decide) (hts (.fieldLink RX12 403 "ColdShipsModel" "nTo" "I") wa_992) (fun _ h9 => h9) rfl dX12_contract_162 ?_
              refine lv_aload_n hx hb dX12_contract_165 rfl (lv_at hl 1 rfl) ?_
              refine va_get (D := (dC, dI)) (ci := 12) (v := .int o107_x18) (C := RX12) (T := TX12) (N := 53) hx hb hts hfX12 hown hK hP q137 eq137 rfl 18 (by decide) (hts (.fieldLink RX12 408 "ColdShipsModel" "nAt" "I") wa_993) (fun _ h9 => h9) rfl dX12_contract_166 ?_
              refine lv_aload_n hx hb dX12_contract_169 rfl (lv_at hl 1 rfl) ?_
              refine va_get (D := (dC, dI)) (ci := 12) (v := .int o107_x20) (C := RX12) (T := TX12) (N := 53) hx hb hts hfX12 hown hK hP q137 eq137 rfl 20 (by decide) (hts (.fieldLink RX12 411 "ColdShipsModel" "nPays" "I") wa_988) (fun _ h9 => h9) rfl dX12_contract_170 ?_
              have hFc := tp_fr hD hS hA
              refine va_callv (va_runV (As := [.int z146, .int o107_x16, .int o107_x17, .int o107_x18, .int o107_x20]) (rest := []) ⟨hx, hb, hml, hown, hts⟩ (t_X12_addFour l dC dI _ κ τ ν ρ L f134 hG hT h0 z146 o107_x16 o107_x17 o107_x18 o107_x20 ht_h0 (by first | decide | omega)) (cwV 5 hts gX12_contract_X12_addFour rfl rfl rfl ⟨rfl, pd_X12_addFour⟩ ⟨Nat.le_of_ble_eq_true rfl, Nat.le_of_ble_eq_true rfl⟩) ⟨pz_blind, va_recv hK hP (ci := 12) (q0 := q137) rfl eq137, pz_pre hP hK hD hN⟩ rfl rfl hl.1 rfl (lv_room (Nat.le_of_ble_eq_true rfl)) dX12_contract_173 ⟨Nat.le_of_ble_eq_true rfl, Nat.le_of_ble_eq_true rfl⟩) hS (fun q _ h => hFc q h) hFc (fun f149 t H1 locs ht hvm hw148 hB hz1 hk1 hS => ?_)
              obtain ⟨hT, hF150, hw148p⟩ := hw148
              have hR := hR.then hF150 (by decide)
              have hP := hB.1; rw [ht] at hP; have hD := tp_ad f149 hD; clear hB hFc hz1 hk1; subst ht; generalize t.heap = H at hP hS ⊢
              rw [hf_142, mo_i1] at hw148p
              obtain ⟨Q1_150, Q2_150, Q3_150, u1_150, u2_150, u3_150, u4_150⟩ := hw148p
              obtain ⟨g152, hf_o151⟩ := tpo_32 hT y1
              rw [hf_o151, mo_i1] at u4_150
              have hU : mo_U (mo_R g27) (Q1_150) (2251 + 864 * n8 + 0) (o107_x16.toInt) := by have q9 := u1_150; rw [show z146.toInt = (2251 + 864 * n8 + 0) by omega] at q9; exact q9
              have hI := mo_w_con hI hU n8 (0) (by omega) (by omega) (by omega) (by omega)
              have pn153 : Q1_150 (8) = n8 := (hU.ne (by omega) (by omega)).trans en8.symm
              have hU : mo_U (Q1_150) (Q2_150) (2251 + 864 * n8 + 1) (o107_x17.toInt) := by have q9 := u2_150; rw [show z146.toInt + 1 = (2251 + 864 * n8 + 1) by omega] at q9; exact q9
              have hI := mo_w_con hI hU n8 (1) (by omega) (by omega) (by omega) (by omega)
              have pn154 : Q2_150 (8) = n8 := (hU.ne (by omega) (by omega)).trans pn153
              have hU : mo_U (Q2_150) (Q3_150) (2251 + 864 * n8 + 2) (o107_x18.toInt) := by have q9 := u3_150; rw [show z146.toInt + 2 = (2251 + 864 * n8 + 2) by omega] at q9; exact q9
              have hI := mo_w_con hI hU n8 (2) (by omega) (by omega) (by omega) (by omega)
              have pn155 : Q3_150 (8) = n8 := (hU.ne (by omega) (by omega)).trans pn154
              have hU : mo_U (Q3_150) (mo_R g152) (2251 + 864 * n8 + 3) (o107_x20.toInt) := by have q9 := u4_150; rw [show z146.toInt + 3 = (2251 + 864 * n8 + 3) by omega] at q9; exact q9
              have hI := mo_w_con hI hU n8 (3) (by omega) (by omega) (by omega) (by omega)
              have pn156 : mo_R g152 (8) = n8 := (hU.ne (by omega) (by omega)).trans pn155
              have hcc3 : mo_R g152 (2251 + 864 * n8 + 3) = o107_x20.toInt := hU.eq (by omega)
              refine lv_iconst (v := 0) hx hb dX12_contract_176 (by decide) ?_
              refine lv_istore_n (lv' := [(2, .int 0), (1, .int z146), (0, .ref h0)]) hx hb dX12_contract_177 rfl hl (by decide) rfl (fun ls hl => ?_)
              have hf_157 : f149 h0 = .inr (12, [.int o107_x0, .int o107_x1, .ref (ρ h0 2), .ref (ρ h0 3), .ref (ρ h0 4), .ref (ρ h0 5), .ref (ρ h0 6), .int o107_x7, .ref (ρ h0 8), .int 0, .int o107_x10, .int o107_x11, .int o107_x12, .long o107_x13, .int o107_x14, .int o107_x15, .int o107_x16, .int o107_x17, .int o107_x18, .int o107_x19, .int o107_x20, .ref (ρ h0 21), .int o107_x22, .ref (ρ h0 23), .ref (ρ h0 24), .int o107_x25, .ref (ρ h0 26), .ref (ρ h0 27), .int o107_x28, .int o107_x29, .ref (ρ h0 30), .ref (ρ h0 31), .int o107_x32, .long o107_x33, .long o107_x34, .long o107_x35, .int o107_x36, .int o107_x37, .int o107_x38, .ref (ρ h0 39), .ref (ρ h0 40), .ref (ρ h0 41), .ref (ρ h0 42), .ref (ρ h0 43), .ref (ρ h0 44), .ref (ρ h0 45), .ref (ρ h0 46), .int o107_x47, .int o107_x48, .ref (ρ h0 49), .ref (ρ h0 50), .ref (ρ h0 51), .ref (ρ h0 52)]) := (hF150 _ (by rw [ht_h0]; decide)).trans g136
              have hf_160 : f149 (ρ h0 21) = .inl (κ 0, 60, .inl g109) := (hF150 _ (by rw [y7]; decide)).trans hf_139
              have hf_161 : f149 (ρ h0 23) = .inl (κ 0, 400, .inl g111) := (hF150 _ (by rw [y8]; decide)).trans hf_140
              have hf_162 : f149 (ρ h0 24) = .inl (κ 0, 400, .inl g113) := (hF150 _ (by rw [y9]; decide)).trans hf_141
              refine pz_loop (fun n0 H locs ls => ∃ f167 : Nat → va_E, ∃ w158 : Int32, n0 = (60 - (w158.toInt)).toNat ∧ tp_T (mo_O κ) κ τ ν ρ f167 ∧ tp_F τ [13, 32, 51, 53, 54, 56, 57] f f167 ∧ f167 h0 = .inr (12, [.int o107_x0, .int o107_x1, .ref (ρ h0 2), .ref (ρ h0 3), .ref (ρ h0 4), .ref (ρ h0 5), .ref (ρ h0 6), .int o107_x7, .ref (ρ h0 8), .int 0, .int o107_x10, .int o107_x11, .int o107_x12, .long o107_x13, .int o107_x14, .int o107_x15, .int o107_x16, .int o107_x17, .int o107_x18, .int o107_x19, .int o107_x20, .ref (ρ h0 21), .int o107_x22, .ref (ρ h0 23), .ref (ρ h0 24), .int o107_x25, .ref (ρ h0 26), .ref (ρ h0 27), .int o107_x28, .int o107_x29, .ref (ρ h0 30), .ref (ρ h0 31), .int o107_x32, .long o107_x33, .long o107_x34, .long o107_x35, .int o107_x36, .int o107_x37, .int o107_x38, .ref (ρ h0 39), .ref (ρ h0 40), .ref (ρ h0 41), .ref (ρ h0 42), .ref (ρ h0 43), .ref (ρ h0 44), .ref (ρ h0 45), .ref (ρ h0 46), .int o107_x47, .int o107_x48, .ref (ρ h0 49), .ref (ρ h0 50), .ref (ρ h0 51), .ref (ρ h0 52)]) ∧ f167 (ρ h0 21) = .inl (κ 0, 60, .inl g109) ∧ f167 (ρ h0 23) = .inl (κ 0, 400, .inl g111) ∧ f167 (ρ h0 24) = .inl (κ 0, 400, .inl g113) ∧ ((mo_RI (-1) 0 (mo_R (mo_i (f167 (ρ h0 2)))))) ∧ (((mo_R (mo_i (f167 (ρ h0 2)))) (8) = n8)) ∧ ((mo_CC (mo_R (mo_i (f167 (ρ h0 2)))) (2251 + 864 * n8) (mo_R (mo_i (f167 (ρ h0 21)))) (mo_R (mo_i (f167 (ρ h0 23)))) (mo_R (mo_i (f167 (ρ h0 24)))) (tp_fld (f167 h0) 20) (w158.toInt) 0)) ∧ (0 ≤ w158.toInt ∧ w158.toInt ≤ 60) ∧ ((w158.toInt) ≤ 5 * o107_x20.toInt) ∧ va_P (dC, dI) vwCl (va_pl L f167) H ∧ va_D A (va_pl L f167) ∧ va_S A s.heap H locs ∧ lv_has ls 3 [(2, .int w158), (1, .int z146), (0, .ref h0)]) ?_ _ _ _ _ ⟨f149, 0, rfl, hT, hR, hf_157, hf_160, hf_161, hf_162, (by rw [hf_o151, mo_i1]; exact hI), (by rw [hf_o151, mo_i1]; have : (0 : Int32).toInt = 0 := rfl; omega), (by simp only [hf_160, hf_161, hf_162, hf_157, hf_o151, mo_i1, mo_l1]; exact (show mo_CC (mo_R g152) (2251 + 864 * n8) (mo_R g109) (mo_R g111) (mo_R g113) o107_x20.toInt (0 : Int32).toInt 0 from mo_CC.rf _ _ _ hcc3 (by decide) (by decide))), (by have : (0 : Int32).toInt = 0 := rfl; omega), (by have : (0 : Int32).toInt = 0 := rfl; omega), hP, hD, hS, lv_sub hl [0, 1, 2] rfl⟩
              intro n0 H locs ls hI ih169
              obtain ⟨f167, w158, hn170, hT, hR, hk163k, hk164k, hk165k, hk166k, hJ, jf171, jf172, rw158, k159, hP, hD, hS, hl⟩ := hI
              obtain ⟨g174, hf_o173⟩ := tpo_32 hT y1
              have hI : mo_RI (-1) 0 (mo_R g174) := by have q9 := hJ; rw [hf_o173, mo_i1] at q9; exact q9
              rw [hf_o173, mo_i1] at jf171
              have jf172 : mo_CC (mo_R g174) (2251 + 864 * n8) (mo_R g109) (mo_R g111) (mo_R g113) o107_x20.toInt (w158.toInt) 0 := by have q9 := jf172; simp only [hk164k, hk165k, hk166k, hk163k, hf_o173, mo_i1, mo_l1] at q9; exact q9
              refine lv_iload_n hx hb dX12_contract_178 rfl (lv_at hl 0 rfl) ?_
              refine lv_iconst (v := 5) hx hb dX12_contract_179 (by decide) ?_
              refine lv_aload_n hx hb dX12_contract_180 rfl (lv_at hl 2 rfl) ?_
              obtain ⟨q175, eq175⟩ := tp_pos (tp_in hG ht_h0 (by decide)) hk163k
              refine va_get (D := (dC, dI)) (ci := 12) (v := .int o107_x20) (C := RX12) (T := TX12) (N := 53) hx hb hts hfX12 hown hK hP q175 eq175 rfl 20 (by decide) (hts (.fieldLink RX12 411 "ColdShipsModel" "nPays" "I") wa_988) (fun _ h9 => h9) rfl dX12_contract_181 ?_
              refine lv_imul hx hb dX12_contract_184 ?_
              refine lv_topi (fun z176 ez176 => ?_)
              have iz176 : z176.toInt = 5 * o107_x20.toInt := zi_mul ez176 rfl rfl (by omega) (by omega)
              refine lv_icmp_ge (tgt := 210) hx hb dX12_contract_185 (by decide) (fun c177 => ?_) (fun c177 => ?_)
              · have ic177 : w158.toInt ≥ z176.toInt := zi_ge rfl rfl c177
                refine lv_iconst (v := 0) hx hb dX12_contract_210 (by decide) ?_
                refine lv_istore_n (lv' := [(2, .int 0), (1, .int z146), (0, .ref h0)]) hx hb dX12_contract_211 rfl hl (by decide) rfl (fun ls hl => ?_)
                refine pz_loop (fun n0 H locs ls => ∃ f184 : Nat → va_E, ∃ w178 : Int32, n0 = (400 - (w178.toInt)).toNat ∧ tp_T (mo_O κ) κ τ ν ρ f184 ∧ tp_F τ [13, 32, 51, 53, 54, 56, 57] f f184 ∧ f184 h0 = .inr (12, [.int o107_x0, .int o107_x1, .ref (ρ h0 2), .ref (ρ h0 3), .ref (ρ h0 4), .ref (ρ h0 5), .ref (ρ h0 6), .int o107_x7, .ref (ρ h0 8), .int 0, .int o107_x10, .int o107_x11, .int o107_x12, .long o107_x13, .int o107_x14, .int o107_x15, .int o107_x16, .int o107_x17, .int o107_x18, .int o107_x19, .int o107_x20, .ref (ρ h0 21), .int o107_x22, .ref (ρ h0 23), .ref (ρ h0 24), .int o107_x25, .ref (ρ h0 26), .ref (ρ h0 27), .int o107_x28, .int o107_x29, .ref (ρ h0 30), .ref (ρ h0 31), .int o107_x32, .long o107_x33, .long o107_x34, .long o107_x35, .int o107_x36, .int o107_x37, .int o107_x38, .ref (ρ h0 39), .ref (ρ h0 40), .ref (ρ h0 41), .ref (ρ h0 42), .ref (ρ h0 43), .ref (ρ h0 44), .ref (ρ h0 45), .ref (ρ h0 46), .int o107_x47, .int o107_x48, .ref (ρ h0 49), .ref (ρ h0 50), .ref (ρ h0 51), .ref (ρ h0 52)]) ∧ f184 (ρ h0 21) = .inl (κ 0, 60, .inl g109) ∧ f184 (ρ h0 23) = .inl (κ 0, 400, .inl g111) ∧ f184 (ρ h0 24) = .inl (κ 0, 400, .inl g113) ∧ ((mo_RI (-1) 0 (mo_R (mo_i (f184 (ρ h0 2)))))) ∧ (((mo_R (mo_i (f184 (ρ h0 2)))) (8) = n8)) ∧ ((mo_CC (mo_R (mo_i (f184 (ρ h0 2)))) (2251 + 864 * n8) (mo_R (mo_i (f184 (ρ h0 21)))) (mo_R (mo_i (f184 (ρ h0 23)))) (mo_R (mo_i (f184 (ρ h0 24)))) (tp_fld (f184 h0) 20) (5 * o107_x20.toInt) (w178.toInt))) ∧ (0 ≤ w178.toInt ∧ w178.toInt ≤ 400) ∧ ((w178.toInt) ≤ o107_x22.toInt) ∧ va_P (dC, dI) vwCl (va_pl L f184) H ∧ va_D A (va_pl L f184) ∧ va_S A s.heap H locs ∧ lv_has ls 3 [(2, .int w178), (1, .int z146), (0, .ref h0)]) ?_ _ _ _ _ ⟨f167, 0, rfl, hT, hR, hk163k, hk164k, hk165k, hk166k, (by rw [hf_o173, mo_i1]; exact hI), (by rw [hf_o173, mo_i1]; have : (0 : Int32).toInt = 0 := rfl; omega), (by simp only [hk164k, hk165k, hk166k, hk163k, hf_o173, mo_i1, mo_l1]; exact (show mo_CC (mo_R g174) (2251 + 864 * n8) (mo_R g109) (mo_R g111) (mo_R g113) o107_x20.toInt (5 * o107_x20.toInt) (0 : Int32).toInt from (by have q8 : (0 : Int32).toInt = 0 := rfl; rw [q8]; have q9 := jf172; rw [show w158.toInt = 5 * o107_x20.toInt by omega] at q9; exact q9))), (by have : (0 : Int32).toInt = 0 := rfl; omega), (by have : (0 : Int32).toInt = 0 := rfl; omega), hP, hD, hS, lv_sub hl [0, 1, 2] rfl⟩
                intro n0 H locs ls hI ih186
                obtain ⟨f184, w178, hn187, hT, hR, hk180k, hk181k, hk182k, hk183k, hJ, jf188, jf189, rw178, k179, hP, hD, hS, hl⟩ := hI
                obtain ⟨g191, hf_o190⟩ := tpo_32 hT y1
                have hI : mo_RI (-1) 0 (mo_R g191) := by have q9 := hJ; rw [hf_o190, mo_i1] at q9; exact q9
                rw [hf_o190, mo_i1] at jf188
                have jf189 : mo_CC (mo_R g191) (2251 + 864 * n8) (mo_R g109) (mo_R g111) (mo_R g113) o107_x20.toInt (5 * o107_x20.toInt) (w178.toInt) := by have q9 := jf189; simp only [hk181k, hk182k, hk183k, hk180k, hf_o190, mo_i1, mo_l1] at q9; exact q9
                refine lv_iload_n hx hb dX12_contract_212 rfl (lv_at hl 0 rfl) ?_
                refine lv_aload_n hx hb dX12_contract_213 rfl (lv_at hl 2 rfl) ?_
                obtain ⟨q192, eq192⟩ := tp_pos (tp_in hG ht_h0 (by decide)) hk180k
                refine va_get (D := (dC, dI)) (ci := 12) (v := .int o107_x22) (C := RX12) (T := TX12) (N := 53) hx hb hts hfX12 hown hK hP q192 eq192 rfl 22 (by decide) (hts (.fieldLink RX12 297 "ColdShipsModel" "nCode" "I") wa_989) (fun _ h9 => h9) rfl dX12_contract_214 ?_
                refine lv_icmp_ge (tgt := 266) hx hb dX12_contract_217 (by decide) (fun c193 => ?_) (fun c193 => ?_)
                · have ic193 : w178.toInt ≥ o107_x22.toInt := zi_ge rfl rfl c193
                  have hco := ((jf106 (by omega)).2.2).co jf189 (by omega) (by omega) (by omega) (by omega)
                  refine lv_aload_n hx hb dX12_contract_266 rfl (lv_at hl 2 rfl) ?_
                  refine va_get (D := (dC, dI)) (ci := 12) (v := .ref (ρ h0 2)) (C := RX12) (T := TX12) (N := 53) hx hb hts hfX12 hown hK hP q192 eq192 rfl 2 (by decide) (hts (.fieldLink RX12 7 "ColdShipsModel" "row" "[I") wa_148) (fun _ h9 => h9) rfl dX12_contract_267 ?_
                  refine lv_bipush (v := 8) hx hb dX12_contract_270 (by decide) ?_
                  refine lv_dup2_11 hx hb dX12_contract_272 rfl rfl ?_
                  obtain ⟨q194, eq194⟩ := tp_pos (tp_in hG y1 (by decide)) hf_o190
                  refine va_iald hx hb hK hP q194 0 eq194 rfl (vp_in_iff.mpr ⟨by decide, by decide⟩) dX12_contract_273 ?_
                  refine lv_topi (fun z195 ez195 => ?_)
                  have jz195 : z195.toInt = mo_R g191 (8) := mo_rd ez195 (show (8 : Int32).toInt = (8) from by decide)
                  have kz195 := hI.k8
                  refine lv_iconst (v := 1) hx hb dX12_contract_274 (by decide) ?_
                  refine lv_iadd hx hb dX12_contract_275 ?_
                  refine lv_topi (fun z196 ez196 => ?_)
                  have iz196 : z196.toInt = z195.toInt + 1 := zi_add ez196 rfl rfl (by omega) (by omega)
                  refine va_iast hx hb hK hP hD hS q194 0 eq194 rfl (vp_in_iff.mpr ⟨by decide, by decide⟩) dX12_contract_276 (tp_k (.inl (κ 0, 12967, .inl (upd g191 (8 : Int32).toNatClampNeg z196))) hD (tp_in hG y1 (by decide)) eq194 (fun f197 H locs hP hD hS g199 k198 => ?_))
                  have hT := hT.up y1 g199 k198 tp_o32
                  have hR := hR.up y1 (by decide) k198
                  have hU : mo_U (mo_R g191) (mo_R (upd g191 (8 : Int32).toNatClampNeg z196)) (8) (z196.toInt) := mo_up (show (8 : Int32).toInt = (8) from by decide) (rfl : z196.toInt = _) (by omega)
                  generalize (upd g191 (8 : Int32).toNatClampNeg z196) = g200 at g199 hU
                  have hI := mo_w_nC hI hU n8 rfl jf188 (by omega) hco
                  have pn201 : mo_R g200 (8) = z196.toInt := hU.eq (by omega)
                  refine lv_aload_n hx hb dX12_contract_277 rfl (lv_at hl 2 rfl) ?_
                  refine lv_aload_n hx hb dX12_contract_278 rfl (lv_at hl 2 rfl) ?_
                  have hf_202 : f197 h0 = .inr (12, [.int o107_x0, .int o107_x1, .ref (ρ h0 2), .ref (ρ h0 3), .ref (ρ h0 4), .ref (ρ h0 5), .ref (ρ h0 6), .int o107_x7, .ref (ρ h0 8), .int 0, .int o107_x10, .int o107_x11, .int o107_x12, .long o107_x13, .int o107_x14, .int o107_x15, .int o107_x16, .int o107_x17, .int o107_x18, .int o107_x19, .int o107_x20, .ref (ρ h0 21), .int o107_x22, .ref (ρ h0 23), .ref (ρ h0 24), .int o107_x25, .ref (ρ h0 26), .ref (ρ h0 27), .int o107_x28, .int o107_x29, .ref (ρ h0 30), .ref (ρ h0 31), .int o107_x32, .long o107_x33, .long o107_x34, .long o107_x35, .int o107_x36, .int o107_x37, .int o107_x38, .ref (ρ h0 39), .ref (ρ h0 40), .ref (ρ h0 41), .ref (ρ h0 42), .ref (ρ h0 43), .ref (ρ h0 44), .ref (ρ h0 45), .ref (ρ h0 46), .int o107_x47, .int o107_x48, .ref (ρ h0 49), .ref (ρ h0 50), .ref (ρ h0 51), .ref (ρ h0 52)]) := (k198 _ (tp_ne ht_h0 y1 (by decide))).trans hk180k
                  obtain ⟨q203, eq203⟩ := tp_pos (tp_in hG ht_h0 (by decide)) hf_202
                  refine va_get (D := (dC, dI)) (ci := 12) (v := .ref (ρ h0 2)) (C := RX12) (T := TX12) (N := 53) hx hb hts hfX12 hown hK hP q203 eq203 rfl 2 (by decide) (hts (.fieldLink RX12 7 "ColdShipsModel" "row" "[I") wa_148) (fun _ h9 => h9) rfl dX12_contract_279 ?_
                  refine lv_bipush (v := 8) hx hb dX12_contract_282 (by decide) ?_
                  obtain ⟨q204, eq204⟩ := tp_pos (tp_in hG y1 (by decide)) g199
                  refine va_iald hx hb hK hP q204 0 eq204 rfl (vp_in_iff.mpr ⟨by decide, by decide⟩) dX12_contract_284 ?_
                  refine lv_topi (fun z205 ez205 => ?_)
                  have jz205 : z205.toInt = mo_R g200 (8) := mo_rd ez205 (show (8 : Int32).toInt = (8) from by decide)
                  have kz205 := hI.k8
                  refine lv_iconst (v := 1) hx hb dX12_contract_285 (by decide) ?_
                  refine lv_isub hx hb dX12_contract_286 ?_
                  refine lv_topi (fun z206 ez206 => ?_)
                  have iz206 : z206.toInt = z205.toInt - 1 := zi_sub ez206 rfl rfl (by omega) (by omega)
                  have hFc := tp_fr hD hS hA
                  refine va_calli (va_runV (As := [.int z206]) (rest := []) ⟨hx, hb, hml, hown, hts⟩ (t_X12_told l dC dI _ κ τ ν ρ L f197 hG hT h0 z206 ht_h0) (cwV 1 hts gX12_contract_X12_told rfl rfl rfl ⟨rfl, pd_X12_told⟩ ⟨Nat.le_of_ble_eq_true rfl, Nat.le_of_ble_eq_true rfl⟩) ⟨pz_blind, va_recv hK hP (ci := 12) (q0 := q203) rfl eq203, pz_pre hP hK hD hN⟩ rfl rfl hl.1 rfl (lv_room (Nat.le_of_ble_eq_true rfl)) dX12_contract_287 ⟨Nat.le_of_ble_eq_true rfl, Nat.le_of_ble_eq_true rfl⟩) hS (fun q _ h => hFc q h) hFc (fun r207 f209 t H1 locs ht hvm hw208 hB hz1 hk1 hS => ?_)
                  obtain ⟨hT, hF210, hw208r, hw208p⟩ := hw208
                  have hR := hR.then hF210 (by decide)
                  have hP := hB.1; rw [ht] at hP; have hD := tp_ad f209 hD; clear hB hFc hz1 hk1; subst ht; generalize t.heap = H at hP hS ⊢
                  have hw208pq : r207.toInt = z206.toInt := by rw [hw208p]
                  have hf_211 : f209 (ρ h0 2) = .inl (κ 0, 12967, .inl g200) := (hF210 _ (by rw [y1]; decide)).trans g199
                  exact W.iret (v := r207) hx hb hr (fun t ht hW => ⟨⟨r207, f209, rfl, ⟨hT, hR, trivial, (by rw [hf_211, mo_i1]; exact hI)⟩, by rw [ht]; exact hP, va_K.moved hW.alike hK, hD⟩, hS.F ht⟩) hS.2.2 dX12_contract_290
                · have ic193 : w178.toInt < o107_x22.toInt := zi_gef rfl rfl c193
                  refine lv_aload_n hx hb dX12_contract_220 rfl (lv_at hl 2 rfl) ?_
                  refine va_get (D := (dC, dI)) (ci := 12) (v := .ref (ρ h0 2)) (C := RX12) (T := TX12) (N := 53) hx hb hts hfX12 hown hK hP q192 eq192 rfl 2 (by decide) (hts (.fieldLink RX12 7 "ColdShipsModel" "row" "[I") wa_148) (fun _ h9 => h9) rfl dX12_contract_221 ?_
                  refine lv_iload_n hx hb dX12_contract_224 rfl (lv_at hl 1 rfl) ?_
                  refine lv_bipush (v := 64) hx hb dX12_contract_225 (by decide) ?_
                  refine lv_iadd hx hb dX12_contract_227 ?_
                  refine lv_topi (fun z212 ez212 => ?_)
                  have iz212 : z212.toInt = z146.toInt + 64 := zi_add ez212 rfl rfl (by omega) (by omega)
                  refine lv_iconst (v := 2) hx hb dX12_contract_228 (by decide) ?_
                  refine lv_iload_n hx hb dX12_contract_229 rfl (lv_at hl 0 rfl) ?_
                  refine lv_imul hx hb dX12_contract_230 ?_
                  refine lv_topi (fun z213 ez213 => ?_)
                  have iz213 : z213.toInt = 2 * w178.toInt := zi_mul ez213 rfl rfl (by omega) (by omega)
                  refine lv_iadd hx hb dX12_contract_231 ?_
                  refine lv_topi (fun z214 ez214 => ?_)
                  have iz214 : z214.toInt = z212.toInt + z213.toInt := zi_add ez214 rfl rfl (by omega) (by omega)
                  refine lv_aload_n hx hb dX12_contract_232 rfl (lv_at hl 2 rfl) ?_
                  refine va_get (D := (dC, dI)) (ci := 12) (v := .ref (ρ h0 23)) (C := RX12) (T := TX12) (N := 53) hx hb hts hfX12 hown hK hP q192 eq192 rfl 23 (by decide) (hts (.fieldLink RX12 37 "ColdShipsModel" "nOp" "[I") wa_157) (fun _ h9 => h9) rfl dX12_contract_233 ?_
                  refine lv_iload_n hx hb dX12_contract_236 rfl (lv_at hl 0 rfl) ?_
                  obtain ⟨q215, eq215⟩ := tp_pos (tp_in hG y8 (by decide)) hk182k
                  refine va_iald hx hb hK hP q215 0 eq215 rfl (vp_in_iff.mpr ⟨by omega, by omega⟩) dX12_contract_237 ?_
                  refine lv_topi (fun z216 ez216 => ?_)
                  have jz216 : z216.toInt = mo_R g111 w178.toInt := mo_rd ez216 (by omega)
                  obtain ⟨q217, eq217⟩ := tp_pos (tp_in hG y1 (by decide)) hf_o190
                  refine va_iast hx hb hK hP hD hS q217 0 eq217 rfl (vp_in_iff.mpr ⟨by omega, by omega⟩) dX12_contract_238 (tp_k (.inl (κ 0, 12967, .inl (upd g191 z214.toNatClampNeg z216))) hD (tp_in hG y1 (by decide)) eq217 (fun f218 H locs hP hD hS g220 k219 => ?_))
                  have hT := hT.up y1 g220 k219 tp_o32
                  have hR := hR.up y1 (by decide) k219
                  have hU : mo_U (mo_R g191) (mo_R (upd g191 z214.toNatClampNeg z216)) (2251 + 864 * n8 + 64 + 2 * w178.toInt) (z216.toInt) := mo_up (by omega) (rfl : z216.toInt = _) (by omega)
                  generalize (upd g191 z214.toNatClampNeg z216) = g221 at g220 hU
                  have hI := mo_w_con hI hU n8 (64 + 2 * w178.toInt) (by omega) (by omega) (by omega) (by omega)
                  have pn222 : mo_R g221 (8) = n8 := (hU.ne (by omega) (by omega)).trans jf188
                  have hU1 := hU
                  refine lv_aload_n hx hb dX12_contract_239 rfl (lv_at hl 2 rfl) ?_
                  have hf_223 : f218 h0 = .inr (12, [.int o107_x0, .int o107_x1, .ref (ρ h0 2), .ref (ρ h0 3), .ref (ρ h0 4), .ref (ρ h0 5), .ref (ρ h0 6), .int o107_x7, .ref (ρ h0 8), .int 0, .int o107_x10, .int o107_x11, .int o107_x12, .long o107_x13, .int o107_x14, .int o107_x15, .int o107_x16, .int o107_x17, .int o107_x18, .int o107_x19, .int o107_x20, .ref (ρ h0 21), .int o107_x22, .ref (ρ h0 23), .ref (ρ h0 24), .int o107_x25, .ref (ρ h0 26), .ref (ρ h0 27), .int o107_x28, .int o107_x29, .ref (ρ h0 30), .ref (ρ h0 31), .int o107_x32, .long o107_x33, .long o107_x34, .long o107_x35, .int o107_x36, .int o107_x37, .int o107_x38, .ref (ρ h0 39), .ref (ρ h0 40), .ref (ρ h0 41), .ref (ρ h0 42), .ref (ρ h0 43), .ref (ρ h0 44), .ref (ρ h0 45), .ref (ρ h0 46), .int o107_x47, .int o107_x48, .ref (ρ h0 49), .ref (ρ h0 50), .ref (ρ h0 51), .ref (ρ h0 52)]) := (k219 _ (tp_ne ht_h0 y1 (by decide))).trans hk180k
                  obtain ⟨q224, eq224⟩ := tp_pos (tp_in hG ht_h0 (by decide)) hf_223
                  refine va_get (D := (dC, dI)) (ci := 12) (v := .ref (ρ h0 2)) (C := RX12) (T := TX12) (N := 53) hx hb hts hfX12 hown hK hP q224 eq224 rfl 2 (by decide) (hts (.fieldLink RX12 7 "ColdShipsModel" "row" "[I") wa_148) (fun _ h9 => h9) rfl dX12_contract_240 ?_
                  refine lv_iload_n hx hb dX12_contract_243 rfl (lv_at hl 1 rfl) ?_
                  refine lv_bipush (v := 64) hx hb dX12_contract_244 (by decide) ?_
                  refine lv_iadd hx hb dX12_contract_246 ?_
                  refine lv_topi (fun z225 ez225 => ?_)
                  have iz225 : z225.toInt = z146.toInt + 64 := zi_add ez225 rfl rfl (by omega) (by omega)
                  refine lv_iconst (v := 2) hx hb dX12_contract_247 (by decide) ?_
                  refine lv_iload_n hx hb dX12_contract_248 rfl (lv_at hl 0 rfl) ?_
                  refine lv_imul hx hb dX12_contract_249 ?_
                  refine lv_topi (fun z226 ez226 => ?_)
                  have iz226 : z226.toInt = 2 * w178.toInt := zi_mul ez226 rfl rfl (by omega) (by omega)
                  refine lv_iadd hx hb dX12_contract_250 ?_
                  refine lv_topi (fun z227 ez227 => ?_)
                  have iz227 : z227.toInt = z225.toInt + z226.toInt := zi_add ez227 rfl rfl (by omega) (by omega)
                  refine lv_iconst (v := 1) hx hb dX12_contract_251 (by decide) ?_
                  refine lv_iadd hx hb dX12_contract_252 ?_
                  refine lv_topi (fun z228 ez228 => ?_)
                  have iz228 : z228.toInt = z227.toInt + 1 := zi_add ez228 rfl rfl (by omega) (by omega)
                  refine lv_aload_n hx hb dX12_contract_253 rfl (lv_at hl 2 rfl) ?_
                  refine va_get (D := (dC, dI)) (ci := 12) (v := .ref (ρ h0 24)) (C := RX12) (T := TX12) (N := 53) hx hb hts hfX12 hown hK hP q224 eq224 rfl 24 (by decide) (hts (.fieldLink RX12 40 "ColdShipsModel" "nArg" "[I") wa_158) (fun _ h9 => h9) rfl dX12_contract_254 ?_
                  refine lv_iload_n hx hb dX12_contract_257 rfl (lv_at hl 0 rfl) ?_
                  have hf_229 : f218 (ρ h0 24) = .inl (κ 0, 400, .inl g113) := (k219 _ (tp_ne y9 y1 (by decide))).trans hk183k
                  obtain ⟨q230, eq230⟩ := tp_pos (tp_in hG y9 (by decide)) hf_229
                  refine va_iald hx hb hK hP q230 0 eq230 rfl (vp_in_iff.mpr ⟨by omega, by omega⟩) dX12_contract_258 ?_
                  refine lv_topi (fun z231 ez231 => ?_)
                  have jz231 : z231.toInt = mo_R g113 w178.toInt := mo_rd ez231 (by omega)
                  obtain ⟨q232, eq232⟩ := tp_pos (tp_in hG y1 (by decide)) g220
                  refine va_iast hx hb hK hP hD hS q232 0 eq232 rfl (vp_in_iff.mpr ⟨by omega, by omega⟩) dX12_contract_259 (tp_k (.inl (κ 0, 12967, .inl (upd g221 z228.toNatClampNeg z231))) hD (tp_in hG y1 (by decide)) eq232 (fun f233 H locs hP hD hS g235 k234 => ?_))
                  have hT := hT.up y1 g235 k234 tp_o32
                  have hR := hR.up y1 (by decide) k234
                  have hU : mo_U (mo_R g221) (mo_R (upd g221 z228.toNatClampNeg z231)) (2251 + 864 * n8 + 65 + 2 * w178.toInt) (z231.toInt) := mo_up (by omega) (rfl : z231.toInt = _) (by omega)
                  generalize (upd g221 z228.toNatClampNeg z231) = g236 at g235 hU
                  have hI := mo_w_con hI hU n8 (65 + 2 * w178.toInt) (by omega) (by omega) (by omega) (by omega)
                  have pn237 : mo_R g236 (8) = n8 := (hU.ne (by omega) (by omega)).trans pn222
                  obtain ⟨z238, ez238⟩ : ∃ y : Int32, y = w178 + 1 := ⟨_, rfl⟩
                  refine lv_iinc (v := z238) (lv' := [(2, .int z238), (1, .int z146), (0, .ref h0)]) hx hb dX12_contract_260 hl (k := 0) rfl (by rw [ez238]; rfl) (by decide) rfl (fun ls hl => ?_)
                  have iz238 : z238.toInt = w178.toInt + 1 := zi_add ez238 rfl rfl (by omega) (by omega)
                  refine lv_goto (tgt := 212) hx hb dX12_contract_263 (by decide) ?_
                  have hf_239 : f218 (ρ h0 21) = .inl (κ 0, 60, .inl g109) := (k219 _ (tp_ne y7 y1 (by decide))).trans hk181k
                  have hf_240 : f233 (ρ h0 21) = .inl (κ 0, 60, .inl g109) := (k234 _ (tp_ne y7 y1 (by decide))).trans hf_239
                  have hf_241 : f218 (ρ h0 23) = .inl (κ 0, 400, .inl g111) := (k219 _ (tp_ne y8 y1 (by decide))).trans hk182k
                  have hf_242 : f233 (ρ h0 23) = .inl (κ 0, 400, .inl g111) := (k234 _ (tp_ne y8 y1 (by decide))).trans hf_241
                  have hf_243 : f233 (ρ h0 24) = .inl (κ 0, 400, .inl g113) := (k234 _ (tp_ne y9 y1 (by decide))).trans hf_229
                  have hf_244 : f233 h0 = .inr (12, [.int o107_x0, .int o107_x1, .ref (ρ h0 2), .ref (ρ h0 3), .ref (ρ h0 4), .ref (ρ h0 5), .ref (ρ h0 6), .int o107_x7, .ref (ρ h0 8), .int 0, .int o107_x10, .int o107_x11, .int o107_x12, .long o107_x13, .int o107_x14, .int o107_x15, .int o107_x16, .int o107_x17, .int o107_x18, .int o107_x19, .int o107_x20, .ref (ρ h0 21), .int o107_x22, .ref (ρ h0 23), .ref (ρ h0 24), .int o107_x25, .ref (ρ h0 26), .ref (ρ h0 27), .int o107_x28, .int o107_x29, .ref (ρ h0 30), .ref (ρ h0 31), .int o107_x32, .long o107_x33, .long o107_x34, .long o107_x35, .int o107_x36, .int o107_x37, .int o107_x38, .ref (ρ h0 39), .ref (ρ h0 40), .ref (ρ h0 41), .ref (ρ h0 42), .ref (ρ h0 43), .ref (ρ h0 44), .ref (ρ h0 45), .ref (ρ h0 46), .int o107_x47, .int o107_x48, .ref (ρ h0 49), .ref (ρ h0 50), .ref (ρ h0 51), .ref (ρ h0 52)]) := (k234 _ (tp_ne ht_h0 y1 (by decide))).trans hf_223
                  exact ih186 _ _ _ _ (by rw [hn187]; omega) ⟨f233, z238, rfl, hT, hR, hf_244, hf_240, hf_242, hf_243, (by rw [g235, mo_i1]; exact hI), (by rw [g235, mo_i1]; omega), (by simp only [hf_240, hf_242, hf_243, hf_244, g235, mo_i1, mo_l1]; exact (show mo_CC (mo_R g236) (2251 + 864 * n8) (mo_R g109) (mo_R g111) (mo_R g113) o107_x20.toInt (5 * o107_x20.toInt) (z238.toInt) from jf189.o (by omega) (by omega) (by omega) hU1 (by omega) (by omega) hU (by omega) (by omega) (by omega))), (by omega), (by omega), hP, hD, hS, lv_sub hl [0, 1, 2] rfl⟩
              · have ic177 : w158.toInt < z176.toInt := zi_gef rfl rfl c177
                refine lv_aload_n hx hb dX12_contract_188 rfl (lv_at hl 2 rfl) ?_
                refine va_get (D := (dC, dI)) (ci := 12) (v := .ref (ρ h0 2)) (C := RX12) (T := TX12) (N := 53) hx hb hts hfX12 hown hK hP q175 eq175 rfl 2 (by decide) (hts (.fieldLink RX12 7 "ColdShipsModel" "row" "[I") wa_148) (fun _ h9 => h9) rfl dX12_contract_189 ?_
                refine lv_iload_n hx hb dX12_contract_192 rfl (lv_at hl 1 rfl) ?_
                refine lv_iconst (v := 4) hx hb dX12_contract_193 (by decide) ?_
                refine lv_iadd hx hb dX12_contract_194 ?_
                refine lv_topi (fun z245 ez245 => ?_)
                have iz245 : z245.toInt = z146.toInt + 4 := zi_add ez245 rfl rfl (by omega) (by omega)
                refine lv_iload_n hx hb dX12_contract_195 rfl (lv_at hl 0 rfl) ?_
                refine lv_iadd hx hb dX12_contract_196 ?_
                refine lv_topi (fun z246 ez246 => ?_)
                have iz246 : z246.toInt = z245.toInt + w158.toInt := zi_add ez246 rfl rfl (by omega) (by omega)
                refine lv_aload_n hx hb dX12_contract_197 rfl (lv_at hl 2 rfl) ?_
                refine va_get (D := (dC, dI)) (ci := 12) (v := .ref (ρ h0 21)) (C := RX12) (T := TX12) (N := 53) hx hb hts hfX12 hown hK hP q175 eq175 rfl 21 (by decide) (hts (.fieldLink RX12 34 "ColdShipsModel" "nClause" "[I") wa_156) (fun _ h9 => h9) rfl dX12_contract_198 ?_
                refine lv_iload_n hx hb dX12_contract_201 rfl (lv_at hl 0 rfl) ?_
                obtain ⟨q247, eq247⟩ := tp_pos (tp_in hG y7 (by decide)) hk164k
                refine va_iald hx hb hK hP q247 0 eq247 rfl (vp_in_iff.mpr ⟨by omega, by omega⟩) dX12_contract_202 ?_
                refine lv_topi (fun z248 ez248 => ?_)
                have jz248 : z248.toInt = mo_R g109 w158.toInt := mo_rd ez248 (by omega)
                obtain ⟨q249, eq249⟩ := tp_pos (tp_in hG y1 (by decide)) hf_o173
                refine va_iast hx hb hK hP hD hS q249 0 eq249 rfl (vp_in_iff.mpr ⟨by omega, by omega⟩) dX12_contract_203 (tp_k (.inl (κ 0, 12967, .inl (upd g174 z246.toNatClampNeg z248))) hD (tp_in hG y1 (by decide)) eq249 (fun f250 H locs hP hD hS g252 k251 => ?_))
                have hT := hT.up y1 g252 k251 tp_o32
                have hR := hR.up y1 (by decide) k251
                have hU : mo_U (mo_R g174) (mo_R (upd g174 z246.toNatClampNeg z248)) (2251 + 864 * n8 + 4 + w158.toInt) (z248.toInt) := mo_up (by omega) (rfl : z248.toInt = _) (by omega)
                generalize (upd g174 z246.toNatClampNeg z248) = g253 at g252 hU
                have hI := mo_w_con hI hU n8 (4 + w158.toInt) (by omega) (by omega) (by omega) (by omega)
                have pn254 : mo_R g253 (8) = n8 := (hU.ne (by omega) (by omega)).trans jf171
                obtain ⟨z255, ez255⟩ : ∃ y : Int32, y = w158 + 1 := ⟨_, rfl⟩
                refine lv_iinc (v := z255) (lv' := [(2, .int z255), (1, .int z146), (0, .ref h0)]) hx hb dX12_contract_204 hl (k := 0) rfl (by rw [ez255]; rfl) (by decide) rfl (fun ls hl => ?_)
                have iz255 : z255.toInt = w158.toInt + 1 := zi_add ez255 rfl rfl (by omega) (by omega)
                refine lv_goto (tgt := 178) hx hb dX12_contract_207 (by decide) ?_
                have hf_256 : f250 (ρ h0 21) = .inl (κ 0, 60, .inl g109) := (k251 _ (tp_ne y7 y1 (by decide))).trans hk164k
                have hf_257 : f250 (ρ h0 23) = .inl (κ 0, 400, .inl g111) := (k251 _ (tp_ne y8 y1 (by decide))).trans hk165k
                have hf_258 : f250 (ρ h0 24) = .inl (κ 0, 400, .inl g113) := (k251 _ (tp_ne y9 y1 (by decide))).trans hk166k
                have hf_259 : f250 h0 = .inr (12, [.int o107_x0, .int o107_x1, .ref (ρ h0 2), .ref (ρ h0 3), .ref (ρ h0 4), .ref (ρ h0 5), .ref (ρ h0 6), .int o107_x7, .ref (ρ h0 8), .int 0, .int o107_x10, .int o107_x11, .int o107_x12, .long o107_x13, .int o107_x14, .int o107_x15, .int o107_x16, .int o107_x17, .int o107_x18, .int o107_x19, .int o107_x20, .ref (ρ h0 21), .int o107_x22, .ref (ρ h0 23), .ref (ρ h0 24), .int o107_x25, .ref (ρ h0 26), .ref (ρ h0 27), .int o107_x28, .int o107_x29, .ref (ρ h0 30), .ref (ρ h0 31), .int o107_x32, .long o107_x33, .long o107_x34, .long o107_x35, .int o107_x36, .int o107_x37, .int o107_x38, .ref (ρ h0 39), .ref (ρ h0 40), .ref (ρ h0 41), .ref (ρ h0 42), .ref (ρ h0 43), .ref (ρ h0 44), .ref (ρ h0 45), .ref (ρ h0 46), .int o107_x47, .int o107_x48, .ref (ρ h0 49), .ref (ρ h0 50), .ref (ρ h0 51), .ref (ρ h0 52)]) := (k251 _ (tp_ne ht_h0 y1 (by decide))).trans hk163k
                exact ih169 _ _ _ _ (by rw [hn170]; omega) ⟨f250, z255, rfl, hT, hR, hf_259, hf_256, hf_257, hf_258, (by rw [g252, mo_i1]; exact hI), (by rw [g252, mo_i1]; omega), (by simp only [hf_256, hf_257, hf_258, hf_259, g252, mo_i1, mo_l1]; exact (show mo_CC (mo_R g253) (2251 + 864 * n8) (mo_R g109) (mo_R g111) (mo_R g113) o107_x20.toInt (z255.toInt) 0 from jf172.c (by omega) (by omega) hU (by omega) (by omega) (by omega))), (by omega), (by omega), hP, hD, hS, lv_sub hl [0, 1, 2] rfl⟩
            · have ic138 : o107_x15.toInt ≠ 0 := zi_eqf rfl rfl c138
              exfalso; omega
          · have ic133 : o107_x12.toInt ≠ 0 := zi_eqf rfl rfl c133
            refine lv_aload_n hx hb dX12_contract_115 rfl (lv_at hl 0 rfl) ?_
            refine lv_iconst (v := 0) hx hb dX12_contract_116 (by decide) ?_
            have hFc := tp_fr hD hS hA
            refine va_callv (va_runV (As := [.int 0]) (rest := []) ⟨hx, hb, hml, hown, hts⟩ (t_X12_must l dC dI _ κ τ ν ρ L f101 hG hT h0 (0) ht_h0 (by first | decide | omega) (by simp only [hf_o107, mo_i1, mo_l1]; exact (show (o107_x10.toInt ≤ o107_x11.toInt ∧ o107_x11.toInt ≤ o107_x9.toInt ∧ (o107_x12.toInt = 0 ∨ o107_x10.toInt < o107_x11.toInt) ∧ (o107_x12.toInt = 1 → o107_x11.toInt = o107_x10.toInt + 1 → o107_x13.toInt ≤ 26)) from by have : (0 : Int32).toInt = 0 := rfl; first | omega | decide))) (cwV 1 hts gX12_contract_X12_must rfl rfl rfl ⟨rfl, pd_X12_must⟩ ⟨Nat.le_of_ble_eq_true rfl, Nat.le_of_ble_eq_true rfl⟩) ⟨pz_blind, va_recv hK hP (ci := 12) (q0 := q114) rfl eq114, pz_pre hP hK hD hN⟩ rfl rfl hl.1 rfl (lv_room (Nat.le_of_ble_eq_true rfl)) dX12_contract_117 ⟨Nat.le_of_ble_eq_true rfl, Nat.le_of_ble_eq_true rfl⟩) hS (fun q _ h => hFc q h) hFc (fun f262 t H1 locs ht hvm hw261 hB hz1 hk1 hS => ?_)
            obtain ⟨hT, hF263, hw261p⟩ := hw261
            have hR := hR.then hF263 (by decide)
            have hP := hB.1; rw [ht] at hP; have hD := tp_ad f262 hD; clear hB hFc hz1 hk1; subst ht; generalize t.heap = H at hP hS ⊢
            obtain ⟨o264_x0, o264_x1, o264_x7, o264_x9, o264_x10, o264_x11, o264_x12, o264_x13, o264_x14, o264_x15, o264_x16, o264_x17, o264_x18, o264_x19, o264_x20, o264_x22, o264_x25, o264_x28, o264_x29, o264_x32, o264_x33, o264_x34, o264_x35, o264_x36, o264_x37, o264_x38, o264_x47, o264_x48, hf_o264, ro264_0, ro264_1, ro264_2, ro264_3, ro264_4, ro264_5, ro264_6, ro264_7, ro264_8, ro264_9, ro264_10, ro264_11, ro264_12, ro264_13⟩ := tpo_13 hT ht_h0
            have tk265 : (o264_x10.toInt ≤ o264_x11.toInt ∧ o264_x11.toInt ≤ o264_x9.toInt ∧ (o264_x12.toInt = 0 ∨ o264_x10.toInt < o264_x11.toInt) ∧ (o264_x12.toInt = 1 → o264_x11.toInt = o264_x10.toInt + 1 → o264_x13.toInt ≤ 26)) ∧ (o264_x15.toInt = 0 → o107_x15.toInt = 0 ∧ o107_x11.toInt ≤ o264_x10.toInt ∧ (0) ≠ 0) ∧ (o264_x15.toInt ≠ 0 → o264_x10.toInt = o107_x10.toInt) ∧ o264_x9.toInt = o107_x9.toInt ∧ o264_x19.toInt = o107_x19.toInt ∧ o264_x20.toInt = o107_x20.toInt ∧ o264_x22.toInt = o107_x22.toInt ∧ o264_x28.toInt = o107_x28.toInt := by have q9 := hw261p; simp only [hf_o264, hf_o107, mo_i1, mo_l1] at q9; exact q9
            refine lv_aload_n hx hb dX12_contract_120 rfl (lv_at hl 0 rfl) ?_
            refine lv_iconst (v := 0) hx hb dX12_contract_121 (by decide) ?_
            obtain ⟨q266, eq266⟩ := tp_pos (tp_in hG ht_h0 (by decide)) hf_o264
            refine va_put (D := (dC, dI)) (ci := 12) (v := .int 0) (ty := .int) (C := RX12) (T := TX12) (N := 53) hx hb hts hfX12 tyX12 tyX12_ok nmX12 hown hK hP hD hS q266 eq266 rfl 9 (by decide) (hts (.fieldLink RX12 252 "ColdShipsModel" "taped" "I") wa_774) (fun _ h9 => h9) rfl (tyX12_ok 9 (by decide)) rfl rfl (Nat.le_of_ble_eq_true rfl) dX12_contract_122 (tp_k (.inr (12, [.int o264_x0, .int o264_x1, .ref (ρ h0 2), .ref (ρ h0 3), .ref (ρ h0 4), .ref (ρ h0 5), .ref (ρ h0 6), .int o264_x7, .ref (ρ h0 8), .int 0, .int o264_x10, .int o264_x11, .int o264_x12, .long o264_x13, .int o264_x14, .int o264_x15, .int o264_x16, .int o264_x17, .int o264_x18, .int o264_x19, .int o264_x20, .ref (ρ h0 21), .int o264_x22, .ref (ρ h0 23), .ref (ρ h0 24), .int o264_x25, .ref (ρ h0 26), .ref (ρ h0 27), .int o264_x28, .int o264_x29, .ref (ρ h0 30), .ref (ρ h0 31), .int o264_x32, .long o264_x33, .long o264_x34, .long o264_x35, .int o264_x36, .int o264_x37, .int o264_x38, .ref (ρ h0 39), .ref (ρ h0 40), .ref (ρ h0 41), .ref (ρ h0 42), .ref (ρ h0 43), .ref (ρ h0 44), .ref (ρ h0 45), .ref (ρ h0 46), .int o264_x47, .int o264_x48, .ref (ρ h0 49), .ref (ρ h0 50), .ref (ρ h0 51), .ref (ρ h0 52)])) hD (tp_in hG ht_h0 (by decide)) eq266 (fun f267 H locs hP hD hS g269 k268 => ?_))
            have hT := hT.up ht_h0 g269 k268 ⟨_, _, _, _, _, _, _, _, _, _, _, _, _, _, _, _, _, _, _, _, _, _, _, _, _, _, _, _, rfl, ro264_0, (by decide), ro264_2, ro264_3, ro264_4, ro264_5, ro264_6, ro264_7, ro264_8, ro264_9, ro264_10, ro264_11, ro264_12, ro264_13⟩
            have hR := hR.up ht_h0 (by decide) k268
            refine lv_aload_n hx hb dX12_contract_125 rfl (lv_at hl 0 rfl) ?_
            obtain ⟨q270, eq270⟩ := tp_pos (tp_in hG ht_h0 (by decide)) g269
            refine va_get (D := (dC, dI)) (ci := 12) (v := .int o264_x15) (C := RX12) (T := TX12) (N := 53) hx hb hts hfX12 hown hK hP q270 eq270 rfl 15 (by decide) (hts (.fieldLink RX12 261 "ColdShipsModel" "bad" "Z") wa_994) (fun _ h9 => h9) rfl dX12_contract_126 ?_
            refine lv_if_eq (tgt := 139) hx hb dX12_contract_129 (by decide) (fun c271 => ?_) (fun c271 => ?_)
            · have ic271 : o264_x15.toInt = 0 := zi_eq rfl rfl c271
              have hf_272 : f262 (ρ h0 21) = .inl (κ 0, 60, .inl g109) := (hF263 _ (by rw [y7]; decide)).trans hf_o108
              have hf_273 : f267 (ρ h0 21) = .inl (κ 0, 60, .inl g109) := (k268 _ (tp_ne y7 ht_h0 (by decide))).trans hf_272
              have hf_274 : f262 (ρ h0 23) = .inl (κ 0, 400, .inl g111) := (hF263 _ (by rw [y8]; decide)).trans hf_o110
              have hf_275 : f267 (ρ h0 23) = .inl (κ 0, 400, .inl g111) := (k268 _ (tp_ne y8 ht_h0 (by decide))).trans hf_274
              have hf_276 : f262 (ρ h0 24) = .inl (κ 0, 400, .inl g113) := (hF263 _ (by rw [y9]; decide)).trans hf_o112
              have hf_277 : f267 (ρ h0 24) = .inl (κ 0, 400, .inl g113) := (k268 _ (tp_ne y9 ht_h0 (by decide))).trans hf_276
              refine lv_sipush (v := 2251) hx hb dX12_contract_139 (by decide) ?_
              refine lv_sipush (v := 864) hx hb dX12_contract_142 (by decide) ?_
              refine lv_aload_n hx hb dX12_contract_145 rfl (lv_at hl 0 rfl) ?_
              refine va_get (D := (dC, dI)) (ci := 12) (v := .ref (ρ h0 2)) (C := RX12) (T := TX12) (N := 53) hx hb hts hfX12 hown hK hP q270 eq270 rfl 2 (by decide) (hts (.fieldLink RX12 7 "ColdShipsModel" "row" "[I") wa_148) (fun _ h9 => h9) rfl dX12_contract_146 ?_
              refine lv_bipush (v := 8) hx hb dX12_contract_149 (by decide) ?_
              have hf_278 : f262 (ρ h0 2) = .inl (κ 0, 12967, .inl g27) := (hF263 _ (by rw [y1]; decide)).trans hk100k
              have hf_279 : f267 (ρ h0 2) = .inl (κ 0, 12967, .inl g27) := (k268 _ (tp_ne y1 ht_h0 (by decide))).trans hf_278
              obtain ⟨q280, eq280⟩ := tp_pos (tp_in hG y1 (by decide)) hf_279
              refine va_iald hx hb hK hP q280 0 eq280 rfl (vp_in_iff.mpr ⟨by decide, by decide⟩) dX12_contract_151 ?_
              refine lv_topi (fun z281 ez281 => ?_)
              have jz281 : z281.toInt = mo_R g27 (8) := mo_rd ez281 (show (8 : Int32).toInt = (8) from by decide)
              have kz281 := hI.k8
              refine lv_imul hx hb dX12_contract_152 ?_
              refine lv_topi (fun z282 ez282 => ?_)
              have iz282 : z282.toInt = 864 * z281.toInt := zi_mul ez282 rfl rfl (by omega) (by omega)
              refine lv_iadd hx hb dX12_contract_153 ?_
              refine lv_topi (fun z283 ez283 => ?_)
              have iz283 : z283.toInt = 2251 + z282.toInt := zi_add ez283 rfl rfl (by omega) (by omega)
              refine lv_istore_n (lv' := [(1, .int z283), (0, .ref h0)]) hx hb dX12_contract_154 rfl hl (by decide) rfl (fun ls hl => ?_)
              refine lv_aload_n hx hb dX12_contract_155 rfl (lv_at hl 1 rfl) ?_
              refine lv_iload_n hx hb dX12_contract_156 rfl (lv_at hl 0 rfl) ?_
              refine lv_aload_n hx hb dX12_contract_157 rfl (lv_at hl 1 rfl) ?_
              refine va_get (D := (dC, dI)) (ci := 12) (v := .int o264_x16) (C := RX12) (T := TX12) (N := 53) hx hb hts hfX12 hown hK hP q270 eq270 rfl 16 (by decide) (hts (.fieldLink RX12 398 "ColdShipsModel" "nFrom" "I") wa_991) (fun _ h9 => h9) rfl dX12_contract_158 ?_
              refine lv_aload_n hx hb dX12_contract_161 rfl (lv_at hl 1 rfl) ?_
              refine va_get (D := (dC, dI)) (ci := 12) (v := .int o264_x17) (C := RX12) (T := TX12) (N := 53) hx hb hts hfX12 hown hK hP q270 eq270 rfl 17 (by decide) (hts (.fieldLink RX12 403 "ColdShipsModel" "nTo" "I") wa_992) (fun _ h9 => h9) rfl dX12_contract_162 ?_
              refine lv_aload_n hx hb dX12_contract_165 rfl (lv_at hl 1 rfl) ?_
              refine va_get (D := (dC, dI)) (ci := 12) (v := .int o264_x18) (C := RX12) (T := TX12) (N := 53) hx hb hts hfX12 hown hK hP q270 eq270 rfl 18 (by decide) (hts (.fieldLink RX12 408 "ColdShipsModel" "nAt" "I") wa_993) (fun _ h9 => h9) rfl dX12_contract_166 ?_
              refine lv_aload_n hx hb dX12_contract_169 rfl (lv_at hl 1 rfl) ?_
              refine va_get (D := (dC, dI)) (ci := 12) (v := .int o264_x20) (C := RX12) (T := TX12) (N := 53) hx hb hts hfX12 hown hK hP q270 eq270 rfl 20 (by decide) (hts (.fieldLink RX12 411 "ColdShipsModel" "nPays" "I") wa_988) (fun _ h9 => h9) rfl dX12_contract_170 ?_
              have hFc := tp_fr hD hS hA
              refine va_callv (va_runV (As := [.int z283, .int o264_x16, .int o264_x17, .int o264_x18, .int o264_x20]) (rest := []) ⟨hx, hb, hml, hown, hts⟩ (t_X12_addFour l dC dI _ κ τ ν ρ L f267 hG hT h0 z283 o264_x16 o264_x17 o264_x18 o264_x20 ht_h0 (by first | decide | omega)) (cwV 5 hts gX12_contract_X12_addFour rfl rfl rfl ⟨rfl, pd_X12_addFour⟩ ⟨Nat.le_of_ble_eq_true rfl, Nat.le_of_ble_eq_true rfl⟩) ⟨pz_blind, va_recv hK hP (ci := 12) (q0 := q270) rfl eq270, pz_pre hP hK hD hN⟩ rfl rfl hl.1 rfl (lv_room (Nat.le_of_ble_eq_true rfl)) dX12_contract_173 ⟨Nat.le_of_ble_eq_true rfl, Nat.le_of_ble_eq_true rfl⟩) hS (fun q _ h => hFc q h) hFc (fun f286 t H1 locs ht hvm hw285 hB hz1 hk1 hS => ?_)
              obtain ⟨hT, hF287, hw285p⟩ := hw285
              have hR := hR.then hF287 (by decide)
              have hP := hB.1; rw [ht] at hP; have hD := tp_ad f286 hD; clear hB hFc hz1 hk1; subst ht; generalize t.heap = H at hP hS ⊢
              rw [hf_279, mo_i1] at hw285p
              obtain ⟨Q1_287, Q2_287, Q3_287, u1_287, u2_287, u3_287, u4_287⟩ := hw285p
              obtain ⟨g289, hf_o288⟩ := tpo_32 hT y1
              rw [hf_o288, mo_i1] at u4_287
              have hU : mo_U (mo_R g27) (Q1_287) (2251 + 864 * n8 + 0) (o264_x16.toInt) := by have q9 := u1_287; rw [show z283.toInt = (2251 + 864 * n8 + 0) by omega] at q9; exact q9
              have hI := mo_w_con hI hU n8 (0) (by omega) (by omega) (by omega) (by omega)
              have pn290 : Q1_287 (8) = n8 := (hU.ne (by omega) (by omega)).trans en8.symm
              have hU : mo_U (Q1_287) (Q2_287) (2251 + 864 * n8 + 1) (o264_x17.toInt) := by have q9 := u2_287; rw [show z283.toInt + 1 = (2251 + 864 * n8 + 1) by omega] at q9; exact q9
              have hI := mo_w_con hI hU n8 (1) (by omega) (by omega) (by omega) (by omega)
              have pn291 : Q2_287 (8) = n8 := (hU.ne (by omega) (by omega)).trans pn290
              have hU : mo_U (Q2_287) (Q3_287) (2251 + 864 * n8 + 2) (o264_x18.toInt) := by have q9 := u3_287; rw [show z283.toInt + 2 = (2251 + 864 * n8 + 2) by omega] at q9; exact q9
              have hI := mo_w_con hI hU n8 (2) (by omega) (by omega) (by omega) (by omega)
              have pn292 : Q3_287 (8) = n8 := (hU.ne (by omega) (by omega)).trans pn291
              have hU : mo_U (Q3_287) (mo_R g289) (2251 + 864 * n8 + 3) (o264_x20.toInt) := by have q9 := u4_287; rw [show z283.toInt + 3 = (2251 + 864 * n8 + 3) by omega] at q9; exact q9
              have hI := mo_w_con hI hU n8 (3) (by omega) (by omega) (by omega) (by omega)
              have pn293 : mo_R g289 (8) = n8 := (hU.ne (by omega) (by omega)).trans pn292
              have hcc3 : mo_R g289 (2251 + 864 * n8 + 3) = o264_x20.toInt := hU.eq (by omega)
              refine lv_iconst (v := 0) hx hb dX12_contract_176 (by decide) ?_
              refine lv_istore_n (lv' := [(2, .int 0), (1, .int z283), (0, .ref h0)]) hx hb dX12_contract_177 rfl hl (by decide) rfl (fun ls hl => ?_)
              have hf_294 : f286 h0 = .inr (12, [.int o264_x0, .int o264_x1, .ref (ρ h0 2), .ref (ρ h0 3), .ref (ρ h0 4), .ref (ρ h0 5), .ref (ρ h0 6), .int o264_x7, .ref (ρ h0 8), .int 0, .int o264_x10, .int o264_x11, .int o264_x12, .long o264_x13, .int o264_x14, .int o264_x15, .int o264_x16, .int o264_x17, .int o264_x18, .int o264_x19, .int o264_x20, .ref (ρ h0 21), .int o264_x22, .ref (ρ h0 23), .ref (ρ h0 24), .int o264_x25, .ref (ρ h0 26), .ref (ρ h0 27), .int o264_x28, .int o264_x29, .ref (ρ h0 30), .ref (ρ h0 31), .int o264_x32, .long o264_x33, .long o264_x34, .long o264_x35, .int o264_x36, .int o264_x37, .int o264_x38, .ref (ρ h0 39), .ref (ρ h0 40), .ref (ρ h0 41), .ref (ρ h0 42), .ref (ρ h0 43), .ref (ρ h0 44), .ref (ρ h0 45), .ref (ρ h0 46), .int o264_x47, .int o264_x48, .ref (ρ h0 49), .ref (ρ h0 50), .ref (ρ h0 51), .ref (ρ h0 52)]) := (hF287 _ (by rw [ht_h0]; decide)).trans g269
              have hf_297 : f286 (ρ h0 21) = .inl (κ 0, 60, .inl g109) := (hF287 _ (by rw [y7]; decide)).trans hf_273
              have hf_298 : f286 (ρ h0 23) = .inl (κ 0, 400, .inl g111) := (hF287 _ (by rw [y8]; decide)).trans hf_275
              have hf_299 : f286 (ρ h0 24) = .inl (κ 0, 400, .inl g113) := (hF287 _ (by rw [y9]; decide)).trans hf_277
              refine pz_loop (fun n0 H locs ls => ∃ f304 : Nat → va_E, ∃ w295 : Int32, n0 = (60 - (w295.toInt)).toNat ∧ tp_T (mo_O κ) κ τ ν ρ f304 ∧ tp_F τ [13, 32, 51, 53, 54, 56, 57] f f304 ∧ f304 h0 = .inr (12, [.int o264_x0, .int o264_x1, .ref (ρ h0 2), .ref (ρ h0 3), .ref (ρ h0 4), .ref (ρ h0 5), .ref (ρ h0 6), .int o264_x7, .ref (ρ h0 8), .int 0, .int o264_x10, .int o264_x11, .int o264_x12, .long o264_x13, .int o264_x14, .int o264_x15, .int o264_x16, .int o264_x17, .int o264_x18, .int o264_x19, .int o264_x20, .ref (ρ h0 21), .int o264_x22, .ref (ρ h0 23), .ref (ρ h0 24), .int o264_x25, .ref (ρ h0 26), .ref (ρ h0 27), .int o264_x28, .int o264_x29, .ref (ρ h0 30), .ref (ρ h0 31), .int o264_x32, .long o264_x33, .long o264_x34, .long o264_x35, .int o264_x36, .int o264_x37, .int o264_x38, .ref (ρ h0 39), .ref (ρ h0 40), .ref (ρ h0 41), .ref (ρ h0 42), .ref (ρ h0 43), .ref (ρ h0 44), .ref (ρ h0 45), .ref (ρ h0 46), .int o264_x47, .int o264_x48, .ref (ρ h0 49), .ref (ρ h0 50), .ref (ρ h0 51), .ref (ρ h0 52)]) ∧ f304 (ρ h0 21) = .inl (κ 0, 60, .inl g109) ∧ f304 (ρ h0 23) = .inl (κ 0, 400, .inl g111) ∧ f304 (ρ h0 24) = .inl (κ 0, 400, .inl g113) ∧ ((mo_RI (-1) 0 (mo_R (mo_i (f304 (ρ h0 2)))))) ∧ (((mo_R (mo_i (f304 (ρ h0 2)))) (8) = n8)) ∧ ((mo_CC (mo_R (mo_i (f304 (ρ h0 2)))) (2251 + 864 * n8) (mo_R (mo_i (f304 (ρ h0 21)))) (mo_R (mo_i (f304 (ρ h0 23)))) (mo_R (mo_i (f304 (ρ h0 24)))) (tp_fld (f304 h0) 20) (w295.toInt) 0)) ∧ (0 ≤ w295.toInt ∧ w295.toInt ≤ 60) ∧ ((w295.toInt) ≤ 5 * o264_x20.toInt) ∧ va_P (dC, dI) vwCl (va_pl L f304) H ∧ va_D A (va_pl L f304) ∧ va_S A s.heap H locs ∧ lv_has ls 3 [(2, .int w295), (1, .int z283), (0, .ref h0)]) ?_ _ _ _ _ ⟨f286, 0, rfl, hT, hR, hf_294, hf_297, hf_298, hf_299, (by rw [hf_o288, mo_i1]; exact hI), (by rw [hf_o288, mo_i1]; have : (0 : Int32).toInt = 0 := rfl; omega), (by simp only [hf_297, hf_298, hf_299, hf_294, hf_o288, mo_i1, mo_l1]; exact (show mo_CC (mo_R g289) (2251 + 864 * n8) (mo_R g109) (mo_R g111) (mo_R g113) o264_x20.toInt (0 : Int32).toInt 0 from mo_CC.rf _ _ _ hcc3 (by decide) (by decide))), (by have : (0 : Int32).toInt = 0 := rfl; omega), (by have : (0 : Int32).toInt = 0 := rfl; omega), hP, hD, hS, lv_sub hl [0, 1, 2] rfl⟩
              intro n0 H locs ls hI ih306
              obtain ⟨f304, w295, hn307, hT, hR, hk300k, hk301k, hk302k, hk303k, hJ, jf308, jf309, rw295, k296, hP, hD, hS, hl⟩ := hI
              obtain ⟨g311, hf_o310⟩ := tpo_32 hT y1
              have hI : mo_RI (-1) 0 (mo_R g311) := by have q9 := hJ; rw [hf_o310, mo_i1] at q9; exact q9
              rw [hf_o310, mo_i1] at jf308
              have jf309 : mo_CC (mo_R g311) (2251 + 864 * n8) (mo_R g109) (mo_R g111) (mo_R g113) o264_x20.toInt (w295.toInt) 0 := by have q9 := jf309; simp only [hk301k, hk302k, hk303k, hk300k, hf_o310, mo_i1, mo_l1] at q9; exact q9
              refine lv_iload_n hx hb dX12_contract_178 rfl (lv_at hl 0 rfl) ?_
              refine lv_iconst (v := 5) hx hb dX12_contract_179 (by decide) ?_
              refine lv_aload_n hx hb dX12_contract_180 rfl (lv_at hl 2 rfl) ?_
              obtain ⟨q312, eq312⟩ := tp_pos (tp_in hG ht_h0 (by decide)) hk300k
              refine va_get (D := (dC, dI)) (ci := 12) (v := .int o264_x20) (C := RX12) (T := TX12) (N := 53) hx hb hts hfX12 hown hK hP q312 eq312 rfl 20 (by decide) (hts (.fieldLink RX12 411 "ColdShipsModel" "nPays" "I") wa_988) (fun _ h9 => h9) rfl dX12_contract_181 ?_
              refine lv_imul hx hb dX12_contract_184 ?_
              refine lv_topi (fun z313 ez313 => ?_)
              have iz313 : z313.toInt = 5 * o264_x20.toInt := zi_mul ez313 rfl rfl (by omega) (by omega)
              refine lv_icmp_ge (tgt := 210) hx hb dX12_contract_185 (by decide) (fun c314 => ?_) (fun c314 => ?_)
              · have ic314 : w295.toInt ≥ z313.toInt := zi_ge rfl rfl c314
                refine lv_iconst (v := 0) hx hb dX12_contract_210 (by decide) ?_
                refine lv_istore_n (lv' := [(2, .int 0), (1, .int z283), (0, .ref h0)]) hx hb dX12_contract_211 rfl hl (by decide) rfl (fun ls hl => ?_)
                refine pz_loop (fun n0 H locs ls => ∃ f321 : Nat → va_E, ∃ w315 : Int32, n0 = (400 - (w315.toInt)).toNat ∧ tp_T (mo_O κ) κ τ ν ρ f321 ∧ tp_F τ [13, 32, 51, 53, 54, 56, 57] f f321 ∧ f321 h0 = .inr (12, [.int o264_x0, .int o264_x1, .ref (ρ h0 2), .ref (ρ h0 3), .ref (ρ h0 4), .ref (ρ h0 5), .ref (ρ h0 6), .int o264_x7, .ref (ρ h0 8), .int 0, .int o264_x10, .int o264_x11, .int o264_x12, .long o264_x13, .int o264_x14, .int o264_x15, .int o264_x16, .int o264_x17, .int o264_x18, .int o264_x19, .int o264_x20, .ref (ρ h0 21), .int o264_x22, .ref (ρ h0 23), .ref (ρ h0 24), .int o264_x25, .ref (ρ h0 26), .ref (ρ h0 27), .int o264_x28, .int o264_x29, .ref (ρ h0 30), .ref (ρ h0 31), .int o264_x32, .long o264_x33, .long o264_x34, .long o264_x35, .int o264_x36, .int o264_x37, .int o264_x38, .ref (ρ h0 39), .ref (ρ h0 40), .ref (ρ h0 41), .ref (ρ h0 42), .ref (ρ h0 43), .ref (ρ h0 44), .ref (ρ h0 45), .ref (ρ h0 46), .int o264_x47, .int o264_x48, .ref (ρ h0 49), .ref (ρ h0 50), .ref (ρ h0 51), .ref (ρ h0 52)]) ∧ f321 (ρ h0 21) = .inl (κ 0, 60, .inl g109) ∧ f321 (ρ h0 23) = .inl (κ 0, 400, .inl g111) ∧ f321 (ρ h0 24) = .inl (κ 0, 400, .inl g113) ∧ ((mo_RI (-1) 0 (mo_R (mo_i (f321 (ρ h0 2)))))) ∧ (((mo_R (mo_i (f321 (ρ h0 2)))) (8) = n8)) ∧ ((mo_CC (mo_R (mo_i (f321 (ρ h0 2)))) (2251 + 864 * n8) (mo_R (mo_i (f321 (ρ h0 21)))) (mo_R (mo_i (f321 (ρ h0 23)))) (mo_R (mo_i (f321 (ρ h0 24)))) (tp_fld (f321 h0) 20) (5 * o264_x20.toInt) (w315.toInt))) ∧ (0 ≤ w315.toInt ∧ w315.toInt ≤ 400) ∧ ((w315.toInt) ≤ o264_x22.toInt) ∧ va_P (dC, dI) vwCl (va_pl L f321) H ∧ va_D A (va_pl L f321) ∧ va_S A s.heap H locs ∧ lv_has ls 3 [(2, .int w315), (1, .int z283), (0, .ref h0)]) ?_ _ _ _ _ ⟨f304, 0, rfl, hT, hR, hk300k, hk301k, hk302k, hk303k, (by rw [hf_o310, mo_i1]; exact hI), (by rw [hf_o310, mo_i1]; have : (0 : Int32).toInt = 0 := rfl; omega), (by simp only [hk301k, hk302k, hk303k, hk300k, hf_o310, mo_i1, mo_l1]; exact (show mo_CC (mo_R g311) (2251 + 864 * n8) (mo_R g109) (mo_R g111) (mo_R g113) o264_x20.toInt (5 * o264_x20.toInt) (0 : Int32).toInt from (by have q8 : (0 : Int32).toInt = 0 := rfl; rw [q8]; have q9 := jf309; rw [show w295.toInt = 5 * o264_x20.toInt by omega] at q9; exact q9))), (by have : (0 : Int32).toInt = 0 := rfl; omega), (by have : (0 : Int32).toInt = 0 := rfl; omega), hP, hD, hS, lv_sub hl [0, 1, 2] rfl⟩
                intro n0 H locs ls hI ih323
                obtain ⟨f321, w315, hn324, hT, hR, hk317k, hk318k, hk319k, hk320k, hJ, jf325, jf326, rw315, k316, hP, hD, hS, hl⟩ := hI
                obtain ⟨g328, hf_o327⟩ := tpo_32 hT y1
                have hI : mo_RI (-1) 0 (mo_R g328) := by have q9 := hJ; rw [hf_o327, mo_i1] at q9; exact q9
                rw [hf_o327, mo_i1] at jf325
                have jf326 : mo_CC (mo_R g328) (2251 + 864 * n8) (mo_R g109) (mo_R g111) (mo_R g113) o264_x20.toInt (5 * o264_x20.toInt) (w315.toInt) := by have q9 := jf326; simp only [hk318k, hk319k, hk320k, hk317k, hf_o327, mo_i1, mo_l1] at q9; exact q9
                refine lv_iload_n hx hb dX12_contract_212 rfl (lv_at hl 0 rfl) ?_
                refine lv_aload_n hx hb dX12_contract_213 rfl (lv_at hl 2 rfl) ?_
                obtain ⟨q329, eq329⟩ := tp_pos (tp_in hG ht_h0 (by decide)) hk317k
                refine va_get (D := (dC, dI)) (ci := 12) (v := .int o264_x22) (C := RX12) (T := TX12) (N := 53) hx hb hts hfX12 hown hK hP q329 eq329 rfl 22 (by decide) (hts (.fieldLink RX12 297 "ColdShipsModel" "nCode" "I") wa_989) (fun _ h9 => h9) rfl dX12_contract_214 ?_
                refine lv_icmp_ge (tgt := 266) hx hb dX12_contract_217 (by decide) (fun c330 => ?_) (fun c330 => ?_)
                · have ic330 : w315.toInt ≥ o264_x22.toInt := zi_ge rfl rfl c330
                  have hco := ((jf106 (by omega)).2.2).co jf326 (by omega) (by omega) (by omega) (by omega)
                  refine lv_aload_n hx hb dX12_contract_266 rfl (lv_at hl 2 rfl) ?_
                  refine va_get (D := (dC, dI)) (ci := 12) (v := .ref (ρ h0 2)) (C := RX12) (T := TX12) (N := 53) hx hb hts hfX12 hown hK hP q329 eq329 rfl 2 (by decide) (hts (.fieldLink RX12 7 "ColdShipsModel" "row" "[I") wa_148) (fun _ h9 => h9) rfl dX12_contract_267 ?_
                  refine lv_bipush (v := 8) hx hb dX12_contract_270 (by decide) ?_
                  refine lv_dup2_11 hx hb dX12_contract_272 rfl rfl ?_
                  obtain ⟨q331, eq331⟩ := tp_pos (tp_in hG y1 (by decide)) hf_o327
                  refine va_iald hx hb hK hP q331 0 eq331 rfl (vp_in_iff.mpr ⟨by decide, by decide⟩) dX12_contract_273 ?_
                  refine lv_topi (fun z332 ez332 => ?_)
                  have jz332 : z332.toInt = mo_R g328 (8) := mo_rd ez332 (show (8 : Int32).toInt = (8) from by decide)
                  have kz332 := hI.k8
                  refine lv_iconst (v := 1) hx hb dX12_contract_274 (by decide) ?_
                  refine lv_iadd hx hb dX12_contract_275 ?_
                  refine lv_topi (fun z333 ez333 => ?_)
                  have iz333 : z333.toInt = z332.toInt + 1 := zi_add ez333 rfl rfl (by omega) (by omega)
                  refine va_iast hx hb hK hP hD hS q331 0 eq331 rfl (vp_in_iff.mpr ⟨by decide, by decide⟩) dX12_contract_276 (tp_k (.inl (κ 0, 12967, .inl (upd g328 (8 : Int32).toNatClampNeg z333))) hD (tp_in hG y1 (by decide)) eq331 (fun f334 H locs hP hD hS g336 k335 => ?_))
                  have hT := hT.up y1 g336 k335 tp_o32
                  have hR := hR.up y1 (by decide) k335
                  have hU : mo_U (mo_R g328) (mo_R (upd g328 (8 : Int32).toNatClampNeg z333)) (8) (z333.toInt) := mo_up (show (8 : Int32).toInt = (8) from by decide) (rfl : z333.toInt = _) (by omega)
                  generalize (upd g328 (8 : Int32).toNatClampNeg z333) = g337 at g336 hU
                  have hI := mo_w_nC hI hU n8 rfl jf325 (by omega) hco
                  have pn338 : mo_R g337 (8) = z333.toInt := hU.eq (by omega)
                  refine lv_aload_n hx hb dX12_contract_277 rfl (lv_at hl 2 rfl) ?_
                  refine lv_aload_n hx hb dX12_contract_278 rfl (lv_at hl 2 rfl) ?_
                  have hf_339 : f334 h0 = .inr (12, [.int o264_x0, .int o264_x1, .ref (ρ h0 2), .ref (ρ h0 3), .ref (ρ h0 4), .ref (ρ h0 5), .ref (ρ h0 6), .int o264_x7, .ref (ρ h0 8), .int 0, .int o264_x10, .int o264_x11, .int o264_x12, .long o264_x13, .int o264_x14, .int o264_x15, .int o264_x16, .int o264_x17, .int o264_x18, .int o264_x19, .int o264_x20, .ref (ρ h0 21), .int o264_x22, .ref (ρ h0 23), .ref (ρ h0 24), .int o264_x25, .ref (ρ h0 26), .ref (ρ h0 27), .int o264_x28, .int o264_x29, .ref (ρ h0 30), .ref (ρ h0 31), .int o264_x32, .long o264_x33, .long o264_x34, .long o264_x35, .int o264_x36, .int o264_x37, .int o264_x38, .ref (ρ h0 39), .ref (ρ h0 40), .ref (ρ h0 41), .ref (ρ h0 42), .ref (ρ h0 43), .ref (ρ h0 44), .ref (ρ h0 45), .ref (ρ h0 46), .int o264_x47, .int o264_x48, .ref (ρ h0 49), .ref (ρ h0 50), .ref (ρ h0 51), .ref (ρ h0 52)]) := (k335 _ (tp_ne ht_h0 y1 (by decide))).trans hk317k
                  obtain ⟨q340, eq340⟩ := tp_pos (tp_in hG ht_h0 (by decide)) hf_339
                  refine va_get (D := (dC, dI)) (ci := 12) (v := .ref (ρ h0 2)) (C := RX12) (T := TX12) (N := 53) hx hb hts hfX12 hown hK hP q340 eq340 rfl 2 (by decide) (hts (.fieldLink RX12 7 "ColdShipsModel" "row" "[I") wa_148) (fun _ h9 => h9) rfl dX12_contract_279 ?_
                  refine lv_bipush (v := 8) hx hb dX12_contract_282 (by decide) ?_
                  obtain ⟨q341, eq341⟩ := tp_pos (tp_in hG y1 (by decide)) g336
                  refine va_iald hx hb hK hP q341 0 eq341 rfl (vp_in_iff.mpr ⟨by decide, by decide⟩) dX12_contract_284 ?_
                  refine lv_topi (fun z342 ez342 => ?_)
                  have jz342 : z342.toInt = mo_R g337 (8) := mo_rd ez342 (show (8 : Int32).toInt = (8) from by decide)
                  have kz342 := hI.k8
                  refine lv_iconst (v := 1) hx hb dX12_contract_285 (by decide) ?_
                  refine lv_isub hx hb dX12_contract_286 ?_
                  refine lv_topi (fun z343 ez343 => ?_)
                  have iz343 : z343.toInt = z342.toInt - 1 := zi_sub ez343 rfl rfl (by omega) (by omega)
                  have hFc := tp_fr hD hS hA
                  refine va_calli (va_runV (As := [.int z343]) (rest := []) ⟨hx, hb, hml, hown, hts⟩ (t_X12_told l dC dI _ κ τ ν ρ L f334 hG hT h0 z343 ht_h0) (cwV 1 hts gX12_contract_X12_told rfl rfl rfl ⟨rfl, pd_X12_told⟩ ⟨Nat.le_of_ble_eq_true rfl, Nat.le_of_ble_eq_true rfl⟩) ⟨pz_blind, va_recv hK hP (ci := 12) (q0 := q340) rfl eq340, pz_pre hP hK hD hN⟩ rfl rfl hl.1 rfl (lv_room (Nat.le_of_ble_eq_true rfl)) dX12_contract_287 ⟨Nat.le_of_ble_eq_true rfl, Nat.le_of_ble_eq_true rfl⟩) hS (fun q _ h => hFc q h) hFc (fun r344 f346 t H1 locs ht hvm hw345 hB hz1 hk1 hS => ?_)
                  obtain ⟨hT, hF347, hw345r, hw345p⟩ := hw345
                  have hR := hR.then hF347 (by decide)
                  have hP := hB.1; rw [ht] at hP; have hD := tp_ad f346 hD; clear hB hFc hz1 hk1; subst ht; generalize t.heap = H at hP hS ⊢
                  have hw345pq : r344.toInt = z343.toInt := by rw [hw345p]
                  have hf_348 : f346 (ρ h0 2) = .inl (κ 0, 12967, .inl g337) := (hF347 _ (by rw [y1]; decide)).trans g336
                  exact W.iret (v := r344) hx hb hr (fun t ht hW => ⟨⟨r344, f346, rfl, ⟨hT, hR, trivial, (by rw [hf_348, mo_i1]; exact hI)⟩, by rw [ht]; exact hP, va_K.moved hW.alike hK, hD⟩, hS.F ht⟩) hS.2.2 dX12_contract_290
                · have ic330 : w315.toInt < o264_x22.toInt := zi_gef rfl rfl c330
                  refine lv_aload_n hx hb dX12_contract_220 rfl (lv_at hl 2 rfl) ?_
                  refine va_get (D := (dC, dI)) (ci := 12) (v := .ref (ρ h0 2)) (C := RX12) (T := TX12) (N := 53) hx hb hts hfX12 hown hK hP q329 eq329 rfl 2 (by decide) (hts (.fieldLink RX12 7 "ColdShipsModel" "row" "[I") wa_148) (fun _ h9 => h9) rfl dX12_contract_221 ?_
                  refine lv_iload_n hx hb dX12_contract_224 rfl (lv_at hl 1 rfl) ?_
                  refine lv_bipush (v := 64) hx hb dX12_contract_225 (by decide) ?_
                  refine lv_iadd hx hb dX12_contract_227 ?_
                  refine lv_topi (fun z349 ez349 => ?_)
                  have iz349 : z349.toInt = z283.toInt + 64 := zi_add ez349 rfl rfl (by omega) (by omega)
                  refine lv_iconst (v := 2) hx hb dX12_contract_228 (by decide) ?_
                  refine lv_iload_n hx hb dX12_contract_229 rfl (lv_at hl 0 rfl) ?_
                  refine lv_imul hx hb dX12_contract_230 ?_
                  refine lv_topi (fun z350 ez350 => ?_)
                  have iz350 : z350.toInt = 2 * w315.toInt := zi_mul ez350 rfl rfl (by omega) (by omega)
                  refine lv_iadd hx hb dX12_contract_231 ?_
                  refine lv_topi (fun z351 ez351 => ?_)
                  have iz351 : z351.toInt = z349.toInt + z350.toInt := zi_add ez351 rfl rfl (by omega) (by omega)
                  refine lv_aload_n hx hb dX12_contract_232 rfl (lv_at hl 2 rfl) ?_
                  refine va_get (D := (dC, dI)) (ci := 12) (v := .ref (ρ h0 23)) (C := RX12) (T := TX12) (N := 53) hx hb hts hfX12 hown hK hP q329 eq329 rfl 23 (by decide) (hts (.fieldLink RX12 37 "ColdShipsModel" "nOp" "[I") wa_157) (fun _ h9 => h9) rfl dX12_contract_233 ?_
                  refine lv_iload_n hx hb dX12_contract_236 rfl (lv_at hl 0 rfl) ?_
                  obtain ⟨q352, eq352⟩ := tp_pos (tp_in hG y8 (by decide)) hk319k
                  refine va_iald hx hb hK hP q352 0 eq352 rfl (vp_in_iff.mpr ⟨by omega, by omega⟩) dX12_contract_237 ?_
                  refine lv_topi (fun z353 ez353 => ?_)
                  have jz353 : z353.toInt = mo_R g111 w315.toInt := mo_rd ez353 (by omega)
                  obtain ⟨q354, eq354⟩ := tp_pos (tp_in hG y1 (by decide)) hf_o327
                  refine va_iast hx hb hK hP hD hS q354 0 eq354 rfl (vp_in_iff.mpr ⟨by omega, by omega⟩) dX12_contract_238 (tp_k (.inl (κ 0, 12967, .inl (upd g328 z351.toNatClampNeg z353))) hD (tp_in hG y1 (by decide)) eq354 (fun f355 H locs hP hD hS g357 k356 => ?_))
                  have hT := hT.up y1 g357 k356 tp_o32
                  have hR := hR.up y1 (by decide) k356
                  have hU : mo_U (mo_R g328) (mo_R (upd g328 z351.toNatClampNeg z353)) (2251 + 864 * n8 + 64 + 2 * w315.toInt) (z353.toInt) := mo_up (by omega) (rfl : z353.toInt = _) (by omega)
                  generalize (upd g328 z351.toNatClampNeg z353) = g358 at g357 hU
                  have hI := mo_w_con hI hU n8 (64 + 2 * w315.toInt) (by omega) (by omega) (by omega) (by omega)
                  have pn359 : mo_R g358 (8) = n8 := (hU.ne (by omega) (by omega)).trans jf325
                  have hU1 := hU
                  refine lv_aload_n hx hb dX12_contract_239 rfl (lv_at hl 2 rfl) ?_
                  have hf_360 : f355 h0 = .inr (12, [.int o264_x0, .int o264_x1, .ref (ρ h0 2), .ref (ρ h0 3), .ref (ρ h0 4), .ref (ρ h0 5), .ref (ρ h0 6), .int o264_x7, .ref (ρ h0 8), .int 0, .int o264_x10, .int o264_x11, .int o264_x12, .long o264_x13, .int o264_x14, .int o264_x15, .int o264_x16, .int o264_x17, .int o264_x18, .int o264_x19, .int o264_x20, .ref (ρ h0 21), .int o264_x22, .ref (ρ h0 23), .ref (ρ h0 24), .int o264_x25, .ref (ρ h0 26), .ref (ρ h0 27), .int o264_x28, .int o264_x29, .ref (ρ h0 30), .ref (ρ h0 31), .int o264_x32, .long o264_x33, .long o264_x34, .long o264_x35, .int o264_x36, .int o264_x37, .int o264_x38, .ref (ρ h0 39), .ref (ρ h0 40), .ref (ρ h0 41), .ref (ρ h0 42), .ref (ρ h0 43), .ref (ρ h0 44), .ref (ρ h0 45), .ref (ρ h0 46), .int o264_x47, .int o264_x48, .ref (ρ h0 49), .ref (ρ h0 50), .ref (ρ h0 51), .ref (ρ h0 52)]) := (k356 _ (tp_ne ht_h0 y1 (by decide))).trans hk317k
                  obtain ⟨q361, eq361⟩ := tp_pos (tp_in hG ht_h0 (by decide)) hf_360
                  refine va_get (D := (dC, dI)) (ci := 12) (v := .ref (ρ h0 2)) (C := RX12) (T := TX12) (N := 53) hx hb hts hfX12 hown hK hP q361 eq361 rfl 2 (by decide) (hts (.fieldLink RX12 7 "ColdShipsModel" "row" "[I") wa_148) (fun _ h9 => h9) rfl dX12_contract_240 ?_
                  refine lv_iload_n hx hb dX12_contract_243 rfl (lv_at hl 1 rfl) ?_
                  refine lv_bipush (v := 64) hx hb dX12_contract_244 (by decide) ?_
                  refine lv_iadd hx hb dX12_contract_246 ?_
                  refine lv_topi (fun z362 ez362 => ?_)
                  have iz362 : z362.toInt = z283.toInt + 64 := zi_add ez362 rfl rfl (by omega) (by omega)
                  refine lv_iconst (v := 2) hx hb dX12_contract_247 (by decide) ?_
                  refine lv_iload_n hx hb dX12_contract_248 rfl (lv_at hl 0 rfl) ?_
                  refine lv_imul hx hb dX12_contract_249 ?_
                  refine lv_topi (fun z363 ez363 => ?_)
                  have iz363 : z363.toInt = 2 * w315.toInt := zi_mul ez363 rfl rfl (by omega) (by omega)
                  refine lv_iadd hx hb dX12_contract_250 ?_
                  refine lv_topi (fun z364 ez364 => ?_)
                  have iz364 : z364.toInt = z362.toInt + z363.toInt := zi_add ez364 rfl rfl (by omega) (by omega)
                  refine lv_iconst (v := 1) hx hb dX12_contract_251 (by decide) ?_
                  refine lv_iadd hx hb dX12_contract_252 ?_
                  refine lv_topi (fun z365 ez365 => ?_)
                  have iz365 : z365.toInt = z364.toInt + 1 := zi_add ez365 rfl rfl (by omega) (by omega)
                  refine lv_aload_n hx hb dX12_contract_253 rfl (lv_at hl 2 rfl) ?_
                  refine va_get (D := (dC, dI)) (ci := 12) (v := .ref (ρ h0 24)) (C := RX12) (T := TX12) (N := 53) hx hb hts hfX12 hown hK hP q361 eq361 rfl 24 (by decide) (hts (.fieldLink RX12 40 "ColdShipsModel" "nArg" "[I") wa_158) (fun _ h9 => h9) rfl dX12_contract_254 ?_
                  refine lv_iload_n hx hb dX12_contract_257 rfl (lv_at hl 0 rfl) ?_
                  have hf_366 : f355 (ρ h0 24) = .inl (κ 0, 400, .inl g113) := (k356 _ (tp_ne y9 y1 (by decide))).trans hk320k
                  obtain ⟨q367, eq367⟩ := tp_pos (tp_in hG y9 (by decide)) hf_366
                  refine va_iald hx hb hK hP q367 0 eq367 rfl (vp_in_iff.mpr ⟨by omega, by omega⟩) dX12_contract_258 ?_
                  refine lv_topi (fun z368 ez368 => ?_)
                  have jz368 : z368.toInt = mo_R g113 w315.toInt := mo_rd ez368 (by omega)
                  obtain ⟨q369, eq369⟩ := tp_pos (tp_in hG y1 (by decide)) g357
                  refine va_iast hx hb hK hP hD hS q369 0 eq369 rfl (vp_in_iff.mpr ⟨by omega, by omega⟩) dX12_contract_259 (tp_k (.inl (κ 0, 12967, .inl (upd g358 z365.toNatClampNeg z368))) hD (tp_in hG y1 (by decide)) eq369 (fun f370 H locs hP hD hS g372 k371 => ?_))
                  have hT := hT.up y1 g372 k371 tp_o32
                  have hR := hR.up y1 (by decide) k371
                  have hU : mo_U (mo_R g358) (mo_R (upd g358 z365.toNatClampNeg z368)) (2251 + 864 * n8 + 65 + 2 * w315.toInt) (z368.toInt) := mo_up (by omega) (rfl : z368.toInt = _) (by omega)
                  generalize (upd g358 z365.toNatClampNeg z368) = g373 at g372 hU
                  have hI := mo_w_con hI hU n8 (65 + 2 * w315.toInt) (by omega) (by omega) (by omega) (by omega)
                  have pn374 : mo_R g373 (8) = n8 := (hU.ne (by omega) (by omega)).trans pn359
                  obtain ⟨z375, ez375⟩ : ∃ y : Int32, y = w315 + 1 := ⟨_, rfl⟩
                  refine lv_iinc (v := z375) (lv' := [(2, .int z375), (1, .int z283), (0, .ref h0)]) hx hb dX12_contract_260 hl (k := 0) rfl (by rw [ez375]; rfl) (by decide) rfl (fun ls hl => ?_)
                  have iz375 : z375.toInt = w315.toInt + 1 := zi_add ez375 rfl rfl (by omega) (by omega)
                  refine lv_goto (tgt := 212) hx hb dX12_contract_263 (by decide) ?_
                  have hf_376 : f355 (ρ h0 21) = .inl (κ 0, 60, .inl g109) := (k356 _ (tp_ne y7 y1 (by decide))).trans hk318k
                  have hf_377 : f370 (ρ h0 21) = .inl (κ 0, 60, .inl g109) := (k371 _ (tp_ne y7 y1 (by decide))).trans hf_376
                  have hf_378 : f355 (ρ h0 23) = .inl (κ 0, 400, .inl g111) := (k356 _ (tp_ne y8 y1 (by decide))).trans hk319k
                  have hf_379 : f370 (ρ h0 23) = .inl (κ 0, 400, .inl g111) := (k371 _ (tp_ne y8 y1 (by decide))).trans hf_378
                  have hf_380 : f370 (ρ h0 24) = .inl (κ 0, 400, .inl g113) := (k371 _ (tp_ne y9 y1 (by decide))).trans hf_366
                  have hf_381 : f370 h0 = .inr (12, [.int o264_x0, .int o264_x1, .ref (ρ h0 2), .ref (ρ h0 3), .ref (ρ h0 4), .ref (ρ h0 5), .ref (ρ h0 6), .int o264_x7, .ref (ρ h0 8), .int 0, .int o264_x10, .int o264_x11, .int o264_x12, .long o264_x13, .int o264_x14, .int o264_x15, .int o264_x16, .int o264_x17, .int o264_x18, .int o264_x19, .int o264_x20, .ref (ρ h0 21), .int o264_x22, .ref (ρ h0 23), .ref (ρ h0 24), .int o264_x25, .ref (ρ h0 26), .ref (ρ h0 27), .int o264_x28, .int o264_x29, .ref (ρ h0 30), .ref (ρ h0 31), .int o264_x32, .long o264_x33, .long o264_x34, .long o264_x35, .int o264_x36, .int o264_x37, .int o264_x38, .ref (ρ h0 39), .ref (ρ h0 40), .ref (ρ h0 41), .ref (ρ h0 42), .ref (ρ h0 43), .ref (ρ h0 44), .ref (ρ h0 45), .ref (ρ h0 46), .int o264_x47, .int o264_x48, .ref (ρ h0 49), .ref (ρ h0 50), .ref (ρ h0 51), .ref (ρ h0 52)]) := (k371 _ (tp_ne ht_h0 y1 (by decide))).trans hf_360
                  exact ih323 _ _ _ _ (by rw [hn324]; omega) ⟨f370, z375, rfl, hT, hR, hf_381, hf_377, hf_379, hf_380, (by rw [g372, mo_i1]; exact hI), (by rw [g372, mo_i1]; omega), (by simp only [hf_377, hf_379, hf_380, hf_381, g372, mo_i1, mo_l1]; exact (show mo_CC (mo_R g373) (2251 + 864 * n8) (mo_R g109) (mo_R g111) (mo_R g113) o264_x20.toInt (5 * o264_x20.toInt) (z375.toInt) from jf326.o (by omega) (by omega) (by omega) hU1 (by omega) (by omega) hU (by omega) (by omega) (by omega))), (by omega), (by omega), hP, hD, hS, lv_sub hl [0, 1, 2] rfl⟩
              · have ic314 : w295.toInt < z313.toInt := zi_gef rfl rfl c314
                refine lv_aload_n hx hb dX12_contract_188 rfl (lv_at hl 2 rfl) ?_
                refine va_get (D := (dC, dI)) (ci := 12) (v := .ref (ρ h0 2)) (C := RX12) (T := TX12) (N := 53) hx hb hts hfX12 hown hK hP q312 eq312 rfl 2 (by decide) (hts (.fieldLink RX12 7 "ColdShipsModel" "row" "[I") wa_148) (fun _ h9 => h9) rfl dX12_contract_189 ?_
                refine lv_iload_n hx hb dX12_contract_192 rfl (lv_at hl 1 rfl) ?_
                refine lv_iconst (v := 4) hx hb dX12_contract_193 (by decide) ?_
                refine lv_iadd hx hb dX12_contract_194 ?_
                refine lv_topi (fun z382 ez382 => ?_)
                have iz382 : z382.toInt = z283.toInt + 4 := zi_add ez382 rfl rfl (by omega) (by omega)
                refine lv_iload_n hx hb dX12_contract_195 rfl (lv_at hl 0 rfl) ?_
                refine lv_iadd hx hb dX12_contract_196 ?_
                refine lv_topi (fun z383 ez383 => ?_)
                have iz383 : z383.toInt = z382.toInt + w295.toInt := zi_add ez383 rfl rfl (by omega) (by omega)
                refine lv_aload_n hx hb dX12_contract_197 rfl (lv_at hl 2 rfl) ?_
                refine va_get (D := (dC, dI)) (ci := 12) (v := .ref (ρ h0 21)) (C := RX12) (T := TX12) (N := 53) hx hb hts hfX12 hown hK hP q312 eq312 rfl 21 (by decide) (hts (.fieldLink RX12 34 "ColdShipsModel" "nClause" "[I") wa_156) (fun _ h9 => h9) rfl dX12_contract_198 ?_
                refine lv_iload_n hx hb dX12_contract_201 rfl (lv_at hl 0 rfl) ?_
                obtain ⟨q384, eq384⟩ := tp_pos (tp_in hG y7 (by decide)) hk301k
                refine va_iald hx hb hK hP q384 0 eq384 rfl (vp_in_iff.mpr ⟨by omega, by omega⟩) dX12_contract_202 ?_
                refine lv_topi (fun z385 ez385 => ?_)
                have jz385 : z385.toInt = mo_R g109 w295.toInt := mo_rd ez385 (by omega)
                obtain ⟨q386, eq386⟩ := tp_pos (tp_in hG y1 (by decide)) hf_o310
                refine va_iast hx hb hK hP hD hS q386 0 eq386 rfl (vp_in_iff.mpr ⟨by omega, by omega⟩) dX12_contract_203 (tp_k (.inl (κ 0, 12967, .inl (upd g311 z383.toNatClampNeg z385))) hD (tp_in hG y1 (by decide)) eq386 (fun f387 H locs hP hD hS g389 k388 => ?_))
                have hT := hT.up y1 g389 k388 tp_o32
                have hR := hR.up y1 (by decide) k388
                have hU : mo_U (mo_R g311) (mo_R (upd g311 z383.toNatClampNeg z385)) (2251 + 864 * n8 + 4 + w295.toInt) (z385.toInt) := mo_up (by omega) (rfl : z385.toInt = _) (by omega)
                generalize (upd g311 z383.toNatClampNeg z385) = g390 at g389 hU
                have hI := mo_w_con hI hU n8 (4 + w295.toInt) (by omega) (by omega) (by omega) (by omega)
                have pn391 : mo_R g390 (8) = n8 := (hU.ne (by omega) (by omega)).trans jf308
                obtain ⟨z392, ez392⟩ : ∃ y : Int32, y = w295 + 1 := ⟨_, rfl⟩
                refine lv_iinc (v := z392) (lv' := [(2, .int z392), (1, .int z283), (0, .ref h0)]) hx hb dX12_contract_204 hl (k := 0) rfl (by rw [ez392]; rfl) (by decide) rfl (fun ls hl => ?_)
                have iz392 : z392.toInt = w295.toInt + 1 := zi_add ez392 rfl rfl (by omega) (by omega)
                refine lv_goto (tgt := 178) hx hb dX12_contract_207 (by decide) ?_
                have hf_393 : f387 (ρ h0 21) = .inl (κ 0, 60, .inl g109) := (k388 _ (tp_ne y7 y1 (by decide))).trans hk301k
                have hf_394 : f387 (ρ h0 23) = .inl (κ 0, 400, .inl g111) := (k388 _ (tp_ne y8 y1 (by decide))).trans hk302k
                have hf_395 : f387 (ρ h0 24) = .inl (κ 0, 400, .inl g113) := (k388 _ (tp_ne y9 y1 (by decide))).trans hk303k
                have hf_396 : f387 h0 = .inr (12, [.int o264_x0, .int o264_x1, .ref (ρ h0 2), .ref (ρ h0 3), .ref (ρ h0 4), .ref (ρ h0 5), .ref (ρ h0 6), .int o264_x7, .ref (ρ h0 8), .int 0, .int o264_x10, .int o264_x11, .int o264_x12, .long o264_x13, .int o264_x14, .int o264_x15, .int o264_x16, .int o264_x17, .int o264_x18, .int o264_x19, .int o264_x20, .ref (ρ h0 21), .int o264_x22, .ref (ρ h0 23), .ref (ρ h0 24), .int o264_x25, .ref (ρ h0 26), .ref (ρ h0 27), .int o264_x28, .int o264_x29, .ref (ρ h0 30), .ref (ρ h0 31), .int o264_x32, .long o264_x33, .long o264_x34, .long o264_x35, .int o264_x36, .int o264_x37, .int o264_x38, .ref (ρ h0 39), .ref (ρ h0 40), .ref (ρ h0 41), .ref (ρ h0 42), .ref (ρ h0 43), .ref (ρ h0 44), .ref (ρ h0 45), .ref (ρ h0 46), .int o264_x47, .int o264_x48, .ref (ρ h0 49), .ref (ρ h0 50), .ref (ρ h0 51), .ref (ρ h0 52)]) := (k388 _ (tp_ne ht_h0 y1 (by decide))).trans hk300k
                exact ih306 _ _ _ _ (by rw [hn307]; omega) ⟨f387, z392, rfl, hT, hR, hf_396, hf_393, hf_394, hf_395, (by rw [g389, mo_i1]; exact hI), (by rw [g389, mo_i1]; omega), (by simp only [hf_393, hf_394, hf_395, hf_396, g389, mo_i1, mo_l1]; exact (show mo_CC (mo_R g390) (2251 + 864 * n8) (mo_R g109) (mo_R g111) (mo_R g113) o264_x20.toInt (z392.toInt) 0 from jf309.c (by omega) (by omega) hU (by omega) (by omega) (by omega))), (by omega), (by omega), hP, hD, hS, lv_sub hl [0, 1, 2] rfl⟩
            · have ic271 : o264_x15.toInt ≠ 0 := zi_eqf rfl rfl c271
              refine lv_aload_n hx hb dX12_contract_132 rfl (lv_at hl 0 rfl) ?_
              refine lv_bipush (v := (-6)) hx hb dX12_contract_133 (by decide) ?_
              have hf_397 : f262 (ρ h0 2) = .inl (κ 0, 12967, .inl g27) := (hF263 _ (by rw [y1]; decide)).trans hk100k
              have hf_398 : f267 (ρ h0 2) = .inl (κ 0, 12967, .inl g27) := (k268 _ (tp_ne y1 ht_h0 (by decide))).trans hf_397
              have hFc := tp_fr hD hS hA
              refine va_calli (va_runV (As := [.int (-6)]) (rest := []) ⟨hx, hb, hml, hown, hts⟩ (t_X12_told l dC dI _ κ τ ν ρ L f267 hG hT h0 ((-6)) ht_h0) (cwV 1 hts gX12_contract_X12_told rfl rfl rfl ⟨rfl, pd_X12_told⟩ ⟨Nat.le_of_ble_eq_true rfl, Nat.le_of_ble_eq_true rfl⟩) ⟨pz_blind, va_recv hK hP (ci := 12) (q0 := q270) rfl eq270, pz_pre hP hK hD hN⟩ rfl rfl hl.1 rfl (lv_room (Nat.le_of_ble_eq_true rfl)) dX12_contract_135 ⟨Nat.le_of_ble_eq_true rfl, Nat.le_of_ble_eq_true rfl⟩) hS (fun q _ h => hFc q h) hFc (fun r399 f401 t H1 locs ht hvm hw400 hB hz1 hk1 hS => ?_)
              obtain ⟨hT, hF402, hw400r, hw400p⟩ := hw400
              have hR := hR.then hF402 (by decide)
              have hP := hB.1; rw [ht] at hP; have hD := tp_ad f401 hD; clear hB hFc hz1 hk1; subst ht; generalize t.heap = H at hP hS ⊢
              have hw400pq : r399.toInt = (-6) := by rw [hw400p]; rfl
              have hf_403 : f401 (ρ h0 2) = .inl (κ 0, 12967, .inl g27) := (hF402 _ (by rw [y1]; decide)).trans hf_398
              exact W.iret (v := r399) hx hb hr (fun t ht hW => ⟨⟨r399, f401, rfl, ⟨hT, hR, trivial, (by rw [hf_403, mo_i1]; exact hI)⟩, by rw [ht]; exact hP, va_K.moved hW.alike hK, hD⟩, hS.F ht⟩) hS.2.2 dX12_contract_138
      · have ic131 : r128.toInt ≠ 0 := zi_eqf rfl rfl c131
        refine lv_aload_n hx hb dX12_contract_90 rfl (lv_at hl 0 rfl) ?_
        have hFc := tp_fr hD hS hA
        refine va_callv (va_runV (As := []) (rest := []) ⟨hx, hb, hml, hown, hts⟩ (t_X12_next l dC dI _ κ τ ν ρ L f101 hG hT h0 ht_h0 (by simp only [hf_o107, mo_i1, mo_l1]; exact (show o107_x11.toInt ≤ o107_x9.toInt from by first | omega | decide))) (cwV 0 hts gX12_contract_X12_next rfl rfl rfl ⟨rfl, pd_X12_next⟩ ⟨Nat.le_of_ble_eq_true rfl, Nat.le_of_ble_eq_true rfl⟩) ⟨pz_blind, va_recv hK hP (ci := 12) (q0 := q114) rfl eq114, pz_pre hP hK hD hN⟩ rfl rfl hl.1 rfl (lv_room (Nat.le_of_ble_eq_true rfl)) dX12_contract_91 ⟨Nat.le_of_ble_eq_true rfl, Nat.le_of_ble_eq_true rfl⟩) hS (fun q _ h => hFc q h) hFc (fun f406 t H1 locs ht hvm hw405 hB hz1 hk1 hS => ?_)
        obtain ⟨hT, hF407, hw405p⟩ := hw405
        have hR := hR.then hF407 (by decide)
        have hP := hB.1; rw [ht] at hP; have hD := tp_ad f406 hD; clear hB hFc hz1 hk1; subst ht; generalize t.heap = H at hP hS ⊢
        obtain ⟨o408_x0, o408_x1, o408_x7, o408_x9, o408_x10, o408_x11, o408_x12, o408_x13, o408_x14, o408_x15, o408_x16, o408_x17, o408_x18, o408_x19, o408_x20, o408_x22, o408_x25, o408_x28, o408_x29, o408_x32, o408_x33, o408_x34, o408_x35, o408_x36, o408_x37, o408_x38, o408_x47, o408_x48, hf_o408, ro408_0, ro408_1, ro408_2, ro408_3, ro408_4, ro408_5, ro408_6, ro408_7, ro408_8, ro408_9, ro408_10, ro408_11, ro408_12, ro408_13⟩ := tpo_13 hT ht_h0
        have tk409 : (o408_x10.toInt ≤ o408_x11.toInt ∧ o408_x11.toInt ≤ o408_x9.toInt ∧ (o408_x12.toInt = 0 ∨ o408_x10.toInt < o408_x11.toInt) ∧ (o408_x12.toInt = 1 → o408_x11.toInt = o408_x10.toInt + 1 → o408_x13.toInt ≤ 26)) ∧ o107_x11.toInt ≤ o408_x10.toInt ∧ o408_x9.toInt = o107_x9.toInt ∧ o408_x15.toInt = o107_x15.toInt ∧ o408_x19.toInt = o107_x19.toInt ∧ o408_x20.toInt = o107_x20.toInt ∧ o408_x22.toInt = o107_x22.toInt ∧ o408_x28.toInt = o107_x28.toInt := by have q9 := hw405p; simp only [hf_o408, hf_o107, mo_i1, mo_l1] at q9; exact q9
        refine lv_aload_n hx hb dX12_contract_94 rfl (lv_at hl 0 rfl) ?_
        have hf_410 : f406 (ρ h0 2) = .inl (κ 0, 12967, .inl g27) := (hF407 _ (by rw [y1]; decide)).trans hk100k
        have hf_411 : f406 (ρ h0 21) = .inl (κ 0, 60, .inl g109) := (hF407 _ (by rw [y7]; decide)).trans hf_o108
        have hf_412 : f406 (ρ h0 23) = .inl (κ 0, 400, .inl g111) := (hF407 _ (by rw [y8]; decide)).trans hf_o110
        have hf_413 : f406 (ρ h0 24) = .inl (κ 0, 400, .inl g113) := (hF407 _ (by rw [y9]; decide)).trans hf_o112
        obtain ⟨q414, eq414⟩ := tp_pos (tp_in hG ht_h0 (by decide)) hf_o408
        have hFc := tp_fr hD hS hA
        refine va_callv (va_runV (As := []) (rest := []) ⟨hx, hb, hml, hown, hts⟩ (t_X12_readClause l dC dI _ κ τ ν ρ L f406 hG hT h0 ht_h0 (by simp only [hf_o408, mo_i1, mo_l1]; exact (show (o408_x10.toInt ≤ o408_x11.toInt ∧ o408_x11.toInt ≤ o408_x9.toInt ∧ (o408_x12.toInt = 0 ∨ o408_x10.toInt < o408_x11.toInt) ∧ (o408_x12.toInt = 1 → o408_x11.toInt = o408_x10.toInt + 1 → o408_x13.toInt ≤ 26)) from by first | omega | decide)) (by simp only [hf_o408, mo_i1, mo_l1]; exact (show o408_x15.toInt = 0 from by first | omega | decide)) (by simp only [hf_o408, mo_i1, mo_l1]; exact (show o408_x22.toInt ≤ o408_x10.toInt from by first | omega | decide)) (by simp only [hf_o408, mo_i1, mo_l1]; exact (show o408_x20.toInt ≤ o408_x19.toInt from by first | omega | decide)) (by simp only [hf_411, hf_412, hf_413, hf_o408, mo_i1, mo_l1]; exact (show mo_NC (mo_R g109) (mo_R g111) (mo_R g113) o408_x20.toInt o408_x22.toInt from (by rw [show o408_x20.toInt = o107_x20.toInt by omega, show o408_x22.toInt = o107_x22.toInt by omega]; exact (jf106 (by omega)).2.2)))) (cwV 0 hts gX12_contract_X12_readClause rfl rfl rfl ⟨rfl, pd_X12_readClause⟩ ⟨Nat.le_of_ble_eq_true rfl, Nat.le_of_ble_eq_true rfl⟩) ⟨pz_blind, va_recv hK hP (ci := 12) (q0 := q414) rfl eq414, pz_pre hP hK hD hN⟩ rfl rfl hl.1 rfl (lv_room (Nat.le_of_ble_eq_true rfl)) dX12_contract_95 ⟨Nat.le_of_ble_eq_true rfl, Nat.le_of_ble_eq_true rfl⟩) hS (fun q _ h => hFc q h) hFc (fun f417 t H1 locs ht hvm hw416 hB hz1 hk1 hS => ?_)
        obtain ⟨hT, hF418, hw416p⟩ := hw416
        have hR := hR.then hF418 (by decide)
        have hP := hB.1; rw [ht] at hP; have hD := tp_ad f417 hD; clear hB hFc hz1 hk1; subst ht; generalize t.heap = H at hP hS ⊢
        obtain ⟨o419_x0, o419_x1, o419_x7, o419_x9, o419_x10, o419_x11, o419_x12, o419_x13, o419_x14, o419_x15, o419_x16, o419_x17, o419_x18, o419_x19, o419_x20, o419_x22, o419_x25, o419_x28, o419_x29, o419_x32, o419_x33, o419_x34, o419_x35, o419_x36, o419_x37, o419_x38, o419_x47, o419_x48, hf_o419, ro419_0, ro419_1, ro419_2, ro419_3, ro419_4, ro419_5, ro419_6, ro419_7, ro419_8, ro419_9, ro419_10, ro419_11, ro419_12, ro419_13⟩ := tpo_13 hT ht_h0
        obtain ⟨g421, hf_o420⟩ := tpo_51 hT y7
        obtain ⟨g423, hf_o422⟩ := tpo_53 hT y8
        obtain ⟨g425, hf_o424⟩ := tpo_54 hT y9
        have tk426 : (o419_x10.toInt ≤ o419_x11.toInt ∧ o419_x11.toInt ≤ o419_x9.toInt ∧ (o419_x12.toInt = 0 ∨ o419_x10.toInt < o419_x11.toInt) ∧ (o419_x12.toInt = 1 → o419_x11.toInt = o419_x10.toInt + 1 → o419_x13.toInt ≤ 26)) ∧ (o419_x15.toInt = 0 → o419_x22.toInt ≤ o419_x10.toInt ∧ o419_x20.toInt ≤ o419_x19.toInt ∧ mo_NC (mo_R g421) (mo_R g423) (mo_R g425) o419_x20.toInt o419_x22.toInt) ∧ o419_x9.toInt = o408_x9.toInt := by have q9 := hw416p; simp only [hf_o419, hf_o420, hf_o422, hf_o424, hf_o408, mo_i1, mo_l1] at q9; exact q9
        refine lv_goto (tgt := 74) hx hb dX12_contract_98 (by decide) ?_
        have hf_427 : f417 (ρ h0 2) = .inl (κ 0, 12967, .inl g27) := (hF418 _ (by rw [y1]; decide)).trans hf_410
        exact ih103 _ _ _ _ (by rw [hn104]; simp only [hf_o419, mo_i1, mo_l1]; omega) ⟨f417, rfl, hT, hR, hf_427, (by simp only [hf_o419, mo_i1, mo_l1]; exact (show (o419_x10.toInt ≤ o419_x11.toInt ∧ o419_x11.toInt ≤ o419_x9.toInt ∧ (o419_x12.toInt = 0 ∨ o419_x10.toInt < o419_x11.toInt) ∧ (o419_x12.toInt = 1 → o419_x11.toInt = o419_x10.toInt + 1 → o419_x13.toInt ≤ 26)) from by first | omega | decide)), (by simp only [hf_o419, hf_o420, hf_o422, hf_o424, mo_i1, mo_l1]; exact (show (o419_x15.toInt = 0 → o419_x22.toInt ≤ o419_x10.toInt ∧ o419_x20.toInt ≤ o419_x19.toInt ∧ mo_NC (mo_R g421) (mo_R g423) (mo_R g425) o419_x20.toInt o419_x22.toInt) from tk426.2.1)), hP, hD, hS, lv_sub hl [0] rfl⟩
  · have ic37 : z36.toInt = 12 := zi_nef rfl rfl c37
    refine lv_aload_n hx hb dX12_contract_17 rfl (lv_at hl 0 rfl) ?_
    refine lv_iconst (v := 0) hx hb dX12_contract_18 (by decide) ?_
    refine va_put (D := (dC, dI)) (ci := 12) (v := .int 0) (ty := .int) (C := RX12) (T := TX12) (N := 53) hx hb hts hfX12 tyX12 tyX12_ok nmX12 hown hK hP hD hS q33 eq33 rfl 9 (by decide) (hts (.fieldLink RX12 252 "ColdShipsModel" "taped" "I") wa_774) (fun _ h9 => h9) rfl (tyX12_ok 9 (by decide)) rfl rfl (Nat.le_of_ble_eq_true rfl) dX12_contract_19 (tp_k (.inr (12, [.int 0, .int o28_x1, .ref (ρ h0 2), .ref (ρ h0 3), .ref (ρ h0 4), .ref (ρ h0 5), .ref (ρ h0 6), .int o28_x7, .ref (ρ h0 8), .int 0, .int o28_x10, .int o28_x11, .int o28_x12, .long o28_x13, .int o28_x14, .int o28_x15, .int o28_x16, .int o28_x17, .int o28_x18, .int o28_x19, .int o28_x20, .ref (ρ h0 21), .int o28_x22, .ref (ρ h0 23), .ref (ρ h0 24), .int o28_x25, .ref (ρ h0 26), .ref (ρ h0 27), .int o28_x28, .int o28_x29, .ref (ρ h0 30), .ref (ρ h0 31), .int o28_x32, .long o28_x33, .long o28_x34, .long o28_x35, .int o28_x36, .int o28_x37, .int o28_x38, .ref (ρ h0 39), .ref (ρ h0 40), .ref (ρ h0 41), .ref (ρ h0 42), .ref (ρ h0 43), .ref (ρ h0 44), .ref (ρ h0 45), .ref (ρ h0 46), .int o28_x47, .int o28_x48, .ref (ρ h0 49), .ref (ρ h0 50), .ref (ρ h0 51), .ref (ρ h0 52)])) hD (tp_in hG ht_h0 (by decide)) eq33 (fun f428 H locs hP hD hS g430 k429 => ?_))
    have hT := hT.up ht_h0 g430 k429 ⟨_, _, _, _, _, _, _, _, _, _, _, _, _, _, _, _, _, _, _, _, _, _, _, _, _, _, _, _, rfl, ro28_0, (by decide), ro28_2, ro28_3, ro28_4, ro28_5, ro28_6, ro28_7, ro28_8, ro28_9, ro28_10, ro28_11, ro28_12, ro28_13⟩
    have hR := hR.up ht_h0 (by decide) k429
    refine lv_aload_n hx hb dX12_contract_22 rfl (lv_at hl 0 rfl) ?_
    refine lv_bipush (v := (-5)) hx hb dX12_contract_23 (by decide) ?_
    have hf_431 : f428 (ρ h0 2) = .inl (κ 0, 12967, .inl g27) := (k429 _ (tp_ne y1 ht_h0 (by decide))).trans hf_34
    obtain ⟨q432, eq432⟩ := tp_pos (tp_in hG ht_h0 (by decide)) g430
    have hFc := tp_fr hD hS hA
    refine va_calli (va_runV (As := [.int (-5)]) (rest := []) ⟨hx, hb, hml, hown, hts⟩ (t_X12_told l dC dI _ κ τ ν ρ L f428 hG hT h0 ((-5)) ht_h0) (cwV 1 hts gX12_contract_X12_told rfl rfl rfl ⟨rfl, pd_X12_told⟩ ⟨Nat.le_of_ble_eq_true rfl, Nat.le_of_ble_eq_true rfl⟩) ⟨pz_blind, va_recv hK hP (ci := 12) (q0 := q432) rfl eq432, pz_pre hP hK hD hN⟩ rfl rfl hl.1 rfl (lv_room (Nat.le_of_ble_eq_true rfl)) dX12_contract_25 ⟨Nat.le_of_ble_eq_true rfl, Nat.le_of_ble_eq_true rfl⟩) hS (fun q _ h => hFc q h) hFc (fun r433 f435 t H1 locs ht hvm hw434 hB hz1 hk1 hS => ?_)
    obtain ⟨hT, hF436, hw434r, hw434p⟩ := hw434
    have hR := hR.then hF436 (by decide)
    have hP := hB.1; rw [ht] at hP; have hD := tp_ad f435 hD; clear hB hFc hz1 hk1; subst ht; generalize t.heap = H at hP hS ⊢
    have hw434pq : r433.toInt = (-5) := by rw [hw434p]; rfl
    have hf_437 : f435 (ρ h0 2) = .inl (κ 0, 12967, .inl g27) := (hF436 _ (by rw [y1]; decide)).trans hf_431
    exact W.iret (v := r433) hx hb hr (fun t ht hW => ⟨⟨r433, f435, rfl, ⟨hT, hR, trivial, (by rw [hf_437, mo_i1]; exact hI)⟩, by rw [ht]; exact hP, va_K.moved hW.alike hK, hD⟩, hS.F ht⟩) hS.2.2 dX12_contract_28

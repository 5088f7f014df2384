set_option maxHeartbeats 4000000 in
set_option maxRecDepth 100000 in
theorem t_X12_next (l : Launch) (dC : Nat → ClassId) (dI : Nat → Nat → Nat) (sz : Nat) (κ : Nat → ClassId) (τ ν : Nat → Nat) (ρ : Nat → Nat → Nat) (L : List Nat) (f : Nat → va_E) (hG : tp_G τ ν ρ L) (hT : tp_T (mo_O κ) κ τ ν ρ f) (h0 : Nat) (ht_h0 : τ h0 = 13) (h11 : (tp_fld (f h0) 11) ≤ (tp_fld (f h0) 9)) : Met l yX12_next wqX12_next ({ frames := 3, cells := 0, slots := 0, locals := 800 }) (va_Pc [.ref h0] (pz_B dC dI (tp_K κ) (va_pl L f) sz)) (va_Qv (fun (f1 : Nat → va_E) => tp_T (mo_O κ) κ τ ν ρ f1 ∧ tp_F τ [13] f f1 ∧ ((tp_fld (f1 h0) 10) ≤ (tp_fld (f1 h0) 11) ∧ (tp_fld (f1 h0) 11) ≤ (tp_fld (f1 h0) 9) ∧ ((tp_fld (f1 h0) 12) = 0 ∨ (tp_fld (f1 h0) 10) < (tp_fld (f1 h0) 11)) ∧ ((tp_fld (f1 h0) 12) = 1 → (tp_fld (f1 h0) 11) = (tp_fld (f1 h0) 10) + 1 → (mo_fj (f1 h0) 13) ≤ 26)) ∧ (tp_fld (f h0) 11) ≤ (tp_fld (f1 h0) 10) ∧ (tp_fld (f1 h0) 9) = (tp_fld (f h0) 9) ∧ (tp_fld (f1 h0) 15) = (tp_fld (f h0) 15) ∧ (tp_fld (f1 h0) 19) = (tp_fld (f h0) 19) ∧ (tp_fld (f1 h0) 20) = (tp_fld (f h0) 20) ∧ (tp_fld (f1 h0) 22) = (tp_fld (f h0) 22) ∧ (tp_fld (f1 h0) 28) = (tp_fld (f h0) 28)) (fun (f1 : Nat → va_E) (t : State) => pz_E dC dI (tp_K κ) (va_A (va_pl L f) sz) (va_pl L f1) t) (va_A (va_pl L f) sz)) 0 0 (va_A (va_pl L f) sz) := by
  refine Met.ofW (cc := cX12_next) (maxL := 1) (ret := none) (by decide) rfl ?_
  intro p e s m args below meth c s₁ B hml hv
  obtain ⟨rfl, hsz, hP, hK, hD0, hN⟩ := hv
  have hx := B.exec
  have hb := B.bytes
  have hr := B.returns
  have hts := fun (w : Cond) (h : w ∈ WALL) => atoms_spec (ws := wqX12_next) B.pre w (List.mem_cons_of_mem _ h)
  have hown : s.vm.findClass RX12 = some m.cls := findClass_of_methodNamed B.named
  have hlocks := B.notSynchronized
  subst hsz
  have hD := hD0.self (sz := s.heap.size)
  generalize hAe : va_A (va_pl L f) s.heap.size = A at hD ⊢
  have hA : ∀ q : Nat, s.heap.size ≤ q → A q := fun q h => by rw [← hAe]; exact Or.inr h
  have hS : va_S A s.heap s.heap [] := va_S.rf
  have hR : tp_F τ [13] f f := tp_F.rf
  have hl := lv_entry ([.ref h0]) (n := 1) (Nat.le_of_ble_eq_true rfl)
  rw [lg_entry_eq]
  generalize (lg_sl ([.ref h0]) ++ List.replicate (1 - (lg_sl ([.ref h0])).length) Slot.unset).toArray = ls at hl ⊢
  have hl : lv_has ls 1 [(0, .ref h0)] := hl
  obtain ⟨y1, y2, y3, y4, y5, y6, y7, y8, y9, y10, y11, y12, y13, y14, y15, y16, y17, y18, y19, y20, y21, y22, y23, y24, y25⟩ := tpg_13 hG ht_h0
  obtain ⟨o26_x0, o26_x1, o26_x7, o26_x9, o26_x10, o26_x11, o26_x12, o26_x13, o26_x14, o26_x15, o26_x16, o26_x17, o26_x18, o26_x19, o26_x20, o26_x22, o26_x25, o26_x28, o26_x29, o26_x32, o26_x33, o26_x34, o26_x35, o26_x36, o26_x37, o26_x38, o26_x47, o26_x48, hf_o26, ro26_0, ro26_1, ro26_2, ro26_3, ro26_4, ro26_5, ro26_6, ro26_7, ro26_8, ro26_9, ro26_10, ro26_11, ro26_12, ro26_13⟩ := tpo_13 hT ht_h0
  have h11 : o26_x11.toInt ≤ o26_x9.toInt := by have q9 := h11; simp only [hf_o26, mo_i1, mo_l1] at q9; exact q9
  obtain ⟨g28, hf_o27⟩ := tpo_38 hT y6
  refine lv_aload_n hx hb dX12_next_0 rfl (lv_at hl 0 rfl) ?_
  refine lv_aload_n hx hb dX12_next_1 rfl (lv_at hl 0 rfl) ?_
  obtain ⟨q29, eq29⟩ := tp_pos (tp_in hG ht_h0 (by decide)) hf_o26
  refine va_get (D := (dC, dI)) (ci := 12) (v := .int o26_x11) (C := RX12) (T := TX12) (N := 53) hx hb hts hfX12 hown hK hP q29 eq29 rfl 11 (by decide) (hts (.fieldLink RX12 258 "ColdShipsModel" "to" "I") wa_1000) (fun _ h9 => h9) rfl dX12_next_2 ?_
  refine va_put (D := (dC, dI)) (ci := 12) (v := .int o26_x11) (ty := .int) (C := RX12) (T := TX12) (N := 53) hx hb hts hfX12 tyX12 tyX12_ok nmX12 hown hK hP hD hS q29 eq29 rfl 10 (by decide) (hts (.fieldLink RX12 267 "ColdShipsModel" "from" "I") wa_1005) (fun _ h9 => h9) rfl (tyX12_ok 10 (by decide)) rfl rfl (Nat.le_of_ble_eq_true rfl) dX12_next_5 (tp_k (.inr (12, [.int o26_x0, .int o26_x1, .ref (ρ h0 2), .ref (ρ h0 3), .ref (ρ h0 4), .ref (ρ h0 5), .ref (ρ h0 6), .int o26_x7, .ref (ρ h0 8), .int o26_x9, .int o26_x11, .int o26_x11, .int o26_x12, .long o26_x13, .int o26_x14, .int o26_x15, .int o26_x16, .int o26_x17, .int o26_x18, .int o26_x19, .int o26_x20, .ref (ρ h0 21), .int o26_x22, .ref (ρ h0 23), .ref (ρ h0 24), .int o26_x25, .ref (ρ h0 26), .ref (ρ h0 27), .int o26_x28, .int o26_x29, .ref (ρ h0 30), .ref (ρ h0 31), .int o26_x32, .long o26_x33, .long o26_x34, .long o26_x35, .int o26_x36, .int o26_x37, .int o26_x38, .ref (ρ h0 39), .ref (ρ h0 40), .ref (ρ h0 41), .ref (ρ h0 42), .ref (ρ h0 43), .ref (ρ h0 44), .ref (ρ h0 45), .ref (ρ h0 46), .int o26_x47, .int o26_x48, .ref (ρ h0 49), .ref (ρ h0 50), .ref (ρ h0 51), .ref (ρ h0 52)])) hD (tp_in hG ht_h0 (by decide)) eq29 (fun f30 H locs hP hD hS g32 k31 => ?_))
  have hT := hT.up ht_h0 g32 k31 ⟨_, _, _, _, _, _, _, _, _, _, _, _, _, _, _, _, _, _, _, _, _, _, _, _, _, _, _, _, rfl, ro26_0, ro26_1, (by omega), ro26_3, ro26_4, ro26_5, ro26_6, ro26_7, ro26_8, ro26_9, ro26_10, ro26_11, ro26_12, ro26_13⟩
  have hR := hR.up ht_h0 (by decide) k31
  have hf_36 : f30 (ρ h0 8) = .inl (κ 0, 400, .inl g28) := (k31 _ (tp_ne y6 ht_h0 (by decide))).trans hf_o27
  refine pz_loop (fun n0 H locs ls => ∃ f39 : Nat → va_E, ∃ w33 : Int32, n0 = (400 - (w33.toInt)).toNat ∧ tp_T (mo_O κ) κ τ ν ρ f39 ∧ tp_F τ [13] f f39 ∧ f39 (ρ h0 8) = .inl (κ 0, 400, .inl g28) ∧ f39 h0 = .inr (12, [.int o26_x0, .int o26_x1, .ref (ρ h0 2), .ref (ρ h0 3), .ref (ρ h0 4), .ref (ρ h0 5), .ref (ρ h0 6), .int o26_x7, .ref (ρ h0 8), .int o26_x9, .int w33, .int o26_x11, .int o26_x12, .long o26_x13, .int o26_x14, .int o26_x15, .int o26_x16, .int o26_x17, .int o26_x18, .int o26_x19, .int o26_x20, .ref (ρ h0 21), .int o26_x22, .ref (ρ h0 23), .ref (ρ h0 24), .int o26_x25, .ref (ρ h0 26), .ref (ρ h0 27), .int o26_x28, .int o26_x29, .ref (ρ h0 30), .ref (ρ h0 31), .int o26_x32, .long o26_x33, .long o26_x34, .long o26_x35, .int o26_x36, .int o26_x37, .int o26_x38, .ref (ρ h0 39), .ref (ρ h0 40), .ref (ρ h0 41), .ref (ρ h0 42), .ref (ρ h0 43), .ref (ρ h0 44), .ref (ρ h0 45), .ref (ρ h0 46), .int o26_x47, .int o26_x48, .ref (ρ h0 49), .ref (ρ h0 50), .ref (ρ h0 51), .ref (ρ h0 52)]) ∧ (0 ≤ w33.toInt ∧ w33.toInt ≤ 400) ∧ (o26_x11.toInt ≤ (w33.toInt)) ∧ ((w33.toInt) ≤ o26_x9.toInt) ∧ va_P (dC, dI) vwCl (va_pl L f39) H ∧ va_D A (va_pl L f39) ∧ va_S A s.heap H locs ∧ lv_has ls 1 [(0, .ref h0)]) ?_ _ _ _ _ ⟨f30, o26_x11, rfl, hT, hR, hf_36, g32, (by omega), (by omega), (by omega), hP, hD, hS, lv_sub hl [0] rfl⟩
  intro n0 H locs ls hI ih41
  obtain ⟨f39, w33, hn42, hT, hR, hk37k, hk38k, rw33, k34, k35, hP, hD, hS, hl⟩ := hI
  refine lv_aload_n hx hb dX12_next_8 rfl (lv_at hl 0 rfl) ?_
  obtain ⟨q43, eq43⟩ := tp_pos (tp_in hG ht_h0 (by decide)) hk38k
  refine va_get (D := (dC, dI)) (ci := 12) (v := .int w33) (C := RX12) (T := TX12) (N := 53) hx hb hts hfX12 hown hK hP q43 eq43 rfl 10 (by decide) (hts (.fieldLink RX12 267 "ColdShipsModel" "from" "I") wa_1005) (fun _ h9 => h9) rfl dX12_next_9 ?_
  refine lv_aload_n hx hb dX12_next_12 rfl (lv_at hl 0 rfl) ?_
  refine va_get (D := (dC, dI)) (ci := 12) (v := .int o26_x9) (C := RX12) (T := TX12) (N := 53) hx hb hts hfX12 hown hK hP q43 eq43 rfl 9 (by decide) (hts (.fieldLink RX12 252 "ColdShipsModel" "taped" "I") wa_774) (fun _ h9 => h9) rfl dX12_next_13 ?_
  refine lv_icmp_ge (tgt := 46) hx hb dX12_next_16 (by decide) (fun c44 => ?_) (fun c44 => ?_)
  · have ic44 : w33.toInt ≥ o26_x9.toInt := zi_ge rfl rfl c44
    refine lv_aload_n hx hb dX12_next_46 rfl (lv_at hl 0 rfl) ?_
    refine lv_aload_n hx hb dX12_next_47 rfl (lv_at hl 0 rfl) ?_
    refine va_get (D := (dC, dI)) (ci := 12) (v := .int w33) (C := RX12) (T := TX12) (N := 53) hx hb hts hfX12 hown hK hP q43 eq43 rfl 10 (by decide) (hts (.fieldLink RX12 267 "ColdShipsModel" "from" "I") wa_1005) (fun _ h9 => h9) rfl dX12_next_48 ?_
    refine va_put (D := (dC, dI)) (ci := 12) (v := .int w33) (ty := .int) (C := RX12) (T := TX12) (N := 53) hx hb hts hfX12 tyX12 tyX12_ok nmX12 hown hK hP hD hS q43 eq43 rfl 11 (by decide) (hts (.fieldLink RX12 258 "ColdShipsModel" "to" "I") wa_1000) (fun _ h9 => h9) rfl (tyX12_ok 11 (by decide)) rfl rfl (Nat.le_of_ble_eq_true rfl) dX12_next_51 (tp_k (.inr (12, [.int o26_x0, .int o26_x1, .ref (ρ h0 2), .ref (ρ h0 3), .ref (ρ h0 4), .ref (ρ h0 5), .ref (ρ h0 6), .int o26_x7, .ref (ρ h0 8), .int o26_x9, .int w33, .int w33, .int o26_x12, .long o26_x13, .int o26_x14, .int o26_x15, .int o26_x16, .int o26_x17, .int o26_x18, .int o26_x19, .int o26_x20, .ref (ρ h0 21), .int o26_x22, .ref (ρ h0 23), .ref (ρ h0 24), .int o26_x25, .ref (ρ h0 26), .ref (ρ h0 27), .int o26_x28, .int o26_x29, .ref (ρ h0 30), .ref (ρ h0 31), .int o26_x32, .long o26_x33, .long o26_x34, .long o26_x35, .int o26_x36, .int o26_x37, .int o26_x38, .ref (ρ h0 39), .ref (ρ h0 40), .ref (ρ h0 41), .ref (ρ h0 42), .ref (ρ h0 43), .ref (ρ h0 44), .ref (ρ h0 45), .ref (ρ h0 46), .int o26_x47, .int o26_x48, .ref (ρ h0 49), .ref (ρ h0 50), .ref (ρ h0 51), .ref (ρ h0 52)])) hD (tp_in hG ht_h0 (by decide)) eq43 (fun f45 H locs hP hD hS g47 k46 => ?_))
    have hT := hT.up ht_h0 g47 k46 ⟨_, _, _, _, _, _, _, _, _, _, _, _, _, _, _, _, _, _, _, _, _, _, _, _, _, _, _, _, rfl, ro26_0, ro26_1, (by omega), (by omega), ro26_4, ro26_5, ro26_6, ro26_7, ro26_8, ro26_9, ro26_10, ro26_11, ro26_12, ro26_13⟩
    have hR := hR.up ht_h0 (by decide) k46
    refine lv_aload_n hx hb dX12_next_54 rfl (lv_at hl 0 rfl) ?_
    refine lv_lconst (v := 0) hx hb dX12_next_55 (by decide) ?_
    obtain ⟨q48, eq48⟩ := tp_pos (tp_in hG ht_h0 (by decide)) g47
    refine va_put (D := (dC, dI)) (ci := 12) (v := .long 0) (ty := .long) (C := RX12) (T := TX12) (N := 53) hx hb hts hfX12 tyX12 tyX12_ok nmX12 hown hK hP hD hS q48 eq48 rfl 13 (by decide) (hts (.fieldLink RX12 270 "ColdShipsModel" "worth" "J") wa_1006) (fun _ h9 => h9) rfl (tyX12_ok 13 (by decide)) rfl rfl (Nat.le_of_ble_eq_true rfl) dX12_next_56 (tp_k (.inr (12, [.int o26_x0, .int o26_x1, .ref (ρ h0 2), .ref (ρ h0 3), .ref (ρ h0 4), .ref (ρ h0 5), .ref (ρ h0 6), .int o26_x7, .ref (ρ h0 8), .int o26_x9, .int w33, .int w33, .int o26_x12, .long 0, .int o26_x14, .int o26_x15, .int o26_x16, .int o26_x17, .int o26_x18, .int o26_x19, .int o26_x20, .ref (ρ h0 21), .int o26_x22, .ref (ρ h0 23), .ref (ρ h0 24), .int o26_x25, .ref (ρ h0 26), .ref (ρ h0 27), .int o26_x28, .int o26_x29, .ref (ρ h0 30), .ref (ρ h0 31), .int o26_x32, .long o26_x33, .long o26_x34, .long o26_x35, .int o26_x36, .int o26_x37, .int o26_x38, .ref (ρ h0 39), .ref (ρ h0 40), .ref (ρ h0 41), .ref (ρ h0 42), .ref (ρ h0 43), .ref (ρ h0 44), .ref (ρ h0 45), .ref (ρ h0 46), .int o26_x47, .int o26_x48, .ref (ρ h0 49), .ref (ρ h0 50), .ref (ρ h0 51), .ref (ρ h0 52)])) hD (tp_in hG ht_h0 (by decide)) eq48 (fun f49 H locs hP hD hS g51 k50 => ?_))
    have hT := hT.up ht_h0 g51 k50 ⟨_, _, _, _, _, _, _, _, _, _, _, _, _, _, _, _, _, _, _, _, _, _, _, _, _, _, _, _, rfl, ro26_0, ro26_1, (by omega), (by omega), ro26_4, ro26_5, ro26_6, ro26_7, ro26_8, ro26_9, ro26_10, ro26_11, ro26_12, ro26_13⟩
    have hR := hR.up ht_h0 (by decide) k50
    refine lv_aload_n hx hb dX12_next_59 rfl (lv_at hl 0 rfl) ?_
    refine lv_aload_n hx hb dX12_next_60 rfl (lv_at hl 0 rfl) ?_
    obtain ⟨q52, eq52⟩ := tp_pos (tp_in hG ht_h0 (by decide)) g51
    refine va_get (D := (dC, dI)) (ci := 12) (v := .int w33) (C := RX12) (T := TX12) (N := 53) hx hb hts hfX12 hown hK hP q52 eq52 rfl 10 (by decide) (hts (.fieldLink RX12 267 "ColdShipsModel" "from" "I") wa_1005) (fun _ h9 => h9) rfl dX12_next_61 ?_
    refine lv_aload_n hx hb dX12_next_64 rfl (lv_at hl 0 rfl) ?_
    refine va_get (D := (dC, dI)) (ci := 12) (v := .int o26_x9) (C := RX12) (T := TX12) (N := 53) hx hb hts hfX12 hown hK hP q52 eq52 rfl 9 (by decide) (hts (.fieldLink RX12 252 "ColdShipsModel" "taped" "I") wa_774) (fun _ h9 => h9) rfl dX12_next_65 ?_
    refine lv_icmp_ne (tgt := 75) hx hb dX12_next_68 (by decide) (fun c53 => ?_) (fun c53 => ?_)
    · have ic53 : w33.toInt ≠ o26_x9.toInt := zi_ne rfl rfl c53
      refine lv_aload_n hx hb dX12_next_75 rfl (lv_at hl 0 rfl) ?_
      refine va_get (D := (dC, dI)) (ci := 12) (v := .ref (ρ h0 8)) (C := RX12) (T := TX12) (N := 53) hx hb hts hfX12 hown hK hP q52 eq52 rfl 8 (by decide) (hts (.fieldLink RX12 27 "ColdShipsModel" "tape" "[I") wa_154) (fun _ h9 => h9) rfl dX12_next_76 ?_
      refine lv_aload_n hx hb dX12_next_79 rfl (lv_at hl 0 rfl) ?_
      refine va_get (D := (dC, dI)) (ci := 12) (v := .int w33) (C := RX12) (T := TX12) (N := 53) hx hb hts hfX12 hown hK hP q52 eq52 rfl 10 (by decide) (hts (.fieldLink RX12 267 "ColdShipsModel" "from" "I") wa_1005) (fun _ h9 => h9) rfl dX12_next_80 ?_
      have hf_54 : f45 (ρ h0 8) = .inl (κ 0, 400, .inl g28) := (k46 _ (tp_ne y6 ht_h0 (by decide))).trans hk37k
      have hf_55 : f49 (ρ h0 8) = .inl (κ 0, 400, .inl g28) := (k50 _ (tp_ne y6 ht_h0 (by decide))).trans hf_54
      obtain ⟨q56, eq56⟩ := tp_pos (tp_in hG y6 (by decide)) hf_55
      refine va_iald hx hb hK hP q56 0 eq56 rfl (vp_in_iff.mpr ⟨by omega, by omega⟩) dX12_next_83 ?_
      refine lv_topi (fun z57 ez57 => ?_)
      have jz57 : z57.toInt = mo_R g28 w33.toInt := mo_rd ez57 (by omega)
      refine pz_calli (va_runS (As := [.int z57]) (rest := [.ref h0]) ⟨hx, hb, hml, hown, hts⟩ (t_X12_isSmall l dC dI _ z57 (z57.toInt) rfl) (va_cwS 1 hts gX12_next_X12_isSmall rfl rfl rfl pd_X12_isSmall ⟨Nat.le_of_ble_eq_true rfl, Nat.le_of_ble_eq_true rfl⟩) ⟨pz_blind, pz_pre pz_P0 (hK.sub (tys' := []) [] rfl) (pz_D0 (A := fun _ => True)) hN⟩ rfl rfl hl.1 rfl (lv_room (Nat.le_of_ble_eq_true rfl)) dX12_next_84 ⟨Nat.le_of_ble_eq_true rfl, Nat.le_of_ble_eq_true rfl⟩) (fun r58 hw59 => ?_)
      obtain ⟨hw59r, hw59p⟩ := hw59
      refine lv_if_eq (tgt := 94) hx hb dX12_next_87 (by decide) (fun c60 => ?_) (fun c60 => ?_)
      · have ic60 : r58.toInt = 0 := zi_eq rfl rfl c60
        have p61 : ¬ (97 ≤ (z57.toInt) ∧ (z57.toInt) ≤ 122) := (tp_cond.no hw59p) (by omega)
        refine lv_aload_n hx hb dX12_next_94 rfl (lv_at hl 0 rfl) ?_
        refine va_get (D := (dC, dI)) (ci := 12) (v := .ref (ρ h0 8)) (C := RX12) (T := TX12) (N := 53) hx hb hts hfX12 hown hK hP q52 eq52 rfl 8 (by decide) (hts (.fieldLink RX12 27 "ColdShipsModel" "tape" "[I") wa_154) (fun _ h9 => h9) rfl dX12_next_95 ?_
        refine lv_aload_n hx hb dX12_next_98 rfl (lv_at hl 0 rfl) ?_
        refine va_get (D := (dC, dI)) (ci := 12) (v := .int w33) (C := RX12) (T := TX12) (N := 53) hx hb hts hfX12 hown hK hP q52 eq52 rfl 10 (by decide) (hts (.fieldLink RX12 267 "ColdShipsModel" "from" "I") wa_1005) (fun _ h9 => h9) rfl dX12_next_99 ?_
        refine va_iald hx hb hK hP q56 0 eq56 rfl (vp_in_iff.mpr ⟨by omega, by omega⟩) dX12_next_102 ?_
        refine lv_topi (fun z62 ez62 => ?_)
        have jz62 : z62.toInt = mo_R g28 w33.toInt := mo_rd ez62 (by omega)
        refine pz_calli (va_runS (As := [.int z62]) (rest := [.ref h0]) ⟨hx, hb, hml, hown, hts⟩ (t_X12_isDigit l dC dI _ z62 (z62.toInt) rfl) (va_cwS 1 hts gX12_next_X12_isDigit rfl rfl rfl pd_X12_isDigit ⟨Nat.le_of_ble_eq_true rfl, Nat.le_of_ble_eq_true rfl⟩) ⟨pz_blind, pz_pre pz_P0 (hK.sub (tys' := []) [] rfl) (pz_D0 (A := fun _ => True)) hN⟩ rfl rfl hl.1 rfl (lv_room (Nat.le_of_ble_eq_true rfl)) dX12_next_103 ⟨Nat.le_of_ble_eq_true rfl, Nat.le_of_ble_eq_true rfl⟩) (fun r63 hw64 => ?_)
        obtain ⟨hw64r, hw64p⟩ := hw64
        refine lv_if_eq (tgt := 113) hx hb dX12_next_106 (by decide) (fun c65 => ?_) (fun c65 => ?_)
        · have ic65 : r63.toInt = 0 := zi_eq rfl rfl c65
          have p66 : ¬ (48 ≤ (z62.toInt) ∧ (z62.toInt) ≤ 57) := (tp_cond.no hw64p) (by omega)
          refine lv_iconst (v := 3) hx hb dX12_next_113 (by decide) ?_
          refine va_put (D := (dC, dI)) (ci := 12) (v := .int 3) (ty := .int) (C := RX12) (T := TX12) (N := 53) hx hb hts hfX12 tyX12 tyX12_ok nmX12 hown hK hP hD hS q52 eq52 rfl 12 (by decide) (hts (.fieldLink RX12 280 "ColdShipsModel" "sort" "I") wa_995) (fun _ h9 => h9) rfl (tyX12_ok 12 (by decide)) rfl rfl (Nat.le_of_ble_eq_true rfl) dX12_next_114 (tp_k (.inr (12, [.int o26_x0, .int o26_x1, .ref (ρ h0 2), .ref (ρ h0 3), .ref (ρ h0 4), .ref (ρ h0 5), .ref (ρ h0 6), .int o26_x7, .ref (ρ h0 8), .int o26_x9, .int w33, .int w33, .int 3, .long 0, .int o26_x14, .int o26_x15, .int o26_x16, .int o26_x17, .int o26_x18, .int o26_x19, .int o26_x20, .ref (ρ h0 21), .int o26_x22, .ref (ρ h0 23), .ref (ρ h0 24), .int o26_x25, .ref (ρ h0 26), .ref (ρ h0 27), .int o26_x28, .int o26_x29, .ref (ρ h0 30), .ref (ρ h0 31), .int o26_x32, .long o26_x33, .long o26_x34, .long o26_x35, .int o26_x36, .int o26_x37, .int o26_x38, .ref (ρ h0 39), .ref (ρ h0 40), .ref (ρ h0 41), .ref (ρ h0 42), .ref (ρ h0 43), .ref (ρ h0 44), .ref (ρ h0 45), .ref (ρ h0 46), .int o26_x47, .int o26_x48, .ref (ρ h0 49), .ref (ρ h0 50), .ref (ρ h0 51), .ref (ρ h0 52)])) hD (tp_in hG ht_h0 (by decide)) eq52 (fun f67 H locs hP hD hS g69 k68 => ?_))
          have hT := hT.up ht_h0 g69 k68 ⟨_, _, _, _, _, _, _, _, _, _, _, _, _, _, _, _, _, _, _, _, _, _, _, _, _, _, _, _, rfl, ro26_0, ro26_1, (by omega), (by omega), (by decide), ro26_5, ro26_6, ro26_7, ro26_8, ro26_9, ro26_10, ro26_11, ro26_12, ro26_13⟩
          have hR := hR.up ht_h0 (by decide) k68
          refine lv_aload_n hx hb dX12_next_117 rfl (lv_at hl 0 rfl) ?_
          obtain ⟨q70, eq70⟩ := tp_pos (tp_in hG ht_h0 (by decide)) g69
          refine va_get (D := (dC, dI)) (ci := 12) (v := .int 3) (C := RX12) (T := TX12) (N := 53) hx hb hts hfX12 hown hK hP q70 eq70 rfl 12 (by decide) (hts (.fieldLink RX12 280 "ColdShipsModel" "sort" "I") wa_995) (fun _ h9 => h9) rfl dX12_next_118 ?_
          refine lv_iconst (v := 3) hx hb dX12_next_121 (by decide) ?_
          refine lv_icmp_ne (tgt := 149) hx hb dX12_next_122 (by decide) (fun c9 => absurd c9 (by decide)) (fun _ => ?_)
          refine lv_aload_n hx hb dX12_next_125 rfl (lv_at hl 0 rfl) ?_
          refine lv_aload_n hx hb dX12_next_126 rfl (lv_at hl 0 rfl) ?_
          refine va_get (D := (dC, dI)) (ci := 12) (v := .ref (ρ h0 8)) (C := RX12) (T := TX12) (N := 53) hx hb hts hfX12 hown hK hP q70 eq70 rfl 8 (by decide) (hts (.fieldLink RX12 27 "ColdShipsModel" "tape" "[I") wa_154) (fun _ h9 => h9) rfl dX12_next_127 ?_
          refine lv_aload_n hx hb dX12_next_130 rfl (lv_at hl 0 rfl) ?_
          refine va_get (D := (dC, dI)) (ci := 12) (v := .int w33) (C := RX12) (T := TX12) (N := 53) hx hb hts hfX12 hown hK hP q70 eq70 rfl 10 (by decide) (hts (.fieldLink RX12 267 "ColdShipsModel" "from" "I") wa_1005) (fun _ h9 => h9) rfl dX12_next_131 ?_
          have hf_71 : f67 (ρ h0 8) = .inl (κ 0, 400, .inl g28) := (k68 _ (tp_ne y6 ht_h0 (by decide))).trans hf_55
          obtain ⟨q72, eq72⟩ := tp_pos (tp_in hG y6 (by decide)) hf_71
          refine va_iald hx hb hK hP q72 0 eq72 rfl (vp_in_iff.mpr ⟨by omega, by omega⟩) dX12_next_134 ?_
          refine lv_topi (fun z73 ez73 => ?_)
          have jz73 : z73.toInt = mo_R g28 w33.toInt := mo_rd ez73 (by omega)
          refine lv_i2l hx hb dX12_next_135 rfl ?_
          refine va_put (D := (dC, dI)) (ci := 12) (v := .long z73.toInt64) (ty := .long) (C := RX12) (T := TX12) (N := 53) hx hb hts hfX12 tyX12 tyX12_ok nmX12 hown hK hP hD hS q70 eq70 rfl 13 (by decide) (hts (.fieldLink RX12 270 "ColdShipsModel" "worth" "J") wa_1006) (fun _ h9 => h9) rfl (tyX12_ok 13 (by decide)) rfl rfl (Nat.le_of_ble_eq_true rfl) dX12_next_136 (tp_k (.inr (12, [.int o26_x0, .int o26_x1, .ref (ρ h0 2), .ref (ρ h0 3), .ref (ρ h0 4), .ref (ρ h0 5), .ref (ρ h0 6), .int o26_x7, .ref (ρ h0 8), .int o26_x9, .int w33, .int w33, .int 3, .long z73.toInt64, .int o26_x14, .int o26_x15, .int o26_x16, .int o26_x17, .int o26_x18, .int o26_x19, .int o26_x20, .ref (ρ h0 21), .int o26_x22, .ref (ρ h0 23), .ref (ρ h0 24), .int o26_x25, .ref (ρ h0 26), .ref (ρ h0 27), .int o26_x28, .int o26_x29, .ref (ρ h0 30), .ref (ρ h0 31), .int o26_x32, .long o26_x33, .long o26_x34, .long o26_x35, .int o26_x36, .int o26_x37, .int o26_x38, .ref (ρ h0 39), .ref (ρ h0 40), .ref (ρ h0 41), .ref (ρ h0 42), .ref (ρ h0 43), .ref (ρ h0 44), .ref (ρ h0 45), .ref (ρ h0 46), .int o26_x47, .int o26_x48, .ref (ρ h0 49), .ref (ρ h0 50), .ref (ρ h0 51), .ref (ρ h0 52)])) hD (tp_in hG ht_h0 (by decide)) eq70 (fun f74 H locs hP hD hS g76 k75 => ?_))
          have hT := hT.up ht_h0 g76 k75 ⟨_, _, _, _, _, _, _, _, _, _, _, _, _, _, _, _, _, _, _, _, _, _, _, _, _, _, _, _, rfl, ro26_0, ro26_1, (by omega), (by omega), (by decide), ro26_5, ro26_6, ro26_7, ro26_8, ro26_9, ro26_10, ro26_11, ro26_12, ro26_13⟩
          have hR := hR.up ht_h0 (by decide) k75
          refine lv_aload_n hx hb dX12_next_139 rfl (lv_at hl 0 rfl) ?_
          refine lv_dup hx hb dX12_next_140 rfl ?_
          obtain ⟨q77, eq77⟩ := tp_pos (tp_in hG ht_h0 (by decide)) g76
          refine va_get (D := (dC, dI)) (ci := 12) (v := .int w33) (C := RX12) (T := TX12) (N := 53) hx hb hts hfX12 hown hK hP q77 eq77 rfl 11 (by decide) (hts (.fieldLink RX12 258 "ColdShipsModel" "to" "I") wa_1000) (fun _ h9 => h9) rfl dX12_next_141 ?_
          refine lv_iconst (v := 1) hx hb dX12_next_144 (by decide) ?_
          refine lv_iadd hx hb dX12_next_145 ?_
          refine lv_topi (fun z78 ez78 => ?_)
          have iz78 : z78.toInt = w33.toInt + 1 := zi_add ez78 rfl rfl (by omega) (by omega)
          refine va_put (D := (dC, dI)) (ci := 12) (v := .int z78) (ty := .int) (C := RX12) (T := TX12) (N := 53) hx hb hts hfX12 tyX12 tyX12_ok nmX12 hown hK hP hD hS q77 eq77 rfl 11 (by decide) (hts (.fieldLink RX12 258 "ColdShipsModel" "to" "I") wa_1000) (fun _ h9 => h9) rfl (tyX12_ok 11 (by decide)) rfl rfl (Nat.le_of_ble_eq_true rfl) dX12_next_146 (tp_k (.inr (12, [.int o26_x0, .int o26_x1, .ref (ρ h0 2), .ref (ρ h0 3), .ref (ρ h0 4), .ref (ρ h0 5), .ref (ρ h0 6), .int o26_x7, .ref (ρ h0 8), .int o26_x9, .int w33, .int z78, .int 3, .long z73.toInt64, .int o26_x14, .int o26_x15, .int o26_x16, .int o26_x17, .int o26_x18, .int o26_x19, .int o26_x20, .ref (ρ h0 21), .int o26_x22, .ref (ρ h0 23), .ref (ρ h0 24), .int o26_x25, .ref (ρ h0 26), .ref (ρ h0 27), .int o26_x28, .int o26_x29, .ref (ρ h0 30), .ref (ρ h0 31), .int o26_x32, .long o26_x33, .long o26_x34, .long o26_x35, .int o26_x36, .int o26_x37, .int o26_x38, .ref (ρ h0 39), .ref (ρ h0 40), .ref (ρ h0 41), .ref (ρ h0 42), .ref (ρ h0 43), .ref (ρ h0 44), .ref (ρ h0 45), .ref (ρ h0 46), .int o26_x47, .int o26_x48, .ref (ρ h0 49), .ref (ρ h0 50), .ref (ρ h0 51), .ref (ρ h0 52)])) hD (tp_in hG ht_h0 (by decide)) eq77 (fun f79 H locs hP hD hS g81 k80 => ?_))
          have hT := hT.up ht_h0 g81 k80 ⟨_, _, _, _, _, _, _, _, _, _, _, _, _, _, _, _, _, _, _, _, _, _, _, _, _, _, _, _, rfl, ro26_0, ro26_1, (by omega), (by omega), (by decide), ro26_5, ro26_6, ro26_7, ro26_8, ro26_9, ro26_10, ro26_11, ro26_12, ro26_13⟩
          have hR := hR.up ht_h0 (by decide) k80
          have hf_87 : f74 (ρ h0 8) = .inl (κ 0, 400, .inl g28) := (k75 _ (tp_ne y6 ht_h0 (by decide))).trans hf_71
          have hf_88 : f79 (ρ h0 8) = .inl (κ 0, 400, .inl g28) := (k80 _ (tp_ne y6 ht_h0 (by decide))).trans hf_87
          refine pz_loop (fun n0 H locs ls => ∃ f91 : Nat → va_E, ∃ w82 : Int32, ∃ w83 : Int64, n0 = (400 - (w82.toInt)).toNat ∧ tp_T (mo_O κ) κ τ ν ρ f91 ∧ tp_F τ [13] f f91 ∧ f91 (ρ h0 8) = .inl (κ 0, 400, .inl g28) ∧ f91 h0 = .inr (12, [.int o26_x0, .int o26_x1, .ref (ρ h0 2), .ref (ρ h0 3), .ref (ρ h0 4), .ref (ρ h0 5), .ref (ρ h0 6), .int o26_x7, .ref (ρ h0 8), .int o26_x9, .int w33, .int w82, .int 3, .long w83, .int o26_x14, .int o26_x15, .int o26_x16, .int o26_x17, .int o26_x18, .int o26_x19, .int o26_x20, .ref (ρ h0 21), .int o26_x22, .ref (ρ h0 23), .ref (ρ h0 24), .int o26_x25, .ref (ρ h0 26), .ref (ρ h0 27), .int o26_x28, .int o26_x29, .ref (ρ h0 30), .ref (ρ h0 31), .int o26_x32, .long o26_x33, .long o26_x34, .long o26_x35, .int o26_x36, .int o26_x37, .int o26_x38, .ref (ρ h0 39), .ref (ρ h0 40), .ref (ρ h0 41), .ref (ρ h0 42), .ref (ρ h0 43), .ref (ρ h0 44), .ref (ρ h0 45), .ref (ρ h0 46), .int o26_x47, .int o26_x48, .ref (ρ h0 49), .ref (ρ h0 50), .ref (ρ h0 51), .ref (ρ h0 52)]) ∧ (0 ≤ w82.toInt ∧ w82.toInt ≤ 400) ∧ (w33.toInt ≤ (w82.toInt)) ∧ ((w82.toInt) ≤ o26_x9.toInt) ∧ ((w82.toInt) = w33.toInt + 1) ∧ va_P (dC, dI) vwCl (va_pl L f91) H ∧ va_D A (va_pl L f91) ∧ va_S A s.heap H locs ∧ lv_has ls 1 [(0, .ref h0)]) ?_ _ _ _ _ ⟨f79, z78, z73.toInt64, rfl, hT, hR, hf_88, g81, (by have : (z73.toInt64).toInt = z73.toInt := (Int32.toInt_toInt64 z73); omega), (by have : (z73.toInt64).toInt = z73.toInt := (Int32.toInt_toInt64 z73); omega), (by have : (z73.toInt64).toInt = z73.toInt := (Int32.toInt_toInt64 z73); omega), (by have : (z73.toInt64).toInt = z73.toInt := (Int32.toInt_toInt64 z73); omega), hP, hD, hS, lv_sub hl [0] rfl⟩
          intro n0 H locs ls hI ih93
          obtain ⟨f91, w82, w83, hn94, hT, hR, hk89k, hk90k, rw82, k84, k85, k86, hP, hD, hS, hl⟩ := hI
          refine lv_aload_n hx hb dX12_next_149 rfl (lv_at hl 0 rfl) ?_
          obtain ⟨q95, eq95⟩ := tp_pos (tp_in hG ht_h0 (by decide)) hk90k
          refine va_get (D := (dC, dI)) (ci := 12) (v := .int 3) (C := RX12) (T := TX12) (N := 53) hx hb hts hfX12 hown hK hP q95 eq95 rfl 12 (by decide) (hts (.fieldLink RX12 280 "ColdShipsModel" "sort" "I") wa_995) (fun _ h9 => h9) rfl dX12_next_150 ?_
          refine lv_iconst (v := 1) hx hb dX12_next_153 (by decide) ?_
          refine lv_icmp_ne (tgt := 243) hx hb dX12_next_154 (by decide) (fun _ => ?_) (fun c9 => absurd c9 (by decide))
          refine pz_loop (fun n0 H locs ls => ∃ f103 : Nat → va_E, ∃ w96 : Int32, ∃ w97 : Int64, n0 = (400 - (w96.toInt)).toNat ∧ tp_T (mo_O κ) κ τ ν ρ f103 ∧ tp_F τ [13] f f103 ∧ f103 (ρ h0 8) = .inl (κ 0, 400, .inl g28) ∧ f103 h0 = .inr (12, [.int o26_x0, .int o26_x1, .ref (ρ h0 2), .ref (ρ h0 3), .ref (ρ h0 4), .ref (ρ h0 5), .ref (ρ h0 6), .int o26_x7, .ref (ρ h0 8), .int o26_x9, .int w33, .int w96, .int 3, .long w97, .int o26_x14, .int o26_x15, .int o26_x16, .int o26_x17, .int o26_x18, .int o26_x19, .int o26_x20, .ref (ρ h0 21), .int o26_x22, .ref (ρ h0 23), .ref (ρ h0 24), .int o26_x25, .ref (ρ h0 26), .ref (ρ h0 27), .int o26_x28, .int o26_x29, .ref (ρ h0 30), .ref (ρ h0 31), .int o26_x32, .long o26_x33, .long o26_x34, .long o26_x35, .int o26_x36, .int o26_x37, .int o26_x38, .ref (ρ h0 39), .ref (ρ h0 40), .ref (ρ h0 41), .ref (ρ h0 42), .ref (ρ h0 43), .ref (ρ h0 44), .ref (ρ h0 45), .ref (ρ h0 46), .int o26_x47, .int o26_x48, .ref (ρ h0 49), .ref (ρ h0 50), .ref (ρ h0 51), .ref (ρ h0 52)]) ∧ (0 ≤ w96.toInt ∧ w96.toInt ≤ 400) ∧ (w33.toInt ≤ (w96.toInt)) ∧ ((w96.toInt) ≤ o26_x9.toInt) ∧ (w33.toInt < (w96.toInt)) ∧ va_P (dC, dI) vwCl (va_pl L f103) H ∧ va_D A (va_pl L f103) ∧ va_S A s.heap H locs ∧ lv_has ls 1 [(0, .ref h0)]) ?_ _ _ _ _ ⟨f91, w82, w83, rfl, hT, hR, hk89k, hk90k, (by omega), (by omega), (by omega), (by omega), hP, hD, hS, lv_sub hl [0] rfl⟩
          intro n0 H locs ls hI ih105
          obtain ⟨f103, w96, w97, hn106, hT, hR, hk101k, hk102k, rw96, k98, k99, k100, hP, hD, hS, hl⟩ := hI
          refine lv_aload_n hx hb dX12_next_243 rfl (lv_at hl 0 rfl) ?_
          obtain ⟨q107, eq107⟩ := tp_pos (tp_in hG ht_h0 (by decide)) hk102k
          refine va_get (D := (dC, dI)) (ci := 12) (v := .int 3) (C := RX12) (T := TX12) (N := 53) hx hb hts hfX12 hown hK hP q107 eq107 rfl 12 (by decide) (hts (.fieldLink RX12 280 "ColdShipsModel" "sort" "I") wa_995) (fun _ h9 => h9) rfl dX12_next_244 ?_
          refine lv_iconst (v := 2) hx hb dX12_next_247 (by decide) ?_
          refine lv_icmp_ne (tgt := 335) hx hb dX12_next_248 (by decide) (fun _ => ?_) (fun c9 => absurd c9 (by decide))
          exact W.vret hx hb hr (fun t ht hW => ⟨⟨f103, rfl, ⟨hT, hR, (by simp only [hk102k, hf_o26, mo_i1, mo_l1]; exact (show (w33.toInt ≤ w96.toInt ∧ w96.toInt ≤ o26_x9.toInt ∧ (3 = 0 ∨ w33.toInt < w96.toInt) ∧ (3 = 1 → w96.toInt = w33.toInt + 1 → w97.toInt ≤ 26)) ∧ o26_x11.toInt ≤ w33.toInt ∧ o26_x9.toInt = o26_x9.toInt ∧ o26_x15.toInt = o26_x15.toInt ∧ o26_x19.toInt = o26_x19.toInt ∧ o26_x20.toInt = o26_x20.toInt ∧ o26_x22.toInt = o26_x22.toInt ∧ o26_x28.toInt = o26_x28.toInt from by first | omega | decide))⟩, by rw [ht]; exact hP, va_K.moved hW.alike hK, hD⟩, hS.F ht⟩) hS.2.2 dX12_next_335
        · have ic65 : r63.toInt ≠ 0 := zi_eqf rfl rfl c65
          have p108 : 48 ≤ (z62.toInt) ∧ (z62.toInt) ≤ 57 := (tp_cond.yes hw64p) (by omega)
          refine lv_iconst (v := 2) hx hb dX12_next_109 (by decide) ?_
          refine lv_goto (tgt := 114) hx hb dX12_next_110 (by decide) ?_
          refine va_put (D := (dC, dI)) (ci := 12) (v := .int 2) (ty := .int) (C := RX12) (T := TX12) (N := 53) hx hb hts hfX12 tyX12 tyX12_ok nmX12 hown hK hP hD hS q52 eq52 rfl 12 (by decide) (hts (.fieldLink RX12 280 "ColdShipsModel" "sort" "I") wa_995) (fun _ h9 => h9) rfl (tyX12_ok 12 (by decide)) rfl rfl (Nat.le_of_ble_eq_true rfl) dX12_next_114 (tp_k (.inr (12, [.int o26_x0, .int o26_x1, .ref (ρ h0 2), .ref (ρ h0 3), .ref (ρ h0 4), .ref (ρ h0 5), .ref (ρ h0 6), .int o26_x7, .ref (ρ h0 8), .int o26_x9, .int w33, .int w33, .int 2, .long 0, .int o26_x14, .int o26_x15, .int o26_x16, .int o26_x17, .int o26_x18, .int o26_x19, .int o26_x20, .ref (ρ h0 21), .int o26_x22, .ref (ρ h0 23), .ref (ρ h0 24), .int o26_x25, .ref (ρ h0 26), .ref (ρ h0 27), .int o26_x28, .int o26_x29, .ref (ρ h0 30), .ref (ρ h0 31), .int o26_x32, .long o26_x33, .long o26_x34, .long o26_x35, .int o26_x36, .int o26_x37, .int o26_x38, .ref (ρ h0 39), .ref (ρ h0 40), .ref (ρ h0 41), .ref (ρ h0 42), .ref (ρ h0 43), .ref (ρ h0 44), .ref (ρ h0 45), .ref (ρ h0 46), .int o26_x47, .int o26_x48, .ref (ρ h0 49), .ref (ρ h0 50), .ref (ρ h0 51), .ref (ρ h0 52)])) hD (tp_in hG ht_h0 (by decide)) eq52 (fun f109 H locs hP hD hS g111 k110 => ?_))
          have hT := hT.up ht_h0 g111 k110 ⟨_, _, _, _, _, _, _, _, _, _, _, _, _, _, _, _, _, _, _, _, _, _, _, _, _, _, _, _, rfl, ro26_0, ro26_1, (by omega), (by omega), (by decide), ro26_5, ro26_6, ro26_7, ro26_8, ro26_9, ro26_10, ro26_11, ro26_12, ro26_13⟩
          have hR := hR.up ht_h0 (by decide) k110
          refine lv_aload_n hx hb dX12_next_117 rfl (lv_at hl 0 rfl) ?_
          obtain ⟨q112, eq112⟩ := tp_pos (tp_in hG ht_h0 (by decide)) g111
          refine va_get (D := (dC, dI)) (ci := 12) (v := .int 2) (C := RX12) (T := TX12) (N := 53) hx hb hts hfX12 hown hK hP q112 eq112 rfl 12 (by decide) (hts (.fieldLink RX12 280 "ColdShipsModel" "sort" "I") wa_995) (fun _ h9 => h9) rfl dX12_next_118 ?_
          refine lv_iconst (v := 3) hx hb dX12_next_121 (by decide) ?_
          refine lv_icmp_ne (tgt := 149) hx hb dX12_next_122 (by decide) (fun _ => ?_) (fun c9 => absurd c9 (by decide))
          have hf_117 : f109 (ρ h0 8) = .inl (κ 0, 400, .inl g28) := (k110 _ (tp_ne y6 ht_h0 (by decide))).trans hf_55
          refine pz_loop (fun n0 H locs ls => ∃ f120 : Nat → va_E, ∃ w113 : Int32, ∃ w114 : Int64, n0 = (400 - (w113.toInt)).toNat ∧ tp_T (mo_O κ) κ τ ν ρ f120 ∧ tp_F τ [13] f f120 ∧ f120 (ρ h0 8) = .inl (κ 0, 400, .inl g28) ∧ f120 h0 = .inr (12, [.int o26_x0, .int o26_x1, .ref (ρ h0 2), .ref (ρ h0 3), .ref (ρ h0 4), .ref (ρ h0 5), .ref (ρ h0 6), .int o26_x7, .ref (ρ h0 8), .int o26_x9, .int w33, .int w113, .int 2, .long w114, .int o26_x14, .int o26_x15, .int o26_x16, .int o26_x17, .int o26_x18, .int o26_x19, .int o26_x20, .ref (ρ h0 21), .int o26_x22, .ref (ρ h0 23), .ref (ρ h0 24), .int o26_x25, .ref (ρ h0 26), .ref (ρ h0 27), .int o26_x28, .int o26_x29, .ref (ρ h0 30), .ref (ρ h0 31), .int o26_x32, .long o26_x33, .long o26_x34, .long o26_x35, .int o26_x36, .int o26_x37, .int o26_x38, .ref (ρ h0 39), .ref (ρ h0 40), .ref (ρ h0 41), .ref (ρ h0 42), .ref (ρ h0 43), .ref (ρ h0 44), .ref (ρ h0 45), .ref (ρ h0 46), .int o26_x47, .int o26_x48, .ref (ρ h0 49), .ref (ρ h0 50), .ref (ρ h0 51), .ref (ρ h0 52)]) ∧ (0 ≤ w113.toInt ∧ w113.toInt ≤ 400) ∧ (w33.toInt ≤ (w113.toInt)) ∧ ((w113.toInt) ≤ o26_x9.toInt) ∧ va_P (dC, dI) vwCl (va_pl L f120) H ∧ va_D A (va_pl L f120) ∧ va_S A s.heap H locs ∧ lv_has ls 1 [(0, .ref h0)]) ?_ _ _ _ _ ⟨f109, w33, 0, rfl, hT, hR, hf_117, g111, (by have : (0 : Int64).toInt = 0 := rfl; omega), (by have : (0 : Int64).toInt = 0 := rfl; omega), (by have : (0 : Int64).toInt = 0 := rfl; omega), hP, hD, hS, lv_sub hl [0] rfl⟩
          intro n0 H locs ls hI ih122
          obtain ⟨f120, w113, w114, hn123, hT, hR, hk118k, hk119k, rw113, k115, k116, hP, hD, hS, hl⟩ := hI
          refine lv_aload_n hx hb dX12_next_149 rfl (lv_at hl 0 rfl) ?_
          obtain ⟨q124, eq124⟩ := tp_pos (tp_in hG ht_h0 (by decide)) hk119k
          refine va_get (D := (dC, dI)) (ci := 12) (v := .int 2) (C := RX12) (T := TX12) (N := 53) hx hb hts hfX12 hown hK hP q124 eq124 rfl 12 (by decide) (hts (.fieldLink RX12 280 "ColdShipsModel" "sort" "I") wa_995) (fun _ h9 => h9) rfl dX12_next_150 ?_
          refine lv_iconst (v := 1) hx hb dX12_next_153 (by decide) ?_
          refine lv_icmp_ne (tgt := 243) hx hb dX12_next_154 (by decide) (fun _ => ?_) (fun c9 => absurd c9 (by decide))
          refine pz_loop (fun n0 H locs ls => ∃ f131 : Nat → va_E, ∃ w125 : Int32, ∃ w126 : Int64, n0 = (400 - (w125.toInt)).toNat ∧ tp_T (mo_O κ) κ τ ν ρ f131 ∧ tp_F τ [13] f f131 ∧ f131 (ρ h0 8) = .inl (κ 0, 400, .inl g28) ∧ f131 h0 = .inr (12, [.int o26_x0, .int o26_x1, .ref (ρ h0 2), .ref (ρ h0 3), .ref (ρ h0 4), .ref (ρ h0 5), .ref (ρ h0 6), .int o26_x7, .ref (ρ h0 8), .int o26_x9, .int w33, .int w125, .int 2, .long w126, .int o26_x14, .int o26_x15, .int o26_x16, .int o26_x17, .int o26_x18, .int o26_x19, .int o26_x20, .ref (ρ h0 21), .int o26_x22, .ref (ρ h0 23), .ref (ρ h0 24), .int o26_x25, .ref (ρ h0 26), .ref (ρ h0 27), .int o26_x28, .int o26_x29, .ref (ρ h0 30), .ref (ρ h0 31), .int o26_x32, .long o26_x33, .long o26_x34, .long o26_x35, .int o26_x36, .int o26_x37, .int o26_x38, .ref (ρ h0 39), .ref (ρ h0 40), .ref (ρ h0 41), .ref (ρ h0 42), .ref (ρ h0 43), .ref (ρ h0 44), .ref (ρ h0 45), .ref (ρ h0 46), .int o26_x47, .int o26_x48, .ref (ρ h0 49), .ref (ρ h0 50), .ref (ρ h0 51), .ref (ρ h0 52)]) ∧ (0 ≤ w125.toInt ∧ w125.toInt ≤ 400) ∧ (w33.toInt ≤ (w125.toInt)) ∧ ((w125.toInt) ≤ o26_x9.toInt) ∧ va_P (dC, dI) vwCl (va_pl L f131) H ∧ va_D A (va_pl L f131) ∧ va_S A s.heap H locs ∧ lv_has ls 1 [(0, .ref h0)]) ?_ _ _ _ _ ⟨f120, w113, w114, rfl, hT, hR, hk118k, hk119k, (by omega), (by omega), (by omega), hP, hD, hS, lv_sub hl [0] rfl⟩
          intro n0 H locs ls hI ih133
          obtain ⟨f131, w125, w126, hn134, hT, hR, hk129k, hk130k, rw125, k127, k128, hP, hD, hS, hl⟩ := hI
          refine lv_aload_n hx hb dX12_next_243 rfl (lv_at hl 0 rfl) ?_
          obtain ⟨q135, eq135⟩ := tp_pos (tp_in hG ht_h0 (by decide)) hk130k
          refine va_get (D := (dC, dI)) (ci := 12) (v := .int 2) (C := RX12) (T := TX12) (N := 53) hx hb hts hfX12 hown hK hP q135 eq135 rfl 12 (by decide) (hts (.fieldLink RX12 280 "ColdShipsModel" "sort" "I") wa_995) (fun _ h9 => h9) rfl dX12_next_244 ?_
          refine lv_iconst (v := 2) hx hb dX12_next_247 (by decide) ?_
          refine lv_icmp_ne (tgt := 335) hx hb dX12_next_248 (by decide) (fun c9 => absurd c9 (by decide)) (fun _ => ?_)
          refine lv_aload_n hx hb dX12_next_251 rfl (lv_at hl 0 rfl) ?_
          refine va_get (D := (dC, dI)) (ci := 12) (v := .int w125) (C := RX12) (T := TX12) (N := 53) hx hb hts hfX12 hown hK hP q135 eq135 rfl 11 (by decide) (hts (.fieldLink RX12 258 "ColdShipsModel" "to" "I") wa_1000) (fun _ h9 => h9) rfl dX12_next_252 ?_
          refine lv_aload_n hx hb dX12_next_255 rfl (lv_at hl 0 rfl) ?_
          refine va_get (D := (dC, dI)) (ci := 12) (v := .int o26_x9) (C := RX12) (T := TX12) (N := 53) hx hb hts hfX12 hown hK hP q135 eq135 rfl 9 (by decide) (hts (.fieldLink RX12 252 "ColdShipsModel" "taped" "I") wa_774) (fun _ h9 => h9) rfl dX12_next_256 ?_
          refine lv_icmp_ge (tgt := 335) hx hb dX12_next_259 (by decide) (fun c136 => ?_) (fun c136 => ?_)
          · have ic136 : w125.toInt ≥ o26_x9.toInt := zi_ge rfl rfl c136
            exact W.vret hx hb hr (fun t ht hW => ⟨⟨f131, rfl, ⟨hT, hR, (by simp only [hk130k, hf_o26, mo_i1, mo_l1]; exact (show (w33.toInt ≤ w125.toInt ∧ w125.toInt ≤ o26_x9.toInt ∧ (2 = 0 ∨ w33.toInt < w125.toInt) ∧ (2 = 1 → w125.toInt = w33.toInt + 1 → w126.toInt ≤ 26)) ∧ o26_x11.toInt ≤ w33.toInt ∧ o26_x9.toInt = o26_x9.toInt ∧ o26_x15.toInt = o26_x15.toInt ∧ o26_x19.toInt = o26_x19.toInt ∧ o26_x20.toInt = o26_x20.toInt ∧ o26_x22.toInt = o26_x22.toInt ∧ o26_x28.toInt = o26_x28.toInt from by first | omega | decide))⟩, by rw [ht]; exact hP, va_K.moved hW.alike hK, hD⟩, hS.F ht⟩) hS.2.2 dX12_next_335
          · have ic136 : w125.toInt < o26_x9.toInt := zi_gef rfl rfl c136
            refine lv_aload_n hx hb dX12_next_262 rfl (lv_at hl 0 rfl) ?_
            refine va_get (D := (dC, dI)) (ci := 12) (v := .ref (ρ h0 8)) (C := RX12) (T := TX12) (N := 53) hx hb hts hfX12 hown hK hP q135 eq135 rfl 8 (by decide) (hts (.fieldLink RX12 27 "ColdShipsModel" "tape" "[I") wa_154) (fun _ h9 => h9) rfl dX12_next_263 ?_
            refine lv_aload_n hx hb dX12_next_266 rfl (lv_at hl 0 rfl) ?_
            refine va_get (D := (dC, dI)) (ci := 12) (v := .int w125) (C := RX12) (T := TX12) (N := 53) hx hb hts hfX12 hown hK hP q135 eq135 rfl 11 (by decide) (hts (.fieldLink RX12 258 "ColdShipsModel" "to" "I") wa_1000) (fun _ h9 => h9) rfl dX12_next_267 ?_
            obtain ⟨q137, eq137⟩ := tp_pos (tp_in hG y6 (by decide)) hk129k
            refine va_iald hx hb hK hP q137 0 eq137 rfl (vp_in_iff.mpr ⟨by omega, by omega⟩) dX12_next_270 ?_
            refine lv_topi (fun z138 ez138 => ?_)
            have jz138 : z138.toInt = mo_R g28 w125.toInt := mo_rd ez138 (by omega)
            have hz138q := fun (q9 : w125.toInt = w33.toInt) => congrArg (mo_R g28) q9
            refine pz_calli (va_runS (As := [.int z138]) (rest := []) ⟨hx, hb, hml, hown, hts⟩ (t_X12_isDigit l dC dI _ z138 (z138.toInt) rfl) (va_cwS 1 hts gX12_next_X12_isDigit rfl rfl rfl pd_X12_isDigit ⟨Nat.le_of_ble_eq_true rfl, Nat.le_of_ble_eq_true rfl⟩) ⟨pz_blind, pz_pre pz_P0 (hK.sub (tys' := []) [] rfl) (pz_D0 (A := fun _ => True)) hN⟩ rfl rfl hl.1 rfl (lv_room (Nat.le_of_ble_eq_true rfl)) dX12_next_271 ⟨Nat.le_of_ble_eq_true rfl, Nat.le_of_ble_eq_true rfl⟩) (fun r139 hw140 => ?_)
            obtain ⟨hw140r, hw140p⟩ := hw140
            refine lv_if_eq (tgt := 335) hx hb dX12_next_274 (by decide) (fun c141 => ?_) (fun c141 => ?_)
            · have ic141 : r139.toInt = 0 := zi_eq rfl rfl c141
              have p142 : ¬ (48 ≤ (z138.toInt) ∧ (z138.toInt) ≤ 57) := (tp_cond.no hw140p) (by omega)
              exact W.vret hx hb hr (fun t ht hW => ⟨⟨f131, rfl, ⟨hT, hR, (by simp only [hk130k, hf_o26, mo_i1, mo_l1]; exact (show (w33.toInt ≤ w125.toInt ∧ w125.toInt ≤ o26_x9.toInt ∧ (2 = 0 ∨ w33.toInt < w125.toInt) ∧ (2 = 1 → w125.toInt = w33.toInt + 1 → w126.toInt ≤ 26)) ∧ o26_x11.toInt ≤ w33.toInt ∧ o26_x9.toInt = o26_x9.toInt ∧ o26_x15.toInt = o26_x15.toInt ∧ o26_x19.toInt = o26_x19.toInt ∧ o26_x20.toInt = o26_x20.toInt ∧ o26_x22.toInt = o26_x22.toInt ∧ o26_x28.toInt = o26_x28.toInt from by first | omega | decide))⟩, by rw [ht]; exact hP, va_K.moved hW.alike hK, hD⟩, hS.F ht⟩) hS.2.2 dX12_next_335
            · have ic141 : r139.toInt ≠ 0 := zi_eqf rfl rfl c141
              have p143 : 48 ≤ (z138.toInt) ∧ (z138.toInt) ≤ 57 := (tp_cond.yes hw140p) (by omega)
              refine lv_aload_n hx hb dX12_next_277 rfl (lv_at hl 0 rfl) ?_
              refine lv_aload_n hx hb dX12_next_278 rfl (lv_at hl 0 rfl) ?_
              refine va_get (D := (dC, dI)) (ci := 12) (v := .long w126) (C := RX12) (T := TX12) (N := 53) hx hb hts hfX12 hown hK hP q135 eq135 rfl 13 (by decide) (hts (.fieldLink RX12 270 "ColdShipsModel" "worth" "J") wa_1006) (fun _ h9 => h9) rfl dX12_next_279 ?_
              refine lv_ldc2 (own := RX12) (v := 1000000) hx hb hown (hts (.constantLong RX12 287 (1000000)) wa_1009) dX12_next_282 ?_
              refine W.lcmp hx hb dX12_next_285 ?_
              refine lv_if_le (tgt := 296) hx hb dX12_next_286 (by decide) (fun c144 => ?_) (fun c144 => ?_)
              · have ic144 : w126.toInt ≤ 1000000 := zl_le rfl rfl c144
                refine lv_aload_n hx hb dX12_next_296 rfl (lv_at hl 0 rfl) ?_
                refine va_get (D := (dC, dI)) (ci := 12) (v := .long w126) (C := RX12) (T := TX12) (N := 53) hx hb hts hfX12 hown hK hP q135 eq135 rfl 13 (by decide) (hts (.fieldLink RX12 270 "ColdShipsModel" "worth" "J") wa_1006) (fun _ h9 => h9) rfl dX12_next_297 ?_
                refine lv_ldc2 (own := RX12) (v := 10) hx hb hown (hts (.constantLong RX12 289 (10)) wa_1010) dX12_next_300 ?_
                refine lv_lmul hx hb dX12_next_303 ?_
                refine lv_topl (fun z145 ez145 => ?_)
                refine lv_aload_n hx hb dX12_next_304 rfl (lv_at hl 0 rfl) ?_
                refine va_get (D := (dC, dI)) (ci := 12) (v := .ref (ρ h0 8)) (C := RX12) (T := TX12) (N := 53) hx hb hts hfX12 hown hK hP q135 eq135 rfl 8 (by decide) (hts (.fieldLink RX12 27 "ColdShipsModel" "tape" "[I") wa_154) (fun _ h9 => h9) rfl dX12_next_305 ?_
                refine lv_aload_n hx hb dX12_next_308 rfl (lv_at hl 0 rfl) ?_
                refine va_get (D := (dC, dI)) (ci := 12) (v := .int w125) (C := RX12) (T := TX12) (N := 53) hx hb hts hfX12 hown hK hP q135 eq135 rfl 11 (by decide) (hts (.fieldLink RX12 258 "ColdShipsModel" "to" "I") wa_1000) (fun _ h9 => h9) rfl dX12_next_309 ?_
                refine va_iald hx hb hK hP q137 0 eq137 rfl (vp_in_iff.mpr ⟨by omega, by omega⟩) dX12_next_312 ?_
                refine lv_topi (fun z146 ez146 => ?_)
                have jz146 : z146.toInt = mo_R g28 w125.toInt := mo_rd ez146 (by omega)
                have hz146q := fun (q9 : w125.toInt = w33.toInt) => congrArg (mo_R g28) q9
                refine lv_i2l hx hb dX12_next_313 rfl ?_
                refine lv_ladd hx hb dX12_next_314 ?_
                refine lv_topl (fun z147 ez147 => ?_)
                refine lv_ldc2 (own := RX12) (v := 48) hx hb hown (hts (.constantLong RX12 291 (48)) wa_1011) dX12_next_315 ?_
                refine lv_lsub hx hb dX12_next_318 ?_
                refine lv_topl (fun z148 ez148 => ?_)
                refine va_put (D := (dC, dI)) (ci := 12) (v := .long z148) (ty := .long) (C := RX12) (T := TX12) (N := 53) hx hb hts hfX12 tyX12 tyX12_ok nmX12 hown hK hP hD hS q135 eq135 rfl 13 (by decide) (hts (.fieldLink RX12 270 "ColdShipsModel" "worth" "J") wa_1006) (fun _ h9 => h9) rfl (tyX12_ok 13 (by decide)) rfl rfl (Nat.le_of_ble_eq_true rfl) dX12_next_319 (tp_k (.inr (12, [.int o26_x0, .int o26_x1, .ref (ρ h0 2), .ref (ρ h0 3), .ref (ρ h0 4), .ref (ρ h0 5), .ref (ρ h0 6), .int o26_x7, .ref (ρ h0 8), .int o26_x9, .int w33, .int w125, .int 2, .long z148, .int o26_x14, .int o26_x15, .int o26_x16, .int o26_x17, .int o26_x18, .int o26_x19, .int o26_x20, .ref (ρ h0 21), .int o26_x22, .ref (ρ h0 23), .ref (ρ h0 24), .int o26_x25, .ref (ρ h0 26), .ref (ρ h0 27), .int o26_x28, .int o26_x29, .ref (ρ h0 30), .ref (ρ h0 31), .int o26_x32, .long o26_x33, .long o26_x34, .long o26_x35, .int o26_x36, .int o26_x37, .int o26_x38, .ref (ρ h0 39), .ref (ρ h0 40), .ref (ρ h0 41), .ref (ρ h0 42), .ref (ρ h0 43), .ref (ρ h0 44), .ref (ρ h0 45), .ref (ρ h0 46), .int o26_x47, .int o26_x48, .ref (ρ h0 49), .ref (ρ h0 50), .ref (ρ h0 51), .ref (ρ h0 52)])) hD (tp_in hG ht_h0 (by decide)) eq135 (fun f149 H locs hP hD hS g151 k150 => ?_))
                have hT := hT.up ht_h0 g151 k150 ⟨_, _, _, _, _, _, _, _, _, _, _, _, _, _, _, _, _, _, _, _, _, _, _, _, _, _, _, _, rfl, ro26_0, ro26_1, (by omega), (by omega), (by decide), ro26_5, ro26_6, ro26_7, ro26_8, ro26_9, ro26_10, ro26_11, ro26_12, ro26_13⟩
                have hR := hR.up ht_h0 (by decide) k150
                refine lv_aload_n hx hb dX12_next_322 rfl (lv_at hl 0 rfl) ?_
                refine lv_dup hx hb dX12_next_323 rfl ?_
                obtain ⟨q152, eq152⟩ := tp_pos (tp_in hG ht_h0 (by decide)) g151
                refine va_get (D := (dC, dI)) (ci := 12) (v := .int w125) (C := RX12) (T := TX12) (N := 53) hx hb hts hfX12 hown hK hP q152 eq152 rfl 11 (by decide) (hts (.fieldLink RX12 258 "ColdShipsModel" "to" "I") wa_1000) (fun _ h9 => h9) rfl dX12_next_324 ?_
                refine lv_iconst (v := 1) hx hb dX12_next_327 (by decide) ?_
                refine lv_iadd hx hb dX12_next_328 ?_
                refine lv_topi (fun z153 ez153 => ?_)
                have iz153 : z153.toInt = w125.toInt + 1 := zi_add ez153 rfl rfl (by omega) (by omega)
                refine va_put (D := (dC, dI)) (ci := 12) (v := .int z153) (ty := .int) (C := RX12) (T := TX12) (N := 53) hx hb hts hfX12 tyX12 tyX12_ok nmX12 hown hK hP hD hS q152 eq152 rfl 11 (by decide) (hts (.fieldLink RX12 258 "ColdShipsModel" "to" "I") wa_1000) (fun _ h9 => h9) rfl (tyX12_ok 11 (by decide)) rfl rfl (Nat.le_of_ble_eq_true rfl) dX12_next_329 (tp_k (.inr (12, [.int o26_x0, .int o26_x1, .ref (ρ h0 2), .ref (ρ h0 3), .ref (ρ h0 4), .ref (ρ h0 5), .ref (ρ h0 6), .int o26_x7, .ref (ρ h0 8), .int o26_x9, .int w33, .int z153, .int 2, .long z148, .int o26_x14, .int o26_x15, .int o26_x16, .int o26_x17, .int o26_x18, .int o26_x19, .int o26_x20, .ref (ρ h0 21), .int o26_x22, .ref (ρ h0 23), .ref (ρ h0 24), .int o26_x25, .ref (ρ h0 26), .ref (ρ h0 27), .int o26_x28, .int o26_x29, .ref (ρ h0 30), .ref (ρ h0 31), .int o26_x32, .long o26_x33, .long o26_x34, .long o26_x35, .int o26_x36, .int o26_x37, .int o26_x38, .ref (ρ h0 39), .ref (ρ h0 40), .ref (ρ h0 41), .ref (ρ h0 42), .ref (ρ h0 43), .ref (ρ h0 44), .ref (ρ h0 45), .ref (ρ h0 46), .int o26_x47, .int o26_x48, .ref (ρ h0 49), .ref (ρ h0 50), .ref (ρ h0 51), .ref (ρ h0 52)])) hD (tp_in hG ht_h0 (by decide)) eq152 (fun f154 H locs hP hD hS g156 k155 => ?_))
                have hT := hT.up ht_h0 g156 k155 ⟨_, _, _, _, _, _, _, _, _, _, _, _, _, _, _, _, _, _, _, _, _, _, _, _, _, _, _, _, rfl, ro26_0, ro26_1, (by omega), (by omega), (by decide), ro26_5, ro26_6, ro26_7, ro26_8, ro26_9, ro26_10, ro26_11, ro26_12, ro26_13⟩
                have hR := hR.up ht_h0 (by decide) k155
                refine lv_goto (tgt := 243) hx hb dX12_next_332 (by decide) ?_
                have hf_157 : f149 (ρ h0 8) = .inl (κ 0, 400, .inl g28) := (k150 _ (tp_ne y6 ht_h0 (by decide))).trans hk129k
                have hf_158 : f154 (ρ h0 8) = .inl (κ 0, 400, .inl g28) := (k155 _ (tp_ne y6 ht_h0 (by decide))).trans hf_157
                exact ih133 _ _ _ _ (by rw [hn134]; omega) ⟨f154, z153, z148, rfl, hT, hR, hf_158, g156, (by omega), (by omega), (by omega), hP, hD, hS, lv_sub hl [0] rfl⟩
              · have ic144 : w126.toInt > 1000000 := zl_lef rfl rfl c144
                refine lv_aload_n hx hb dX12_next_289 rfl (lv_at hl 0 rfl) ?_
                refine va_get (D := (dC, dI)) (ci := 12) (v := .long w126) (C := RX12) (T := TX12) (N := 53) hx hb hts hfX12 hown hK hP q135 eq135 rfl 13 (by decide) (hts (.fieldLink RX12 270 "ColdShipsModel" "worth" "J") wa_1006) (fun _ h9 => h9) rfl dX12_next_290 ?_
                refine lv_goto (tgt := 319) hx hb dX12_next_293 (by decide) ?_
                refine va_put (D := (dC, dI)) (ci := 12) (v := .long w126) (ty := .long) (C := RX12) (T := TX12) (N := 53) hx hb hts hfX12 tyX12 tyX12_ok nmX12 hown hK hP hD hS q135 eq135 rfl 13 (by decide) (hts (.fieldLink RX12 270 "ColdShipsModel" "worth" "J") wa_1006) (fun _ h9 => h9) rfl (tyX12_ok 13 (by decide)) rfl rfl (Nat.le_of_ble_eq_true rfl) dX12_next_319 (tp_k (.inr (12, [.int o26_x0, .int o26_x1, .ref (ρ h0 2), .ref (ρ h0 3), .ref (ρ h0 4), .ref (ρ h0 5), .ref (ρ h0 6), .int o26_x7, .ref (ρ h0 8), .int o26_x9, .int w33, .int w125, .int 2, .long w126, .int o26_x14, .int o26_x15, .int o26_x16, .int o26_x17, .int o26_x18, .int o26_x19, .int o26_x20, .ref (ρ h0 21), .int o26_x22, .ref (ρ h0 23), .ref (ρ h0 24), .int o26_x25, .ref (ρ h0 26), .ref (ρ h0 27), .int o26_x28, .int o26_x29, .ref (ρ h0 30), .ref (ρ h0 31), .int o26_x32, .long o26_x33, .long o26_x34, .long o26_x35, .int o26_x36, .int o26_x37, .int o26_x38, .ref (ρ h0 39), .ref (ρ h0 40), .ref (ρ h0 41), .ref (ρ h0 42), .ref (ρ h0 43), .ref (ρ h0 44), .ref (ρ h0 45), .ref (ρ h0 46), .int o26_x47, .int o26_x48, .ref (ρ h0 49), .ref (ρ h0 50), .ref (ρ h0 51), .ref (ρ h0 52)])) hD (tp_in hG ht_h0 (by decide)) eq135 (fun f159 H locs hP hD hS g161 k160 => ?_))
                have hT := hT.up ht_h0 g161 k160 ⟨_, _, _, _, _, _, _, _, _, _, _, _, _, _, _, _, _, _, _, _, _, _, _, _, _, _, _, _, rfl, ro26_0, ro26_1, (by omega), (by omega), (by decide), ro26_5, ro26_6, ro26_7, ro26_8, ro26_9, ro26_10, ro26_11, ro26_12, ro26_13⟩
                have hR := hR.up ht_h0 (by decide) k160
                refine lv_aload_n hx hb dX12_next_322 rfl (lv_at hl 0 rfl) ?_
                refine lv_dup hx hb dX12_next_323 rfl ?_
                obtain ⟨q162, eq162⟩ := tp_pos (tp_in hG ht_h0 (by decide)) g161
                refine va_get (D := (dC, dI)) (ci := 12) (v := .int w125) (C := RX12) (T := TX12) (N := 53) hx hb hts hfX12 hown hK hP q162 eq162 rfl 11 (by decide) (hts (.fieldLink RX12 258 "ColdShipsModel" "to" "I") wa_1000) (fun _ h9 => h9) rfl dX12_next_324 ?_
                refine lv_iconst (v := 1) hx hb dX12_next_327 (by decide) ?_
                refine lv_iadd hx hb dX12_next_328 ?_
                refine lv_topi (fun z163 ez163 => ?_)
                have iz163 : z163.toInt = w125.toInt + 1 := zi_add ez163 rfl rfl (by omega) (by omega)
                refine va_put (D := (dC, dI)) (ci := 12) (v := .int z163) (ty := .int) (C := RX12) (T := TX12) (N := 53) hx hb hts hfX12 tyX12 tyX12_ok nmX12 hown hK hP hD hS q162 eq162 rfl 11 (by decide) (hts (.fieldLink RX12 258 "ColdShipsModel" "to" "I") wa_1000) (fun _ h9 => h9) rfl (tyX12_ok 11 (by decide)) rfl rfl (Nat.le_of_ble_eq_true rfl) dX12_next_329 (tp_k (.inr (12, [.int o26_x0, .int o26_x1, .ref (ρ h0 2), .ref (ρ h0 3), .ref (ρ h0 4), .ref (ρ h0 5), .ref (ρ h0 6), .int o26_x7, .ref (ρ h0 8), .int o26_x9, .int w33, .int z163, .int 2, .long w126, .int o26_x14, .int o26_x15, .int o26_x16, .int o26_x17, .int o26_x18, .int o26_x19, .int o26_x20, .ref (ρ h0 21), .int o26_x22, .ref (ρ h0 23), .ref (ρ h0 24), .int o26_x25, .ref (ρ h0 26), .ref (ρ h0 27), .int o26_x28, .int o26_x29, .ref (ρ h0 30), .ref (ρ h0 31), .int o26_x32, .long o26_x33, .long o26_x34, .long o26_x35, .int o26_x36, .int o26_x37, .int o26_x38, .ref (ρ h0 39), .ref (ρ h0 40), .ref (ρ h0 41), .ref (ρ h0 42), .ref (ρ h0 43), .ref (ρ h0 44), .ref (ρ h0 45), .ref (ρ h0 46), .int o26_x47, .int o26_x48, .ref (ρ h0 49), .ref (ρ h0 50), .ref (ρ h0 51), .ref (ρ h0 52)])) hD (tp_in hG ht_h0 (by decide)) eq162 (fun f164 H locs hP hD hS g166 k165 => ?_))
                have hT := hT.up ht_h0 g166 k165 ⟨_, _, _, _, _, _, _, _, _, _, _, _, _, _, _, _, _, _, _, _, _, _, _, _, _, _, _, _, rfl, ro26_0, ro26_1, (by omega), (by omega), (by decide), ro26_5, ro26_6, ro26_7, ro26_8, ro26_9, ro26_10, ro26_11, ro26_12, ro26_13⟩
                have hR := hR.up ht_h0 (by decide) k165
                refine lv_goto (tgt := 243) hx hb dX12_next_332 (by decide) ?_
                have hf_167 : f159 (ρ h0 8) = .inl (κ 0, 400, .inl g28) := (k160 _ (tp_ne y6 ht_h0 (by decide))).trans hk129k
                have hf_168 : f164 (ρ h0 8) = .inl (κ 0, 400, .inl g28) := (k165 _ (tp_ne y6 ht_h0 (by decide))).trans hf_167
                exact ih133 _ _ _ _ (by rw [hn134]; omega) ⟨f164, z163, w126, rfl, hT, hR, hf_168, g166, (by omega), (by omega), (by omega), hP, hD, hS, lv_sub hl [0] rfl⟩
      · have ic60 : r58.toInt ≠ 0 := zi_eqf rfl rfl c60
        have p169 : 97 ≤ (z57.toInt) ∧ (z57.toInt) ≤ 122 := (tp_cond.yes hw59p) (by omega)
        refine lv_iconst (v := 1) hx hb dX12_next_90 (by decide) ?_
        refine lv_goto (tgt := 114) hx hb dX12_next_91 (by decide) ?_
        refine va_put (D := (dC, dI)) (ci := 12) (v := .int 1) (ty := .int) (C := RX12) (T := TX12) (N := 53) hx hb hts hfX12 tyX12 tyX12_ok nmX12 hown hK hP hD hS q52 eq52 rfl 12 (by decide) (hts (.fieldLink RX12 280 "ColdShipsModel" "sort" "I") wa_995) (fun _ h9 => h9) rfl (tyX12_ok 12 (by decide)) rfl rfl (Nat.le_of_ble_eq_true rfl) dX12_next_114 (tp_k (.inr (12, [.int o26_x0, .int o26_x1, .ref (ρ h0 2), .ref (ρ h0 3), .ref (ρ h0 4), .ref (ρ h0 5), .ref (ρ h0 6), .int o26_x7, .ref (ρ h0 8), .int o26_x9, .int w33, .int w33, .int 1, .long 0, .int o26_x14, .int o26_x15, .int o26_x16, .int o26_x17, .int o26_x18, .int o26_x19, .int o26_x20, .ref (ρ h0 21), .int o26_x22, .ref (ρ h0 23), .ref (ρ h0 24), .int o26_x25, .ref (ρ h0 26), .ref (ρ h0 27), .int o26_x28, .int o26_x29, .ref (ρ h0 30), .ref (ρ h0 31), .int o26_x32, .long o26_x33, .long o26_x34, .long o26_x35, .int o26_x36, .int o26_x37, .int o26_x38, .ref (ρ h0 39), .ref (ρ h0 40), .ref (ρ h0 41), .ref (ρ h0 42), .ref (ρ h0 43), .ref (ρ h0 44), .ref (ρ h0 45), .ref (ρ h0 46), .int o26_x47, .int o26_x48, .ref (ρ h0 49), .ref (ρ h0 50), .ref (ρ h0 51), .ref (ρ h0 52)])) hD (tp_in hG ht_h0 (by decide)) eq52 (fun f170 H locs hP hD hS g172 k171 => ?_))
        have hT := hT.up ht_h0 g172 k171 ⟨_, _, _, _, _, _, _, _, _, _, _, _, _, _, _, _, _, _, _, _, _, _, _, _, _, _, _, _, rfl, ro26_0, ro26_1, (by omega), (by omega), (by decide), ro26_5, ro26_6, ro26_7, ro26_8, ro26_9, ro26_10, ro26_11, ro26_12, ro26_13⟩
        have hR := hR.up ht_h0 (by decide) k171
        refine lv_aload_n hx hb dX12_next_117 rfl (lv_at hl 0 rfl) ?_
        obtain ⟨q173, eq173⟩ := tp_pos (tp_in hG ht_h0 (by decide)) g172
        refine va_get (D := (dC, dI)) (ci := 12) (v := .int 1) (C := RX12) (T := TX12) (N := 53) hx hb hts hfX12 hown hK hP q173 eq173 rfl 12 (by decide) (hts (.fieldLink RX12 280 "ColdShipsModel" "sort" "I") wa_995) (fun _ h9 => h9) rfl dX12_next_118 ?_
        refine lv_iconst (v := 3) hx hb dX12_next_121 (by decide) ?_
        refine lv_icmp_ne (tgt := 149) hx hb dX12_next_122 (by decide) (fun _ => ?_) (fun c9 => absurd c9 (by decide))
        have hf_180 : f170 (ρ h0 8) = .inl (κ 0, 400, .inl g28) := (k171 _ (tp_ne y6 ht_h0 (by decide))).trans hf_55
        refine pz_loop (fun n0 H locs ls => ∃ f183 : Nat → va_E, ∃ w174 : Int32, ∃ w175 : Int64, n0 = (400 - (w174.toInt)).toNat ∧ tp_T (mo_O κ) κ τ ν ρ f183 ∧ tp_F τ [13] f f183 ∧ f183 (ρ h0 8) = .inl (κ 0, 400, .inl g28) ∧ f183 h0 = .inr (12, [.int o26_x0, .int o26_x1, .ref (ρ h0 2), .ref (ρ h0 3), .ref (ρ h0 4), .ref (ρ h0 5), .ref (ρ h0 6), .int o26_x7, .ref (ρ h0 8), .int o26_x9, .int w33, .int w174, .int 1, .long w175, .int o26_x14, .int o26_x15, .int o26_x16, .int o26_x17, .int o26_x18, .int o26_x19, .int o26_x20, .ref (ρ h0 21), .int o26_x22, .ref (ρ h0 23), .ref (ρ h0 24), .int o26_x25, .ref (ρ h0 26), .ref (ρ h0 27), .int o26_x28, .int o26_x29, .ref (ρ h0 30), .ref (ρ h0 31), .int o26_x32, .long o26_x33, .long o26_x34, .long o26_x35, .int o26_x36, .int o26_x37, .int o26_x38, .ref (ρ h0 39), .ref (ρ h0 40), .ref (ρ h0 41), .ref (ρ h0 42), .ref (ρ h0 43), .ref (ρ h0 44), .ref (ρ h0 45), .ref (ρ h0 46), .int o26_x47, .int o26_x48, .ref (ρ h0 49), .ref (ρ h0 50), .ref (ρ h0 51), .ref (ρ h0 52)]) ∧ (0 ≤ w174.toInt ∧ w174.toInt ≤ 400) ∧ (w33.toInt ≤ (w174.toInt)) ∧ ((w174.toInt) ≤ o26_x9.toInt) ∧ (((w174.toInt) = w33.toInt → (w175.toInt) = 0)) ∧ (((w174.toInt) = w33.toInt + 1 → (w175.toInt) ≤ 26)) ∧ va_P (dC, dI) vwCl (va_pl L f183) H ∧ va_D A (va_pl L f183) ∧ va_S A s.heap H locs ∧ lv_has ls 1 [(0, .ref h0)]) ?_ _ _ _ _ ⟨f170, w33, 0, rfl, hT, hR, hf_180, g172, (by have : (0 : Int64).toInt = 0 := rfl; omega), (by have : (0 : Int64).toInt = 0 := rfl; omega), (by have : (0 : Int64).toInt = 0 := rfl; omega), (by have : (0 : Int64).toInt = 0 := rfl; omega), (by have : (0 : Int64).toInt = 0 := rfl; omega), hP, hD, hS, lv_sub hl [0] rfl⟩
        intro n0 H locs ls hI ih185
        obtain ⟨f183, w174, w175, hn186, hT, hR, hk181k, hk182k, rw174, k176, k177, k178, k179, hP, hD, hS, hl⟩ := hI
        refine lv_aload_n hx hb dX12_next_149 rfl (lv_at hl 0 rfl) ?_
        obtain ⟨q187, eq187⟩ := tp_pos (tp_in hG ht_h0 (by decide)) hk182k
        refine va_get (D := (dC, dI)) (ci := 12) (v := .int 1) (C := RX12) (T := TX12) (N := 53) hx hb hts hfX12 hown hK hP q187 eq187 rfl 12 (by decide) (hts (.fieldLink RX12 280 "ColdShipsModel" "sort" "I") wa_995) (fun _ h9 => h9) rfl dX12_next_150 ?_
        refine lv_iconst (v := 1) hx hb dX12_next_153 (by decide) ?_
        refine lv_icmp_ne (tgt := 243) hx hb dX12_next_154 (by decide) (fun c9 => absurd c9 (by decide)) (fun _ => ?_)
        refine lv_aload_n hx hb dX12_next_157 rfl (lv_at hl 0 rfl) ?_
        refine va_get (D := (dC, dI)) (ci := 12) (v := .int w174) (C := RX12) (T := TX12) (N := 53) hx hb hts hfX12 hown hK hP q187 eq187 rfl 11 (by decide) (hts (.fieldLink RX12 258 "ColdShipsModel" "to" "I") wa_1000) (fun _ h9 => h9) rfl dX12_next_158 ?_
        refine lv_aload_n hx hb dX12_next_161 rfl (lv_at hl 0 rfl) ?_
        refine va_get (D := (dC, dI)) (ci := 12) (v := .int o26_x9) (C := RX12) (T := TX12) (N := 53) hx hb hts hfX12 hown hK hP q187 eq187 rfl 9 (by decide) (hts (.fieldLink RX12 252 "ColdShipsModel" "taped" "I") wa_774) (fun _ h9 => h9) rfl dX12_next_162 ?_
        refine lv_icmp_ge (tgt := 243) hx hb dX12_next_165 (by decide) (fun c188 => ?_) (fun c188 => ?_)
        · have ic188 : w174.toInt ≥ o26_x9.toInt := zi_ge rfl rfl c188
          refine pz_loop (fun n0 H locs ls => ∃ f197 : Nat → va_E, ∃ w189 : Int32, ∃ w190 : Int64, n0 = (400 - (w189.toInt)).toNat ∧ tp_T (mo_O κ) κ τ ν ρ f197 ∧ tp_F τ [13] f f197 ∧ f197 (ρ h0 8) = .inl (κ 0, 400, .inl g28) ∧ f197 h0 = .inr (12, [.int o26_x0, .int o26_x1, .ref (ρ h0 2), .ref (ρ h0 3), .ref (ρ h0 4), .ref (ρ h0 5), .ref (ρ h0 6), .int o26_x7, .ref (ρ h0 8), .int o26_x9, .int w33, .int w189, .int 1, .long w190, .int o26_x14, .int o26_x15, .int o26_x16, .int o26_x17, .int o26_x18, .int o26_x19, .int o26_x20, .ref (ρ h0 21), .int o26_x22, .ref (ρ h0 23), .ref (ρ h0 24), .int o26_x25, .ref (ρ h0 26), .ref (ρ h0 27), .int o26_x28, .int o26_x29, .ref (ρ h0 30), .ref (ρ h0 31), .int o26_x32, .long o26_x33, .long o26_x34, .long o26_x35, .int o26_x36, .int o26_x37, .int o26_x38, .ref (ρ h0 39), .ref (ρ h0 40), .ref (ρ h0 41), .ref (ρ h0 42), .ref (ρ h0 43), .ref (ρ h0 44), .ref (ρ h0 45), .ref (ρ h0 46), .int o26_x47, .int o26_x48, .ref (ρ h0 49), .ref (ρ h0 50), .ref (ρ h0 51), .ref (ρ h0 52)]) ∧ (0 ≤ w189.toInt ∧ w189.toInt ≤ 400) ∧ (w33.toInt ≤ (w189.toInt)) ∧ ((w189.toInt) ≤ o26_x9.toInt) ∧ (w33.toInt < (w189.toInt)) ∧ (((w189.toInt) = w33.toInt + 1 → (w190.toInt) ≤ 26)) ∧ va_P (dC, dI) vwCl (va_pl L f197) H ∧ va_D A (va_pl L f197) ∧ va_S A s.heap H locs ∧ lv_has ls 1 [(0, .ref h0)]) ?_ _ _ _ _ ⟨f183, w174, w175, rfl, hT, hR, hk181k, hk182k, (by omega), (by omega), (by omega), (by omega), (by omega), hP, hD, hS, lv_sub hl [0] rfl⟩
          intro n0 H locs ls hI ih199
          obtain ⟨f197, w189, w190, hn200, hT, hR, hk195k, hk196k, rw189, k191, k192, k193, k194, hP, hD, hS, hl⟩ := hI
          refine lv_aload_n hx hb dX12_next_243 rfl (lv_at hl 0 rfl) ?_
          obtain ⟨q201, eq201⟩ := tp_pos (tp_in hG ht_h0 (by decide)) hk196k
          refine va_get (D := (dC, dI)) (ci := 12) (v := .int 1) (C := RX12) (T := TX12) (N := 53) hx hb hts hfX12 hown hK hP q201 eq201 rfl 12 (by decide) (hts (.fieldLink RX12 280 "ColdShipsModel" "sort" "I") wa_995) (fun _ h9 => h9) rfl dX12_next_244 ?_
          refine lv_iconst (v := 2) hx hb dX12_next_247 (by decide) ?_
          refine lv_icmp_ne (tgt := 335) hx hb dX12_next_248 (by decide) (fun _ => ?_) (fun c9 => absurd c9 (by decide))
          exact W.vret hx hb hr (fun t ht hW => ⟨⟨f197, rfl, ⟨hT, hR, (by simp only [hk196k, hf_o26, mo_i1, mo_l1]; exact (show (w33.toInt ≤ w189.toInt ∧ w189.toInt ≤ o26_x9.toInt ∧ (1 = 0 ∨ w33.toInt < w189.toInt) ∧ (1 = 1 → w189.toInt = w33.toInt + 1 → w190.toInt ≤ 26)) ∧ o26_x11.toInt ≤ w33.toInt ∧ o26_x9.toInt = o26_x9.toInt ∧ o26_x15.toInt = o26_x15.toInt ∧ o26_x19.toInt = o26_x19.toInt ∧ o26_x20.toInt = o26_x20.toInt ∧ o26_x22.toInt = o26_x22.toInt ∧ o26_x28.toInt = o26_x28.toInt from by first | omega | decide))⟩, by rw [ht]; exact hP, va_K.moved hW.alike hK, hD⟩, hS.F ht⟩) hS.2.2 dX12_next_335
        · have ic188 : w174.toInt < o26_x9.toInt := zi_gef rfl rfl c188
          refine lv_aload_n hx hb dX12_next_168 rfl (lv_at hl 0 rfl) ?_
          refine va_get (D := (dC, dI)) (ci := 12) (v := .ref (ρ h0 8)) (C := RX12) (T := TX12) (N := 53) hx hb hts hfX12 hown hK hP q187 eq187 rfl 8 (by decide) (hts (.fieldLink RX12 27 "ColdShipsModel" "tape" "[I") wa_154) (fun _ h9 => h9) rfl dX12_next_169 ?_
          refine lv_aload_n hx hb dX12_next_172 rfl (lv_at hl 0 rfl) ?_
          refine va_get (D := (dC, dI)) (ci := 12) (v := .int w174) (C := RX12) (T := TX12) (N := 53) hx hb hts hfX12 hown hK hP q187 eq187 rfl 11 (by decide) (hts (.fieldLink RX12 258 "ColdShipsModel" "to" "I") wa_1000) (fun _ h9 => h9) rfl dX12_next_173 ?_
          obtain ⟨q202, eq202⟩ := tp_pos (tp_in hG y6 (by decide)) hk181k
          refine va_iald hx hb hK hP q202 0 eq202 rfl (vp_in_iff.mpr ⟨by omega, by omega⟩) dX12_next_176 ?_
          refine lv_topi (fun z203 ez203 => ?_)
          have jz203 : z203.toInt = mo_R g28 w174.toInt := mo_rd ez203 (by omega)
          have hz203q := fun (q9 : w174.toInt = w33.toInt) => congrArg (mo_R g28) q9
          refine pz_calli (va_runS (As := [.int z203]) (rest := []) ⟨hx, hb, hml, hown, hts⟩ (t_X12_isSmall l dC dI _ z203 (z203.toInt) rfl) (va_cwS 1 hts gX12_next_X12_isSmall rfl rfl rfl pd_X12_isSmall ⟨Nat.le_of_ble_eq_true rfl, Nat.le_of_ble_eq_true rfl⟩) ⟨pz_blind, pz_pre pz_P0 (hK.sub (tys' := []) [] rfl) (pz_D0 (A := fun _ => True)) hN⟩ rfl rfl hl.1 rfl (lv_room (Nat.le_of_ble_eq_true rfl)) dX12_next_177 ⟨Nat.le_of_ble_eq_true rfl, Nat.le_of_ble_eq_true rfl⟩) (fun r204 hw205 => ?_)
          obtain ⟨hw205r, hw205p⟩ := hw205
          refine lv_if_eq (tgt := 243) hx hb dX12_next_180 (by decide) (fun c206 => ?_) (fun c206 => ?_)
          · have ic206 : r204.toInt = 0 := zi_eq rfl rfl c206
            have p207 : ¬ (97 ≤ (z203.toInt) ∧ (z203.toInt) ≤ 122) := (tp_cond.no hw205p) (by omega)
            refine pz_loop (fun n0 H locs ls => ∃ f216 : Nat → va_E, ∃ w208 : Int32, ∃ w209 : Int64, n0 = (400 - (w208.toInt)).toNat ∧ tp_T (mo_O κ) κ τ ν ρ f216 ∧ tp_F τ [13] f f216 ∧ f216 (ρ h0 8) = .inl (κ 0, 400, .inl g28) ∧ f216 h0 = .inr (12, [.int o26_x0, .int o26_x1, .ref (ρ h0 2), .ref (ρ h0 3), .ref (ρ h0 4), .ref (ρ h0 5), .ref (ρ h0 6), .int o26_x7, .ref (ρ h0 8), .int o26_x9, .int w33, .int w208, .int 1, .long w209, .int o26_x14, .int o26_x15, .int o26_x16, .int o26_x17, .int o26_x18, .int o26_x19, .int o26_x20, .ref (ρ h0 21), .int o26_x22, .ref (ρ h0 23), .ref (ρ h0 24), .int o26_x25, .ref (ρ h0 26), .ref (ρ h0 27), .int o26_x28, .int o26_x29, .ref (ρ h0 30), .ref (ρ h0 31), .int o26_x32, .long o26_x33, .long o26_x34, .long o26_x35, .int o26_x36, .int o26_x37, .int o26_x38, .ref (ρ h0 39), .ref (ρ h0 40), .ref (ρ h0 41), .ref (ρ h0 42), .ref (ρ h0 43), .ref (ρ h0 44), .ref (ρ h0 45), .ref (ρ h0 46), .int o26_x47, .int o26_x48, .ref (ρ h0 49), .ref (ρ h0 50), .ref (ρ h0 51), .ref (ρ h0 52)]) ∧ (0 ≤ w208.toInt ∧ w208.toInt ≤ 400) ∧ (w33.toInt ≤ (w208.toInt)) ∧ ((w208.toInt) ≤ o26_x9.toInt) ∧ (w33.toInt < (w208.toInt)) ∧ (((w208.toInt) = w33.toInt + 1 → (w209.toInt) ≤ 26)) ∧ va_P (dC, dI) vwCl (va_pl L f216) H ∧ va_D A (va_pl L f216) ∧ va_S A s.heap H locs ∧ lv_has ls 1 [(0, .ref h0)]) ?_ _ _ _ _ ⟨f183, w174, w175, rfl, hT, hR, hk181k, hk182k, (by omega), (by omega), (by omega), (by omega), (by omega), hP, hD, hS, lv_sub hl [0] rfl⟩
            intro n0 H locs ls hI ih218
            obtain ⟨f216, w208, w209, hn219, hT, hR, hk214k, hk215k, rw208, k210, k211, k212, k213, hP, hD, hS, hl⟩ := hI
            refine lv_aload_n hx hb dX12_next_243 rfl (lv_at hl 0 rfl) ?_
            obtain ⟨q220, eq220⟩ := tp_pos (tp_in hG ht_h0 (by decide)) hk215k
            refine va_get (D := (dC, dI)) (ci := 12) (v := .int 1) (C := RX12) (T := TX12) (N := 53) hx hb hts hfX12 hown hK hP q220 eq220 rfl 12 (by decide) (hts (.fieldLink RX12 280 "ColdShipsModel" "sort" "I") wa_995) (fun _ h9 => h9) rfl dX12_next_244 ?_
            refine lv_iconst (v := 2) hx hb dX12_next_247 (by decide) ?_
            refine lv_icmp_ne (tgt := 335) hx hb dX12_next_248 (by decide) (fun _ => ?_) (fun c9 => absurd c9 (by decide))
            exact W.vret hx hb hr (fun t ht hW => ⟨⟨f216, rfl, ⟨hT, hR, (by simp only [hk215k, hf_o26, mo_i1, mo_l1]; exact (show (w33.toInt ≤ w208.toInt ∧ w208.toInt ≤ o26_x9.toInt ∧ (1 = 0 ∨ w33.toInt < w208.toInt) ∧ (1 = 1 → w208.toInt = w33.toInt + 1 → w209.toInt ≤ 26)) ∧ o26_x11.toInt ≤ w33.toInt ∧ o26_x9.toInt = o26_x9.toInt ∧ o26_x15.toInt = o26_x15.toInt ∧ o26_x19.toInt = o26_x19.toInt ∧ o26_x20.toInt = o26_x20.toInt ∧ o26_x22.toInt = o26_x22.toInt ∧ o26_x28.toInt = o26_x28.toInt from by first | omega | decide))⟩, by rw [ht]; exact hP, va_K.moved hW.alike hK, hD⟩, hS.F ht⟩) hS.2.2 dX12_next_335
          · have ic206 : r204.toInt ≠ 0 := zi_eqf rfl rfl c206
            have p221 : 97 ≤ (z203.toInt) ∧ (z203.toInt) ≤ 122 := (tp_cond.yes hw205p) (by omega)
            refine lv_aload_n hx hb dX12_next_183 rfl (lv_at hl 0 rfl) ?_
            refine lv_aload_n hx hb dX12_next_184 rfl (lv_at hl 0 rfl) ?_
            refine va_get (D := (dC, dI)) (ci := 12) (v := .int w174) (C := RX12) (T := TX12) (N := 53) hx hb hts hfX12 hown hK hP q187 eq187 rfl 11 (by decide) (hts (.fieldLink RX12 258 "ColdShipsModel" "to" "I") wa_1000) (fun _ h9 => h9) rfl dX12_next_185 ?_
            refine lv_aload_n hx hb dX12_next_188 rfl (lv_at hl 0 rfl) ?_
            refine va_get (D := (dC, dI)) (ci := 12) (v := .int w33) (C := RX12) (T := TX12) (N := 53) hx hb hts hfX12 hown hK hP q187 eq187 rfl 10 (by decide) (hts (.fieldLink RX12 267 "ColdShipsModel" "from" "I") wa_1005) (fun _ h9 => h9) rfl dX12_next_189 ?_
            refine lv_isub hx hb dX12_next_192 ?_
            refine lv_topi (fun z222 ez222 => ?_)
            have iz222 : z222.toInt = w174.toInt - w33.toInt := zi_sub ez222 rfl rfl (by omega) (by omega)
            refine lv_bipush (v := 10) hx hb dX12_next_193 (by decide) ?_
            refine lv_icmp_ge (tgt := 224) hx hb dX12_next_195 (by decide) (fun c223 => ?_) (fun c223 => ?_)
            · have ic223 : z222.toInt ≥ 10 := zi_ge rfl rfl c223
              refine lv_ldc2 (own := RX12) (v := (-1)) hx hb hown (hts (.constantLong RX12 158 (-1)) wa_557) dX12_next_224 ?_
              refine va_put (D := (dC, dI)) (ci := 12) (v := .long (-1)) (ty := .long) (C := RX12) (T := TX12) (N := 53) hx hb hts hfX12 tyX12 tyX12_ok nmX12 hown hK hP hD hS q187 eq187 rfl 13 (by decide) (hts (.fieldLink RX12 270 "ColdShipsModel" "worth" "J") wa_1006) (fun _ h9 => h9) rfl (tyX12_ok 13 (by decide)) rfl rfl (Nat.le_of_ble_eq_true rfl) dX12_next_227 (tp_k (.inr (12, [.int o26_x0, .int o26_x1, .ref (ρ h0 2), .ref (ρ h0 3), .ref (ρ h0 4), .ref (ρ h0 5), .ref (ρ h0 6), .int o26_x7, .ref (ρ h0 8), .int o26_x9, .int w33, .int w174, .int 1, .long (-1), .int o26_x14, .int o26_x15, .int o26_x16, .int o26_x17, .int o26_x18, .int o26_x19, .int o26_x20, .ref (ρ h0 21), .int o26_x22, .ref (ρ h0 23), .ref (ρ h0 24), .int o26_x25, .ref (ρ h0 26), .ref (ρ h0 27), .int o26_x28, .int o26_x29, .ref (ρ h0 30), .ref (ρ h0 31), .int o26_x32, .long o26_x33, .long o26_x34, .long o26_x35, .int o26_x36, .int o26_x37, .int o26_x38, .ref (ρ h0 39), .ref (ρ h0 40), .ref (ρ h0 41), .ref (ρ h0 42), .ref (ρ h0 43), .ref (ρ h0 44), .ref (ρ h0 45), .ref (ρ h0 46), .int o26_x47, .int o26_x48, .ref (ρ h0 49), .ref (ρ h0 50), .ref (ρ h0 51), .ref (ρ h0 52)])) hD (tp_in hG ht_h0 (by decide)) eq187 (fun f224 H locs hP hD hS g226 k225 => ?_))
              have hT := hT.up ht_h0 g226 k225 ⟨_, _, _, _, _, _, _, _, _, _, _, _, _, _, _, _, _, _, _, _, _, _, _, _, _, _, _, _, rfl, ro26_0, ro26_1, (by omega), (by omega), (by decide), ro26_5, ro26_6, ro26_7, ro26_8, ro26_9, ro26_10, ro26_11, ro26_12, ro26_13⟩
              have hR := hR.up ht_h0 (by decide) k225
              refine lv_aload_n hx hb dX12_next_230 rfl (lv_at hl 0 rfl) ?_
              refine lv_dup hx hb dX12_next_231 rfl ?_
              obtain ⟨q227, eq227⟩ := tp_pos (tp_in hG ht_h0 (by decide)) g226
              refine va_get (D := (dC, dI)) (ci := 12) (v := .int w174) (C := RX12) (T := TX12) (N := 53) hx hb hts hfX12 hown hK hP q227 eq227 rfl 11 (by decide) (hts (.fieldLink RX12 258 "ColdShipsModel" "to" "I") wa_1000) (fun _ h9 => h9) rfl dX12_next_232 ?_
              refine lv_iconst (v := 1) hx hb dX12_next_235 (by decide) ?_
              refine lv_iadd hx hb dX12_next_236 ?_
              refine lv_topi (fun z228 ez228 => ?_)
              have iz228 : z228.toInt = w174.toInt + 1 := zi_add ez228 rfl rfl (by omega) (by omega)
              refine va_put (D := (dC, dI)) (ci := 12) (v := .int z228) (ty := .int) (C := RX12) (T := TX12) (N := 53) hx hb hts hfX12 tyX12 tyX12_ok nmX12 hown hK hP hD hS q227 eq227 rfl 11 (by decide) (hts (.fieldLink RX12 258 "ColdShipsModel" "to" "I") wa_1000) (fun _ h9 => h9) rfl (tyX12_ok 11 (by decide)) rfl rfl (Nat.le_of_ble_eq_true rfl) dX12_next_237 (tp_k (.inr (12, [.int o26_x0, .int o26_x1, .ref (ρ h0 2), .ref (ρ h0 3), .ref (ρ h0 4), .ref (ρ h0 5), .ref (ρ h0 6), .int o26_x7, .ref (ρ h0 8), .int o26_x9, .int w33, .int z228, .int 1, .long (-1), .int o26_x14, .int o26_x15, .int o26_x16, .int o26_x17, .int o26_x18, .int o26_x19, .int o26_x20, .ref (ρ h0 21), .int o26_x22, .ref (ρ h0 23), .ref (ρ h0 24), .int o26_x25, .ref (ρ h0 26), .ref (ρ h0 27), .int o26_x28, .int o26_x29, .ref (ρ h0 30), .ref (ρ h0 31), .int o26_x32, .long o26_x33, .long o26_x34, .long o26_x35, .int o26_x36, .int o26_x37, .int o26_x38, .ref (ρ h0 39), .ref (ρ h0 40), .ref (ρ h0 41), .ref (ρ h0 42), .ref (ρ h0 43), .ref (ρ h0 44), .ref (ρ h0 45), .ref (ρ h0 46), .int o26_x47, .int o26_x48, .ref (ρ h0 49), .ref (ρ h0 50), .ref (ρ h0 51), .ref (ρ h0 52)])) hD (tp_in hG ht_h0 (by decide)) eq227 (fun f229 H locs hP hD hS g231 k230 => ?_))
              have hT := hT.up ht_h0 g231 k230 ⟨_, _, _, _, _, _, _, _, _, _, _, _, _, _, _, _, _, _, _, _, _, _, _, _, _, _, _, _, rfl, ro26_0, ro26_1, (by omega), (by omega), (by decide), ro26_5, ro26_6, ro26_7, ro26_8, ro26_9, ro26_10, ro26_11, ro26_12, ro26_13⟩
              have hR := hR.up ht_h0 (by decide) k230
              refine lv_goto (tgt := 149) hx hb dX12_next_240 (by decide) ?_
              have hf_232 : f224 (ρ h0 8) = .inl (κ 0, 400, .inl g28) := (k225 _ (tp_ne y6 ht_h0 (by decide))).trans hk181k
              have hf_233 : f229 (ρ h0 8) = .inl (κ 0, 400, .inl g28) := (k230 _ (tp_ne y6 ht_h0 (by decide))).trans hf_232
              exact ih185 _ _ _ _ (by rw [hn186]; omega) ⟨f229, z228, (-1), rfl, hT, hR, hf_233, g231, (by have : ((-1) : Int64).toInt = (-1) := rfl; omega), (by have : ((-1) : Int64).toInt = (-1) := rfl; omega), (by have : ((-1) : Int64).toInt = (-1) := rfl; omega), (by have : ((-1) : Int64).toInt = (-1) := rfl; omega), (by have : ((-1) : Int64).toInt = (-1) := rfl; omega), hP, hD, hS, lv_sub hl [0] rfl⟩
            · have ic223 : z222.toInt < 10 := zi_gef rfl rfl c223
              refine lv_aload_n hx hb dX12_next_198 rfl (lv_at hl 0 rfl) ?_
              refine va_get (D := (dC, dI)) (ci := 12) (v := .long w175) (C := RX12) (T := TX12) (N := 53) hx hb hts hfX12 hown hK hP q187 eq187 rfl 13 (by decide) (hts (.fieldLink RX12 270 "ColdShipsModel" "worth" "J") wa_1006) (fun _ h9 => h9) rfl dX12_next_199 ?_
              refine lv_ldc2 (own := RX12) (v := 32) hx hb hown (hts (.constantLong RX12 283 (32)) wa_1007) dX12_next_202 ?_
              refine lv_lmul hx hb dX12_next_205 ?_
              refine lv_topl (fun z234 ez234 => ?_)
              refine lv_aload_n hx hb dX12_next_206 rfl (lv_at hl 0 rfl) ?_
              refine va_get (D := (dC, dI)) (ci := 12) (v := .ref (ρ h0 8)) (C := RX12) (T := TX12) (N := 53) hx hb hts hfX12 hown hK hP q187 eq187 rfl 8 (by decide) (hts (.fieldLink RX12 27 "ColdShipsModel" "tape" "[I") wa_154) (fun _ h9 => h9) rfl dX12_next_207 ?_
              refine lv_aload_n hx hb dX12_next_210 rfl (lv_at hl 0 rfl) ?_
              refine va_get (D := (dC, dI)) (ci := 12) (v := .int w174) (C := RX12) (T := TX12) (N := 53) hx hb hts hfX12 hown hK hP q187 eq187 rfl 11 (by decide) (hts (.fieldLink RX12 258 "ColdShipsModel" "to" "I") wa_1000) (fun _ h9 => h9) rfl dX12_next_211 ?_
              refine va_iald hx hb hK hP q202 0 eq202 rfl (vp_in_iff.mpr ⟨by omega, by omega⟩) dX12_next_214 ?_
              refine lv_topi (fun z235 ez235 => ?_)
              have jz235 : z235.toInt = mo_R g28 w174.toInt := mo_rd ez235 (by omega)
              have hz235q := fun (q9 : w174.toInt = w33.toInt) => congrArg (mo_R g28) q9
              refine lv_i2l hx hb dX12_next_215 rfl ?_
              refine lv_ladd hx hb dX12_next_216 ?_
              refine lv_topl (fun z236 ez236 => ?_)
              refine lv_ldc2 (own := RX12) (v := 96) hx hb hown (hts (.constantLong RX12 285 (96)) wa_1008) dX12_next_217 ?_
              refine lv_lsub hx hb dX12_next_220 ?_
              refine lv_topl (fun z237 ez237 => ?_)
              have hw1 : w174.toInt = w33.toInt → z237.toInt ≤ 26 := fun q9 => by have q8 := zl_w0 ez234 ez236 ez237 (by omega) (Int32.toInt_toInt64 z235) (by omega) (by omega); omega
              refine lv_goto (tgt := 227) hx hb dX12_next_221 (by decide) ?_
              refine va_put (D := (dC, dI)) (ci := 12) (v := .long z237) (ty := .long) (C := RX12) (T := TX12) (N := 53) hx hb hts hfX12 tyX12 tyX12_ok nmX12 hown hK hP hD hS q187 eq187 rfl 13 (by decide) (hts (.fieldLink RX12 270 "ColdShipsModel" "worth" "J") wa_1006) (fun _ h9 => h9) rfl (tyX12_ok 13 (by decide)) rfl rfl (Nat.le_of_ble_eq_true rfl) dX12_next_227 (tp_k (.inr (12, [.int o26_x0, .int o26_x1, .ref (ρ h0 2), .ref (ρ h0 3), .ref (ρ h0 4), .ref (ρ h0 5), .ref (ρ h0 6), .int o26_x7, .ref (ρ h0 8), .int o26_x9, .int w33, .int w174, .int 1, .long z237, .int o26_x14, .int o26_x15, .int o26_x16, .int o26_x17, .int o26_x18, .int o26_x19, .int o26_x20, .ref (ρ h0 21), .int o26_x22, .ref (ρ h0 23), .ref (ρ h0 24), .int o26_x25, .ref (ρ h0 26), .ref (ρ h0 27), .int o26_x28, .int o26_x29, .ref (ρ h0 30), .ref (ρ h0 31), .int o26_x32, .long o26_x33, .long o26_x34, .long o26_x35, .int o26_x36, .int o26_x37, .int o26_x38, .ref (ρ h0 39), .ref (ρ h0 40), .ref (ρ h0 41), .ref (ρ h0 42), .ref (ρ h0 43), .ref (ρ h0 44), .ref (ρ h0 45), .ref (ρ h0 46), .int o26_x47, .int o26_x48, .ref (ρ h0 49), .ref (ρ h0 50), .ref (ρ h0 51), .ref (ρ h0 52)])) hD (tp_in hG ht_h0 (by decide)) eq187 (fun f238 H locs hP hD hS g240 k239 => ?_))
              have hT := hT.up ht_h0 g240 k239 ⟨_, _, _, _, _, _, _, _, _, _, _, _, _, _, _, _, _, _, _, _, _, _, _, _, _, _, _, _, rfl, ro26_0, ro26_1, (by omega), (by omega), (by decide), ro26_5, ro26_6, ro26_7, ro26_8, ro26_9, ro26_10, ro26_11, ro26_12, ro26_13⟩
              have hR := hR.up ht_h0 (by decide) k239
              refine lv_aload_n hx hb dX12_next_230 rfl (lv_at hl 0 rfl) ?_
              refine lv_dup hx hb dX12_next_231 rfl ?_
              obtain ⟨q241, eq241⟩ := tp_pos (tp_in hG ht_h0 (by decide)) g240
              refine va_get (D := (dC, dI)) (ci := 12) (v := .int w174) (C := RX12) (T := TX12) (N := 53) hx hb hts hfX12 hown hK hP q241 eq241 rfl 11 (by decide) (hts (.fieldLink RX12 258 "ColdShipsModel" "to" "I") wa_1000) (fun _ h9 => h9) rfl dX12_next_232 ?_
              refine lv_iconst (v := 1) hx hb dX12_next_235 (by decide) ?_
              refine lv_iadd hx hb dX12_next_236 ?_
              refine lv_topi (fun z242 ez242 => ?_)
              have iz242 : z242.toInt = w174.toInt + 1 := zi_add ez242 rfl rfl (by omega) (by omega)
              refine va_put (D := (dC, dI)) (ci := 12) (v := .int z242) (ty := .int) (C := RX12) (T := TX12) (N := 53) hx hb hts hfX12 tyX12 tyX12_ok nmX12 hown hK hP hD hS q241 eq241 rfl 11 (by decide) (hts (.fieldLink RX12 258 "ColdShipsModel" "to" "I") wa_1000) (fun _ h9 => h9) rfl (tyX12_ok 11 (by decide)) rfl rfl (Nat.le_of_ble_eq_true rfl) dX12_next_237 (tp_k (.inr (12, [.int o26_x0, .int o26_x1, .ref (ρ h0 2), .ref (ρ h0 3), .ref (ρ h0 4), .ref (ρ h0 5), .ref (ρ h0 6), .int o26_x7, .ref (ρ h0 8), .int o26_x9, .int w33, .int z242, .int 1, .long z237, .int o26_x14, .int o26_x15, .int o26_x16, .int o26_x17, .int o26_x18, .int o26_x19, .int o26_x20, .ref (ρ h0 21), .int o26_x22, .ref (ρ h0 23), .ref (ρ h0 24), .int o26_x25, .ref (ρ h0 26), .ref (ρ h0 27), .int o26_x28, .int o26_x29, .ref (ρ h0 30), .ref (ρ h0 31), .int o26_x32, .long o26_x33, .long o26_x34, .long o26_x35, .int o26_x36, .int o26_x37, .int o26_x38, .ref (ρ h0 39), .ref (ρ h0 40), .ref (ρ h0 41), .ref (ρ h0 42), .ref (ρ h0 43), .ref (ρ h0 44), .ref (ρ h0 45), .ref (ρ h0 46), .int o26_x47, .int o26_x48, .ref (ρ h0 49), .ref (ρ h0 50), .ref (ρ h0 51), .ref (ρ h0 52)])) hD (tp_in hG ht_h0 (by decide)) eq241 (fun f243 H locs hP hD hS g245 k244 => ?_))
              have hT := hT.up ht_h0 g245 k244 ⟨_, _, _, _, _, _, _, _, _, _, _, _, _, _, _, _, _, _, _, _, _, _, _, _, _, _, _, _, rfl, ro26_0, ro26_1, (by omega), (by omega), (by decide), ro26_5, ro26_6, ro26_7, ro26_8, ro26_9, ro26_10, ro26_11, ro26_12, ro26_13⟩
              have hR := hR.up ht_h0 (by decide) k244
              refine lv_goto (tgt := 149) hx hb dX12_next_240 (by decide) ?_
              have hf_246 : f238 (ρ h0 8) = .inl (κ 0, 400, .inl g28) := (k239 _ (tp_ne y6 ht_h0 (by decide))).trans hk181k
              have hf_247 : f243 (ρ h0 8) = .inl (κ 0, 400, .inl g28) := (k244 _ (tp_ne y6 ht_h0 (by decide))).trans hf_246
              exact ih185 _ _ _ _ (by rw [hn186]; omega) ⟨f243, z242, z237, rfl, hT, hR, hf_247, g245, (by omega), (by omega), (by omega), (by omega), (by omega), hP, hD, hS, lv_sub hl [0] rfl⟩
    · have ic53 : w33.toInt = o26_x9.toInt := zi_nef rfl rfl c53
      refine lv_iconst (v := 0) hx hb dX12_next_71 (by decide) ?_
      refine lv_goto (tgt := 114) hx hb dX12_next_72 (by decide) ?_
      refine va_put (D := (dC, dI)) (ci := 12) (v := .int 0) (ty := .int) (C := RX12) (T := TX12) (N := 53) hx hb hts hfX12 tyX12 tyX12_ok nmX12 hown hK hP hD hS q52 eq52 rfl 12 (by decide) (hts (.fieldLink RX12 280 "ColdShipsModel" "sort" "I") wa_995) (fun _ h9 => h9) rfl (tyX12_ok 12 (by decide)) rfl rfl (Nat.le_of_ble_eq_true rfl) dX12_next_114 (tp_k (.inr (12, [.int o26_x0, .int o26_x1, .ref (ρ h0 2), .ref (ρ h0 3), .ref (ρ h0 4), .ref (ρ h0 5), .ref (ρ h0 6), .int o26_x7, .ref (ρ h0 8), .int o26_x9, .int w33, .int w33, .int 0, .long 0, .int o26_x14, .int o26_x15, .int o26_x16, .int o26_x17, .int o26_x18, .int o26_x19, .int o26_x20, .ref (ρ h0 21), .int o26_x22, .ref (ρ h0 23), .ref (ρ h0 24), .int o26_x25, .ref (ρ h0 26), .ref (ρ h0 27), .int o26_x28, .int o26_x29, .ref (ρ h0 30), .ref (ρ h0 31), .int o26_x32, .long o26_x33, .long o26_x34, .long o26_x35, .int o26_x36, .int o26_x37, .int o26_x38, .ref (ρ h0 39), .ref (ρ h0 40), .ref (ρ h0 41), .ref (ρ h0 42), .ref (ρ h0 43), .ref (ρ h0 44), .ref (ρ h0 45), .ref (ρ h0 46), .int o26_x47, .int o26_x48, .ref (ρ h0 49), .ref (ρ h0 50), .ref (ρ h0 51), .ref (ρ h0 52)])) hD (tp_in hG ht_h0 (by decide)) eq52 (fun f248 H locs hP hD hS g250 k249 => ?_))
      have hT := hT.up ht_h0 g250 k249 ⟨_, _, _, _, _, _, _, _, _, _, _, _, _, _, _, _, _, _, _, _, _, _, _, _, _, _, _, _, rfl, ro26_0, ro26_1, (by omega), (by omega), (by decide), ro26_5, ro26_6, ro26_7, ro26_8, ro26_9, ro26_10, ro26_11, ro26_12, ro26_13⟩
      have hR := hR.up ht_h0 (by decide) k249
      refine lv_aload_n hx hb dX12_next_117 rfl (lv_at hl 0 rfl) ?_
      obtain ⟨q251, eq251⟩ := tp_pos (tp_in hG ht_h0 (by decide)) g250
      refine va_get (D := (dC, dI)) (ci := 12) (v := .int 0) (C := RX12) (T := TX12) (N := 53) hx hb hts hfX12 hown hK hP q251 eq251 rfl 12 (by decide) (hts (.fieldLink RX12 280 "ColdShipsModel" "sort" "I") wa_995) (fun _ h9 => h9) rfl dX12_next_118 ?_
      refine lv_iconst (v := 3) hx hb dX12_next_121 (by decide) ?_
      refine lv_icmp_ne (tgt := 149) hx hb dX12_next_122 (by decide) (fun _ => ?_) (fun c9 => absurd c9 (by decide))
      have hf_256 : f45 (ρ h0 8) = .inl (κ 0, 400, .inl g28) := (k46 _ (tp_ne y6 ht_h0 (by decide))).trans hk37k
      have hf_257 : f49 (ρ h0 8) = .inl (κ 0, 400, .inl g28) := (k50 _ (tp_ne y6 ht_h0 (by decide))).trans hf_256
      have hf_258 : f248 (ρ h0 8) = .inl (κ 0, 400, .inl g28) := (k249 _ (tp_ne y6 ht_h0 (by decide))).trans hf_257
      refine pz_loop (fun n0 H locs ls => ∃ f261 : Nat → va_E, ∃ w252 : Int32, ∃ w253 : Int64, n0 = (400 - (w252.toInt)).toNat ∧ tp_T (mo_O κ) κ τ ν ρ f261 ∧ tp_F τ [13] f f261 ∧ f261 (ρ h0 8) = .inl (κ 0, 400, .inl g28) ∧ f261 h0 = .inr (12, [.int o26_x0, .int o26_x1, .ref (ρ h0 2), .ref (ρ h0 3), .ref (ρ h0 4), .ref (ρ h0 5), .ref (ρ h0 6), .int o26_x7, .ref (ρ h0 8), .int o26_x9, .int w33, .int w252, .int 0, .long w253, .int o26_x14, .int o26_x15, .int o26_x16, .int o26_x17, .int o26_x18, .int o26_x19, .int o26_x20, .ref (ρ h0 21), .int o26_x22, .ref (ρ h0 23), .ref (ρ h0 24), .int o26_x25, .ref (ρ h0 26), .ref (ρ h0 27), .int o26_x28, .int o26_x29, .ref (ρ h0 30), .ref (ρ h0 31), .int o26_x32, .long o26_x33, .long o26_x34, .long o26_x35, .int o26_x36, .int o26_x37, .int o26_x38, .ref (ρ h0 39), .ref (ρ h0 40), .ref (ρ h0 41), .ref (ρ h0 42), .ref (ρ h0 43), .ref (ρ h0 44), .ref (ρ h0 45), .ref (ρ h0 46), .int o26_x47, .int o26_x48, .ref (ρ h0 49), .ref (ρ h0 50), .ref (ρ h0 51), .ref (ρ h0 52)]) ∧ (0 ≤ w252.toInt ∧ w252.toInt ≤ 400) ∧ (w33.toInt ≤ (w252.toInt)) ∧ ((w252.toInt) ≤ o26_x9.toInt) ∧ va_P (dC, dI) vwCl (va_pl L f261) H ∧ va_D A (va_pl L f261) ∧ va_S A s.heap H locs ∧ lv_has ls 1 [(0, .ref h0)]) ?_ _ _ _ _ ⟨f248, w33, 0, rfl, hT, hR, hf_258, g250, (by have : (0 : Int64).toInt = 0 := rfl; omega), (by have : (0 : Int64).toInt = 0 := rfl; omega), (by have : (0 : Int64).toInt = 0 := rfl; omega), hP, hD, hS, lv_sub hl [0] rfl⟩
      intro n0 H locs ls hI ih263
      obtain ⟨f261, w252, w253, hn264, hT, hR, hk259k, hk260k, rw252, k254, k255, hP, hD, hS, hl⟩ := hI
      refine lv_aload_n hx hb dX12_next_149 rfl (lv_at hl 0 rfl) ?_
      obtain ⟨q265, eq265⟩ := tp_pos (tp_in hG ht_h0 (by decide)) hk260k
      refine va_get (D := (dC, dI)) (ci := 12) (v := .int 0) (C := RX12) (T := TX12) (N := 53) hx hb hts hfX12 hown hK hP q265 eq265 rfl 12 (by decide) (hts (.fieldLink RX12 280 "ColdShipsModel" "sort" "I") wa_995) (fun _ h9 => h9) rfl dX12_next_150 ?_
      refine lv_iconst (v := 1) hx hb dX12_next_153 (by decide) ?_
      refine lv_icmp_ne (tgt := 243) hx hb dX12_next_154 (by decide) (fun _ => ?_) (fun c9 => absurd c9 (by decide))
      refine pz_loop (fun n0 H locs ls => ∃ f272 : Nat → va_E, ∃ w266 : Int32, ∃ w267 : Int64, n0 = (400 - (w266.toInt)).toNat ∧ tp_T (mo_O κ) κ τ ν ρ f272 ∧ tp_F τ [13] f f272 ∧ f272 (ρ h0 8) = .inl (κ 0, 400, .inl g28) ∧ f272 h0 = .inr (12, [.int o26_x0, .int o26_x1, .ref (ρ h0 2), .ref (ρ h0 3), .ref (ρ h0 4), .ref (ρ h0 5), .ref (ρ h0 6), .int o26_x7, .ref (ρ h0 8), .int o26_x9, .int w33, .int w266, .int 0, .long w267, .int o26_x14, .int o26_x15, .int o26_x16, .int o26_x17, .int o26_x18, .int o26_x19, .int o26_x20, .ref (ρ h0 21), .int o26_x22, .ref (ρ h0 23), .ref (ρ h0 24), .int o26_x25, .ref (ρ h0 26), .ref (ρ h0 27), .int o26_x28, .int o26_x29, .ref (ρ h0 30), .ref (ρ h0 31), .int o26_x32, .long o26_x33, .long o26_x34, .long o26_x35, .int o26_x36, .int o26_x37, .int o26_x38, .ref (ρ h0 39), .ref (ρ h0 40), .ref (ρ h0 41), .ref (ρ h0 42), .ref (ρ h0 43), .ref (ρ h0 44), .ref (ρ h0 45), .ref (ρ h0 46), .int o26_x47, .int o26_x48, .ref (ρ h0 49), .ref (ρ h0 50), .ref (ρ h0 51), .ref (ρ h0 52)]) ∧ (0 ≤ w266.toInt ∧ w266.toInt ≤ 400) ∧ (w33.toInt ≤ (w266.toInt)) ∧ ((w266.toInt) ≤ o26_x9.toInt) ∧ va_P (dC, dI) vwCl (va_pl L f272) H ∧ va_D A (va_pl L f272) ∧ va_S A s.heap H locs ∧ lv_has ls 1 [(0, .ref h0)]) ?_ _ _ _ _ ⟨f261, w252, w253, rfl, hT, hR, hk259k, hk260k, (by omega), (by omega), (by omega), hP, hD, hS, lv_sub hl [0] rfl⟩
      intro n0 H locs ls hI ih274
      obtain ⟨f272, w266, w267, hn275, hT, hR, hk270k, hk271k, rw266, k268, k269, hP, hD, hS, hl⟩ := hI
      refine lv_aload_n hx hb dX12_next_243 rfl (lv_at hl 0 rfl) ?_
      obtain ⟨q276, eq276⟩ := tp_pos (tp_in hG ht_h0 (by decide)) hk271k
      refine va_get (D := (dC, dI)) (ci := 12) (v := .int 0) (C := RX12) (T := TX12) (N := 53) hx hb hts hfX12 hown hK hP q276 eq276 rfl 12 (by decide) (hts (.fieldLink RX12 280 "ColdShipsModel" "sort" "I") wa_995) (fun _ h9 => h9) rfl dX12_next_244 ?_
      refine lv_iconst (v := 2) hx hb dX12_next_247 (by decide) ?_
      refine lv_icmp_ne (tgt := 335) hx hb dX12_next_248 (by decide) (fun _ => ?_) (fun c9 => absurd c9 (by decide))
      exact W.vret hx hb hr (fun t ht hW => ⟨⟨f272, rfl, ⟨hT, hR, (by simp only [hk271k, hf_o26, mo_i1, mo_l1]; exact (show (w33.toInt ≤ w266.toInt ∧ w266.toInt ≤ o26_x9.toInt ∧ (0 = 0 ∨ w33.toInt < w266.toInt) ∧ (0 = 1 → w266.toInt = w33.toInt + 1 → w267.toInt ≤ 26)) ∧ o26_x11.toInt ≤ w33.toInt ∧ o26_x9.toInt = o26_x9.toInt ∧ o26_x15.toInt = o26_x15.toInt ∧ o26_x19.toInt = o26_x19.toInt ∧ o26_x20.toInt = o26_x20.toInt ∧ o26_x22.toInt = o26_x22.toInt ∧ o26_x28.toInt = o26_x28.toInt from by first | omega | decide))⟩, by rw [ht]; exact hP, va_K.moved hW.alike hK, hD⟩, hS.F ht⟩) hS.2.2 dX12_next_335
  · have ic44 : w33.toInt < o26_x9.toInt := zi_gef rfl rfl c44
    refine lv_aload_n hx hb dX12_next_19 rfl (lv_at hl 0 rfl) ?_
    refine va_get (D := (dC, dI)) (ci := 12) (v := .ref (ρ h0 8)) (C := RX12) (T := TX12) (N := 53) hx hb hts hfX12 hown hK hP q43 eq43 rfl 8 (by decide) (hts (.fieldLink RX12 27 "ColdShipsModel" "tape" "[I") wa_154) (fun _ h9 => h9) rfl dX12_next_20 ?_
    refine lv_aload_n hx hb dX12_next_23 rfl (lv_at hl 0 rfl) ?_
    refine va_get (D := (dC, dI)) (ci := 12) (v := .int w33) (C := RX12) (T := TX12) (N := 53) hx hb hts hfX12 hown hK hP q43 eq43 rfl 10 (by decide) (hts (.fieldLink RX12 267 "ColdShipsModel" "from" "I") wa_1005) (fun _ h9 => h9) rfl dX12_next_24 ?_
    obtain ⟨q277, eq277⟩ := tp_pos (tp_in hG y6 (by decide)) hk37k
    refine va_iald hx hb hK hP q277 0 eq277 rfl (vp_in_iff.mpr ⟨by omega, by omega⟩) dX12_next_27 ?_
    refine lv_topi (fun z278 ez278 => ?_)
    have jz278 : z278.toInt = mo_R g28 w33.toInt := mo_rd ez278 (by omega)
    refine lv_bipush (v := 32) hx hb dX12_next_28 (by decide) ?_
    refine lv_icmp_ne (tgt := 46) hx hb dX12_next_30 (by decide) (fun c279 => ?_) (fun c279 => ?_)
    · have ic279 : z278.toInt ≠ 32 := zi_ne rfl rfl c279
      refine lv_aload_n hx hb dX12_next_46 rfl (lv_at hl 0 rfl) ?_
      refine lv_aload_n hx hb dX12_next_47 rfl (lv_at hl 0 rfl) ?_
      refine va_get (D := (dC, dI)) (ci := 12) (v := .int w33) (C := RX12) (T := TX12) (N := 53) hx hb hts hfX12 hown hK hP q43 eq43 rfl 10 (by decide) (hts (.fieldLink RX12 267 "ColdShipsModel" "from" "I") wa_1005) (fun _ h9 => h9) rfl dX12_next_48 ?_
      refine va_put (D := (dC, dI)) (ci := 12) (v := .int w33) (ty := .int) (C := RX12) (T := TX12) (N := 53) hx hb hts hfX12 tyX12 tyX12_ok nmX12 hown hK hP hD hS q43 eq43 rfl 11 (by decide) (hts (.fieldLink RX12 258 "ColdShipsModel" "to" "I") wa_1000) (fun _ h9 => h9) rfl (tyX12_ok 11 (by decide)) rfl rfl (Nat.le_of_ble_eq_true rfl) dX12_next_51 (tp_k (.inr (12, [.int o26_x0, .int o26_x1, .ref (ρ h0 2), .ref (ρ h0 3), .ref (ρ h0 4), .ref (ρ h0 5), .ref (ρ h0 6), .int o26_x7, .ref (ρ h0 8), .int o26_x9, .int w33, .int w33, .int o26_x12, .long o26_x13, .int o26_x14, .int o26_x15, .int o26_x16, .int o26_x17, .int o26_x18, .int o26_x19, .int o26_x20, .ref (ρ h0 21), .int o26_x22, .ref (ρ h0 23), .ref (ρ h0 24), .int o26_x25, .ref (ρ h0 26), .ref (ρ h0 27), .int o26_x28, .int o26_x29, .ref (ρ h0 30), .ref (ρ h0 31), .int o26_x32, .long o26_x33, .long o26_x34, .long o26_x35, .int o26_x36, .int o26_x37, .int o26_x38, .ref (ρ h0 39), .ref (ρ h0 40), .ref (ρ h0 41), .ref (ρ h0 42), .ref (ρ h0 43), .ref (ρ h0 44), .ref (ρ h0 45), .ref (ρ h0 46), .int o26_x47, .int o26_x48, .ref (ρ h0 49), .ref (ρ h0 50), .ref (ρ h0 51), .ref (ρ h0 52)])) hD (tp_in hG ht_h0 (by decide)) eq43 (fun f280 H locs hP hD hS g282 k281 => ?_))
      have hT := hT.up ht_h0 g282 k281 ⟨_, _, _, _, _, _, _, _, _, _, _, _, _, _, _, _, _, _, _, _, _, _, _, _, _, _, _, _, rfl, ro26_0, ro26_1, (by omega), (by omega), ro26_4, ro26_5, ro26_6, ro26_7, ro26_8, ro26_9, ro26_10, ro26_11, ro26_12, ro26_13⟩
      have hR := hR.up ht_h0 (by decide) k281
      refine lv_aload_n hx hb dX12_next_54 rfl (lv_at hl 0 rfl) ?_
      refine lv_lconst (v := 0) hx hb dX12_next_55 (by decide) ?_
      obtain ⟨q283, eq283⟩ := tp_pos (tp_in hG ht_h0 (by decide)) g282
      refine va_put (D := (dC, dI)) (ci := 12) (v := .long 0) (ty := .long) (C := RX12) (T := TX12) (N := 53) hx hb hts hfX12 tyX12 tyX12_ok nmX12 hown hK hP hD hS q283 eq283 rfl 13 (by decide) (hts (.fieldLink RX12 270 "ColdShipsModel" "worth" "J") wa_1006) (fun _ h9 => h9) rfl (tyX12_ok 13 (by decide)) rfl rfl (Nat.le_of_ble_eq_true rfl) dX12_next_56 (tp_k (.inr (12, [.int o26_x0, .int o26_x1, .ref (ρ h0 2), .ref (ρ h0 3), .ref (ρ h0 4), .ref (ρ h0 5), .ref (ρ h0 6), .int o26_x7, .ref (ρ h0 8), .int o26_x9, .int w33, .int w33, .int o26_x12, .long 0, .int o26_x14, .int o26_x15, .int o26_x16, .int o26_x17, .int o26_x18, .int o26_x19, .int o26_x20, .ref (ρ h0 21), .int o26_x22, .ref (ρ h0 23), .ref (ρ h0 24), .int o26_x25, .ref (ρ h0 26), .ref (ρ h0 27), .int o26_x28, .int o26_x29, .ref (ρ h0 30), .ref (ρ h0 31), .int o26_x32, .long o26_x33, .long o26_x34, .long o26_x35, .int o26_x36, .int o26_x37, .int o26_x38, .ref (ρ h0 39), .ref (ρ h0 40), .ref (ρ h0 41), .ref (ρ h0 42), .ref (ρ h0 43), .ref (ρ h0 44), .ref (ρ h0 45), .ref (ρ h0 46), .int o26_x47, .int o26_x48, .ref (ρ h0 49), .ref (ρ h0 50), .ref (ρ h0 51), .ref (ρ h0 52)])) hD (tp_in hG ht_h0 (by decide)) eq283 (fun f284 H locs hP hD hS g286 k285 => ?_))
      have hT := hT.up ht_h0 g286 k285 ⟨_, _, _, _, _, _, _, _, _, _, _, _, _, _, _, _, _, _, _, _, _, _, _, _, _, _, _, _, rfl, ro26_0, ro26_1, (by omega), (by omega), ro26_4, ro26_5, ro26_6, ro26_7, ro26_8, ro26_9, ro26_10, ro26_11, ro26_12, ro26_13⟩
      have hR := hR.up ht_h0 (by decide) k285
      refine lv_aload_n hx hb dX12_next_59 rfl (lv_at hl 0 rfl) ?_
      refine lv_aload_n hx hb dX12_next_60 rfl (lv_at hl 0 rfl) ?_
      obtain ⟨q287, eq287⟩ := tp_pos (tp_in hG ht_h0 (by decide)) g286
      refine va_get (D := (dC, dI)) (ci := 12) (v := .int w33) (C := RX12) (T := TX12) (N := 53) hx hb hts hfX12 hown hK hP q287 eq287 rfl 10 (by decide) (hts (.fieldLink RX12 267 "ColdShipsModel" "from" "I") wa_1005) (fun _ h9 => h9) rfl dX12_next_61 ?_
      refine lv_aload_n hx hb dX12_next_64 rfl (lv_at hl 0 rfl) ?_
      refine va_get (D := (dC, dI)) (ci := 12) (v := .int o26_x9) (C := RX12) (T := TX12) (N := 53) hx hb hts hfX12 hown hK hP q287 eq287 rfl 9 (by decide) (hts (.fieldLink RX12 252 "ColdShipsModel" "taped" "I") wa_774) (fun _ h9 => h9) rfl dX12_next_65 ?_
      refine lv_icmp_ne (tgt := 75) hx hb dX12_next_68 (by decide) (fun c288 => ?_) (fun c288 => ?_)
      · have ic288 : w33.toInt ≠ o26_x9.toInt := zi_ne rfl rfl c288
        refine lv_aload_n hx hb dX12_next_75 rfl (lv_at hl 0 rfl) ?_
        refine va_get (D := (dC, dI)) (ci := 12) (v := .ref (ρ h0 8)) (C := RX12) (T := TX12) (N := 53) hx hb hts hfX12 hown hK hP q287 eq287 rfl 8 (by decide) (hts (.fieldLink RX12 27 "ColdShipsModel" "tape" "[I") wa_154) (fun _ h9 => h9) rfl dX12_next_76 ?_
        refine lv_aload_n hx hb dX12_next_79 rfl (lv_at hl 0 rfl) ?_
        refine va_get (D := (dC, dI)) (ci := 12) (v := .int w33) (C := RX12) (T := TX12) (N := 53) hx hb hts hfX12 hown hK hP q287 eq287 rfl 10 (by decide) (hts (.fieldLink RX12 267 "ColdShipsModel" "from" "I") wa_1005) (fun _ h9 => h9) rfl dX12_next_80 ?_
        have hf_289 : f280 (ρ h0 8) = .inl (κ 0, 400, .inl g28) := (k281 _ (tp_ne y6 ht_h0 (by decide))).trans hk37k
        have hf_290 : f284 (ρ h0 8) = .inl (κ 0, 400, .inl g28) := (k285 _ (tp_ne y6 ht_h0 (by decide))).trans hf_289
        obtain ⟨q291, eq291⟩ := tp_pos (tp_in hG y6 (by decide)) hf_290
        refine va_iald hx hb hK hP q291 0 eq291 rfl (vp_in_iff.mpr ⟨by omega, by omega⟩) dX12_next_83 ?_
        refine lv_topi (fun z292 ez292 => ?_)
        have jz292 : z292.toInt = mo_R g28 w33.toInt := mo_rd ez292 (by omega)
        refine pz_calli (va_runS (As := [.int z292]) (rest := [.ref h0]) ⟨hx, hb, hml, hown, hts⟩ (t_X12_isSmall l dC dI _ z292 (z292.toInt) rfl) (va_cwS 1 hts gX12_next_X12_isSmall rfl rfl rfl pd_X12_isSmall ⟨Nat.le_of_ble_eq_true rfl, Nat.le_of_ble_eq_true rfl⟩) ⟨pz_blind, pz_pre pz_P0 (hK.sub (tys' := []) [] rfl) (pz_D0 (A := fun _ => True)) hN⟩ rfl rfl hl.1 rfl (lv_room (Nat.le_of_ble_eq_true rfl)) dX12_next_84 ⟨Nat.le_of_ble_eq_true rfl, Nat.le_of_ble_eq_true rfl⟩) (fun r293 hw294 => ?_)
        obtain ⟨hw294r, hw294p⟩ := hw294
        refine lv_if_eq (tgt := 94) hx hb dX12_next_87 (by decide) (fun c295 => ?_) (fun c295 => ?_)
        · have ic295 : r293.toInt = 0 := zi_eq rfl rfl c295
          have p296 : ¬ (97 ≤ (z292.toInt) ∧ (z292.toInt) ≤ 122) := (tp_cond.no hw294p) (by omega)
          refine lv_aload_n hx hb dX12_next_94 rfl (lv_at hl 0 rfl) ?_
          refine va_get (D := (dC, dI)) (ci := 12) (v := .ref (ρ h0 8)) (C := RX12) (T := TX12) (N := 53) hx hb hts hfX12 hown hK hP q287 eq287 rfl 8 (by decide) (hts (.fieldLink RX12 27 "ColdShipsModel" "tape" "[I") wa_154) (fun _ h9 => h9) rfl dX12_next_95 ?_
          refine lv_aload_n hx hb dX12_next_98 rfl (lv_at hl 0 rfl) ?_
          refine va_get (D := (dC, dI)) (ci := 12) (v := .int w33) (C := RX12) (T := TX12) (N := 53) hx hb hts hfX12 hown hK hP q287 eq287 rfl 10 (by decide) (hts (.fieldLink RX12 267 "ColdShipsModel" "from" "I") wa_1005) (fun _ h9 => h9) rfl dX12_next_99 ?_
          refine va_iald hx hb hK hP q291 0 eq291 rfl (vp_in_iff.mpr ⟨by omega, by omega⟩) dX12_next_102 ?_
          refine lv_topi (fun z297 ez297 => ?_)
          have jz297 : z297.toInt = mo_R g28 w33.toInt := mo_rd ez297 (by omega)
          refine pz_calli (va_runS (As := [.int z297]) (rest := [.ref h0]) ⟨hx, hb, hml, hown, hts⟩ (t_X12_isDigit l dC dI _ z297 (z297.toInt) rfl) (va_cwS 1 hts gX12_next_X12_isDigit rfl rfl rfl pd_X12_isDigit ⟨Nat.le_of_ble_eq_true rfl, Nat.le_of_ble_eq_true rfl⟩) ⟨pz_blind, pz_pre pz_P0 (hK.sub (tys' := []) [] rfl) (pz_D0 (A := fun _ => True)) hN⟩ rfl rfl hl.1 rfl (lv_room (Nat.le_of_ble_eq_true rfl)) dX12_next_103 ⟨Nat.le_of_ble_eq_true rfl, Nat.le_of_ble_eq_true rfl⟩) (fun r298 hw299 => ?_)
          obtain ⟨hw299r, hw299p⟩ := hw299
          refine lv_if_eq (tgt := 113) hx hb dX12_next_106 (by decide) (fun c300 => ?_) (fun c300 => ?_)
          · have ic300 : r298.toInt = 0 := zi_eq rfl rfl c300
            have p301 : ¬ (48 ≤ (z297.toInt) ∧ (z297.toInt) ≤ 57) := (tp_cond.no hw299p) (by omega)
            refine lv_iconst (v := 3) hx hb dX12_next_113 (by decide) ?_
            refine va_put (D := (dC, dI)) (ci := 12) (v := .int 3) (ty := .int) (C := RX12) (T := TX12) (N := 53) hx hb hts hfX12 tyX12 tyX12_ok nmX12 hown hK hP hD hS q287 eq287 rfl 12 (by decide) (hts (.fieldLink RX12 280 "ColdShipsModel" "sort" "I") wa_995) (fun _ h9 => h9) rfl (tyX12_ok 12 (by decide)) rfl rfl (Nat.le_of_ble_eq_true rfl) dX12_next_114 (tp_k (.inr (12, [.int o26_x0, .int o26_x1, .ref (ρ h0 2), .ref (ρ h0 3), .ref (ρ h0 4), .ref (ρ h0 5), .ref (ρ h0 6), .int o26_x7, .ref (ρ h0 8), .int o26_x9, .int w33, .int w33, .int 3, .long 0, .int o26_x14, .int o26_x15, .int o26_x16, .int o26_x17, .int o26_x18, .int o26_x19, .int o26_x20, .ref (ρ h0 21), .int o26_x22, .ref (ρ h0 23), .ref (ρ h0 24), .int o26_x25, .ref (ρ h0 26), .ref (ρ h0 27), .int o26_x28, .int o26_x29, .ref (ρ h0 30), .ref (ρ h0 31), .int o26_x32, .long o26_x33, .long o26_x34, .long o26_x35, .int o26_x36, .int o26_x37, .int o26_x38, .ref (ρ h0 39), .ref (ρ h0 40), .ref (ρ h0 41), .ref (ρ h0 42), .ref (ρ h0 43), .ref (ρ h0 44), .ref (ρ h0 45), .ref (ρ h0 46), .int o26_x47, .int o26_x48, .ref (ρ h0 49), .ref (ρ h0 50), .ref (ρ h0 51), .ref (ρ h0 52)])) hD (tp_in hG ht_h0 (by decide)) eq287 (fun f302 H locs hP hD hS g304 k303 => ?_))
            have hT := hT.up ht_h0 g304 k303 ⟨_, _, _, _, _, _, _, _, _, _, _, _, _, _, _, _, _, _, _, _, _, _, _, _, _, _, _, _, rfl, ro26_0, ro26_1, (by omega), (by omega), (by decide), ro26_5, ro26_6, ro26_7, ro26_8, ro26_9, ro26_10, ro26_11, ro26_12, ro26_13⟩
            have hR := hR.up ht_h0 (by decide) k303
            refine lv_aload_n hx hb dX12_next_117 rfl (lv_at hl 0 rfl) ?_
            obtain ⟨q305, eq305⟩ := tp_pos (tp_in hG ht_h0 (by decide)) g304
            refine va_get (D := (dC, dI)) (ci := 12) (v := .int 3) (C := RX12) (T := TX12) (N := 53) hx hb hts hfX12 hown hK hP q305 eq305 rfl 12 (by decide) (hts (.fieldLink RX12 280 "ColdShipsModel" "sort" "I") wa_995) (fun _ h9 => h9) rfl dX12_next_118 ?_
            refine lv_iconst (v := 3) hx hb dX12_next_121 (by decide) ?_
            refine lv_icmp_ne (tgt := 149) hx hb dX12_next_122 (by decide) (fun c9 => absurd c9 (by decide)) (fun _ => ?_)
            refine lv_aload_n hx hb dX12_next_125 rfl (lv_at hl 0 rfl) ?_
            refine lv_aload_n hx hb dX12_next_126 rfl (lv_at hl 0 rfl) ?_
            refine va_get (D := (dC, dI)) (ci := 12) (v := .ref (ρ h0 8)) (C := RX12) (T := TX12) (N := 53) hx hb hts hfX12 hown hK hP q305 eq305 rfl 8 (by decide) (hts (.fieldLink RX12 27 "ColdShipsModel" "tape" "[I") wa_154) (fun _ h9 => h9) rfl dX12_next_127 ?_
            refine lv_aload_n hx hb dX12_next_130 rfl (lv_at hl 0 rfl) ?_
            refine va_get (D := (dC, dI)) (ci := 12) (v := .int w33) (C := RX12) (T := TX12) (N := 53) hx hb hts hfX12 hown hK hP q305 eq305 rfl 10 (by decide) (hts (.fieldLink RX12 267 "ColdShipsModel" "from" "I") wa_1005) (fun _ h9 => h9) rfl dX12_next_131 ?_
            have hf_306 : f302 (ρ h0 8) = .inl (κ 0, 400, .inl g28) := (k303 _ (tp_ne y6 ht_h0 (by decide))).trans hf_290
            obtain ⟨q307, eq307⟩ := tp_pos (tp_in hG y6 (by decide)) hf_306
            refine va_iald hx hb hK hP q307 0 eq307 rfl (vp_in_iff.mpr ⟨by omega, by omega⟩) dX12_next_134 ?_
            refine lv_topi (fun z308 ez308 => ?_)
            have jz308 : z308.toInt = mo_R g28 w33.toInt := mo_rd ez308 (by omega)
            refine lv_i2l hx hb dX12_next_135 rfl ?_
            refine va_put (D := (dC, dI)) (ci := 12) (v := .long z308.toInt64) (ty := .long) (C := RX12) (T := TX12) (N := 53) hx hb hts hfX12 tyX12 tyX12_ok nmX12 hown hK hP hD hS q305 eq305 rfl 13 (by decide) (hts (.fieldLink RX12 270 "ColdShipsModel" "worth" "J") wa_1006) (fun _ h9 => h9) rfl (tyX12_ok 13 (by decide)) rfl rfl (Nat.le_of_ble_eq_true rfl) dX12_next_136 (tp_k (.inr (12, [.int o26_x0, .int o26_x1, .ref (ρ h0 2), .ref (ρ h0 3), .ref (ρ h0 4), .ref (ρ h0 5), .ref (ρ h0 6), .int o26_x7, .ref (ρ h0 8), .int o26_x9, .int w33, .int w33, .int 3, .long z308.toInt64, .int o26_x14, .int o26_x15, .int o26_x16, .int o26_x17, .int o26_x18, .int o26_x19, .int o26_x20, .ref (ρ h0 21), .int o26_x22, .ref (ρ h0 23), .ref (ρ h0 24), .int o26_x25, .ref (ρ h0 26), .ref (ρ h0 27), .int o26_x28, .int o26_x29, .ref (ρ h0 30), .ref (ρ h0 31), .int o26_x32, .long o26_x33, .long o26_x34, .long o26_x35, .int o26_x36, .int o26_x37, .int o26_x38, .ref (ρ h0 39), .ref (ρ h0 40), .ref (ρ h0 41), .ref (ρ h0 42), .ref (ρ h0 43), .ref (ρ h0 44), .ref (ρ h0 45), .ref (ρ h0 46), .int o26_x47, .int o26_x48, .ref (ρ h0 49), .ref (ρ h0 50), .ref (ρ h0 51), .ref (ρ h0 52)])) hD (tp_in hG ht_h0 (by decide)) eq305 (fun f309 H locs hP hD hS g311 k310 => ?_))
            have hT := hT.up ht_h0 g311 k310 ⟨_, _, _, _, _, _, _, _, _, _, _, _, _, _, _, _, _, _, _, _, _, _, _, _, _, _, _, _, rfl, ro26_0, ro26_1, (by omega), (by omega), (by decide), ro26_5, ro26_6, ro26_7, ro26_8, ro26_9, ro26_10, ro26_11, ro26_12, ro26_13⟩
            have hR := hR.up ht_h0 (by decide) k310
            refine lv_aload_n hx hb dX12_next_139 rfl (lv_at hl 0 rfl) ?_
            refine lv_dup hx hb dX12_next_140 rfl ?_
            obtain ⟨q312, eq312⟩ := tp_pos (tp_in hG ht_h0 (by decide)) g311
            refine va_get (D := (dC, dI)) (ci := 12) (v := .int w33) (C := RX12) (T := TX12) (N := 53) hx hb hts hfX12 hown hK hP q312 eq312 rfl 11 (by decide) (hts (.fieldLink RX12 258 "ColdShipsModel" "to" "I") wa_1000) (fun _ h9 => h9) rfl dX12_next_141 ?_
            refine lv_iconst (v := 1) hx hb dX12_next_144 (by decide) ?_
            refine lv_iadd hx hb dX12_next_145 ?_
            refine lv_topi (fun z313 ez313 => ?_)
            have iz313 : z313.toInt = w33.toInt + 1 := zi_add ez313 rfl rfl (by omega) (by omega)
            refine va_put (D := (dC, dI)) (ci := 12) (v := .int z313) (ty := .int) (C := RX12) (T := TX12) (N := 53) hx hb hts hfX12 tyX12 tyX12_ok nmX12 hown hK hP hD hS q312 eq312 rfl 11 (by decide) (hts (.fieldLink RX12 258 "ColdShipsModel" "to" "I") wa_1000) (fun _ h9 => h9) rfl (tyX12_ok 11 (by decide)) rfl rfl (Nat.le_of_ble_eq_true rfl) dX12_next_146 (tp_k (.inr (12, [.int o26_x0, .int o26_x1, .ref (ρ h0 2), .ref (ρ h0 3), .ref (ρ h0 4), .ref (ρ h0 5), .ref (ρ h0 6), .int o26_x7, .ref (ρ h0 8), .int o26_x9, .int w33, .int z313, .int 3, .long z308.toInt64, .int o26_x14, .int o26_x15, .int o26_x16, .int o26_x17, .int o26_x18, .int o26_x19, .int o26_x20, .ref (ρ h0 21), .int o26_x22, .ref (ρ h0 23), .ref (ρ h0 24), .int o26_x25, .ref (ρ h0 26), .ref (ρ h0 27), .int o26_x28, .int o26_x29, .ref (ρ h0 30), .ref (ρ h0 31), .int o26_x32, .long o26_x33, .long o26_x34, .long o26_x35, .int o26_x36, .int o26_x37, .int o26_x38, .ref (ρ h0 39), .ref (ρ h0 40), .ref (ρ h0 41), .ref (ρ h0 42), .ref (ρ h0 43), .ref (ρ h0 44), .ref (ρ h0 45), .ref (ρ h0 46), .int o26_x47, .int o26_x48, .ref (ρ h0 49), .ref (ρ h0 50), .ref (ρ h0 51), .ref (ρ h0 52)])) hD (tp_in hG ht_h0 (by decide)) eq312 (fun f314 H locs hP hD hS g316 k315 => ?_))
            have hT := hT.up ht_h0 g316 k315 ⟨_, _, _, _, _, _, _, _, _, _, _, _, _, _, _, _, _, _, _, _, _, _, _, _, _, _, _, _, rfl, ro26_0, ro26_1, (by omega), (by omega), (by decide), ro26_5, ro26_6, ro26_7, ro26_8, ro26_9, ro26_10, ro26_11, ro26_12, ro26_13⟩
            have hR := hR.up ht_h0 (by decide) k315
            have hf_322 : f309 (ρ h0 8) = .inl (κ 0, 400, .inl g28) := (k310 _ (tp_ne y6 ht_h0 (by decide))).trans hf_306
            have hf_323 : f314 (ρ h0 8) = .inl (κ 0, 400, .inl g28) := (k315 _ (tp_ne y6 ht_h0 (by decide))).trans hf_322
            refine pz_loop (fun n0 H locs ls => ∃ f326 : Nat → va_E, ∃ w317 : Int32, ∃ w318 : Int64, n0 = (400 - (w317.toInt)).toNat ∧ tp_T (mo_O κ) κ τ ν ρ f326 ∧ tp_F τ [13] f f326 ∧ f326 (ρ h0 8) = .inl (κ 0, 400, .inl g28) ∧ f326 h0 = .inr (12, [.int o26_x0, .int o26_x1, .ref (ρ h0 2), .ref (ρ h0 3), .ref (ρ h0 4), .ref (ρ h0 5), .ref (ρ h0 6), .int o26_x7, .ref (ρ h0 8), .int o26_x9, .int w33, .int w317, .int 3, .long w318, .int o26_x14, .int o26_x15, .int o26_x16, .int o26_x17, .int o26_x18, .int o26_x19, .int o26_x20, .ref (ρ h0 21), .int o26_x22, .ref (ρ h0 23), .ref (ρ h0 24), .int o26_x25, .ref (ρ h0 26), .ref (ρ h0 27), .int o26_x28, .int o26_x29, .ref (ρ h0 30), .ref (ρ h0 31), .int o26_x32, .long o26_x33, .long o26_x34, .long o26_x35, .int o26_x36, .int o26_x37, .int o26_x38, .ref (ρ h0 39), .ref (ρ h0 40), .ref (ρ h0 41), .ref (ρ h0 42), .ref (ρ h0 43), .ref (ρ h0 44), .ref (ρ h0 45), .ref (ρ h0 46), .int o26_x47, .int o26_x48, .ref (ρ h0 49), .ref (ρ h0 50), .ref (ρ h0 51), .ref (ρ h0 52)]) ∧ (0 ≤ w317.toInt ∧ w317.toInt ≤ 400) ∧ (w33.toInt ≤ (w317.toInt)) ∧ ((w317.toInt) ≤ o26_x9.toInt) ∧ ((w317.toInt) = w33.toInt + 1) ∧ va_P (dC, dI) vwCl (va_pl L f326) H ∧ va_D A (va_pl L f326) ∧ va_S A s.heap H locs ∧ lv_has ls 1 [(0, .ref h0)]) ?_ _ _ _ _ ⟨f314, z313, z308.toInt64, rfl, hT, hR, hf_323, g316, (by have : (z308.toInt64).toInt = z308.toInt := (Int32.toInt_toInt64 z308); omega), (by have : (z308.toInt64).toInt = z308.toInt := (Int32.toInt_toInt64 z308); omega), (by have : (z308.toInt64).toInt = z308.toInt := (Int32.toInt_toInt64 z308); omega), (by have : (z308.toInt64).toInt = z308.toInt := (Int32.toInt_toInt64 z308); omega), hP, hD, hS, lv_sub hl [0] rfl⟩
            intro n0 H locs ls hI ih328
            obtain ⟨f326, w317, w318, hn329, hT, hR, hk324k, hk325k, rw317, k319, k320, k321, hP, hD, hS, hl⟩ := hI
            refine lv_aload_n hx hb dX12_next_149 rfl (lv_at hl 0 rfl) ?_
            obtain ⟨q330, eq330⟩ := tp_pos (tp_in hG ht_h0 (by decide)) hk325k
            refine va_get (D := (dC, dI)) (ci := 12) (v := .int 3) (C := RX12) (T := TX12) (N := 53) hx hb hts hfX12 hown hK hP q330 eq330 rfl 12 (by decide) (hts (.fieldLink RX12 280 "ColdShipsModel" "sort" "I") wa_995) (fun _ h9 => h9) rfl dX12_next_150 ?_
            refine lv_iconst (v := 1) hx hb dX12_next_153 (by decide) ?_
            refine lv_icmp_ne (tgt := 243) hx hb dX12_next_154 (by decide) (fun _ => ?_) (fun c9 => absurd c9 (by decide))
            refine pz_loop (fun n0 H locs ls => ∃ f338 : Nat → va_E, ∃ w331 : Int32, ∃ w332 : Int64, n0 = (400 - (w331.toInt)).toNat ∧ tp_T (mo_O κ) κ τ ν ρ f338 ∧ tp_F τ [13] f f338 ∧ f338 (ρ h0 8) = .inl (κ 0, 400, .inl g28) ∧ f338 h0 = .inr (12, [.int o26_x0, .int o26_x1, .ref (ρ h0 2), .ref (ρ h0 3), .ref (ρ h0 4), .ref (ρ h0 5), .ref (ρ h0 6), .int o26_x7, .ref (ρ h0 8), .int o26_x9, .int w33, .int w331, .int 3, .long w332, .int o26_x14, .int o26_x15, .int o26_x16, .int o26_x17, .int o26_x18, .int o26_x19, .int o26_x20, .ref (ρ h0 21), .int o26_x22, .ref (ρ h0 23), .ref (ρ h0 24), .int o26_x25, .ref (ρ h0 26), .ref (ρ h0 27), .int o26_x28, .int o26_x29, .ref (ρ h0 30), .ref (ρ h0 31), .int o26_x32, .long o26_x33, .long o26_x34, .long o26_x35, .int o26_x36, .int o26_x37, .int o26_x38, .ref (ρ h0 39), .ref (ρ h0 40), .ref (ρ h0 41), .ref (ρ h0 42), .ref (ρ h0 43), .ref (ρ h0 44), .ref (ρ h0 45), .ref (ρ h0 46), .int o26_x47, .int o26_x48, .ref (ρ h0 49), .ref (ρ h0 50), .ref (ρ h0 51), .ref (ρ h0 52)]) ∧ (0 ≤ w331.toInt ∧ w331.toInt ≤ 400) ∧ (w33.toInt ≤ (w331.toInt)) ∧ ((w331.toInt) ≤ o26_x9.toInt) ∧ (w33.toInt < (w331.toInt)) ∧ va_P (dC, dI) vwCl (va_pl L f338) H ∧ va_D A (va_pl L f338) ∧ va_S A s.heap H locs ∧ lv_has ls 1 [(0, .ref h0)]) ?_ _ _ _ _ ⟨f326, w317, w318, rfl, hT, hR, hk324k, hk325k, (by omega), (by omega), (by omega), (by omega), hP, hD, hS, lv_sub hl [0] rfl⟩
            intro n0 H locs ls hI ih340
            obtain ⟨f338, w331, w332, hn341, hT, hR, hk336k, hk337k, rw331, k333, k334, k335, hP, hD, hS, hl⟩ := hI
            refine lv_aload_n hx hb dX12_next_243 rfl (lv_at hl 0 rfl) ?_
            obtain ⟨q342, eq342⟩ := tp_pos (tp_in hG ht_h0 (by decide)) hk337k
            refine va_get (D := (dC, dI)) (ci := 12) (v := .int 3) (C := RX12) (T := TX12) (N := 53) hx hb hts hfX12 hown hK hP q342 eq342 rfl 12 (by decide) (hts (.fieldLink RX12 280 "ColdShipsModel" "sort" "I") wa_995) (fun _ h9 => h9) rfl dX12_next_244 ?_
            refine lv_iconst (v := 2) hx hb dX12_next_247 (by decide) ?_
            refine lv_icmp_ne (tgt := 335) hx hb dX12_next_248 (by decide) (fun _ => ?_) (fun c9 => absurd c9 (by decide))
            exact W.vret hx hb hr (fun t ht hW => ⟨⟨f338, rfl, ⟨hT, hR, (by simp only [hk337k, hf_o26, mo_i1, mo_l1]; exact (show (w33.toInt ≤ w331.toInt ∧ w331.toInt ≤ o26_x9.toInt ∧ (3 = 0 ∨ w33.toInt < w331.toInt) ∧ (3 = 1 → w331.toInt = w33.toInt + 1 → w332.toInt ≤ 26)) ∧ o26_x11.toInt ≤ w33.toInt ∧ o26_x9.toInt = o26_x9.toInt ∧ o26_x15.toInt = o26_x15.toInt ∧ o26_x19.toInt = o26_x19.toInt ∧ o26_x20.toInt = o26_x20.toInt ∧ o26_x22.toInt = o26_x22.toInt ∧ o26_x28.toInt = o26_x28.toInt from by first | omega | decide))⟩, by rw [ht]; exact hP, va_K.moved hW.alike hK, hD⟩, hS.F ht⟩) hS.2.2 dX12_next_335
          · have ic300 : r298.toInt ≠ 0 := zi_eqf rfl rfl c300
            have p343 : 48 ≤ (z297.toInt) ∧ (z297.toInt) ≤ 57 := (tp_cond.yes hw299p) (by omega)
            refine lv_iconst (v := 2) hx hb dX12_next_109 (by decide) ?_
            refine lv_goto (tgt := 114) hx hb dX12_next_110 (by decide) ?_
            refine va_put (D := (dC, dI)) (ci := 12) (v := .int 2) (ty := .int) (C := RX12) (T := TX12) (N := 53) hx hb hts hfX12 tyX12 tyX12_ok nmX12 hown hK hP hD hS q287 eq287 rfl 12 (by decide) (hts (.fieldLink RX12 280 "ColdShipsModel" "sort" "I") wa_995) (fun _ h9 => h9) rfl (tyX12_ok 12 (by decide)) rfl rfl (Nat.le_of_ble_eq_true rfl) dX12_next_114 (tp_k (.inr (12, [.int o26_x0, .int o26_x1, .ref (ρ h0 2), .ref (ρ h0 3), .ref (ρ h0 4), .ref (ρ h0 5), .ref (ρ h0 6), .int o26_x7, .ref (ρ h0 8), .int o26_x9, .int w33, .int w33, .int 2, .long 0, .int o26_x14, .int o26_x15, .int o26_x16, .int o26_x17, .int o26_x18, .int o26_x19, .int o26_x20, .ref (ρ h0 21), .int o26_x22, .ref (ρ h0 23), .ref (ρ h0 24), .int o26_x25, .ref (ρ h0 26), .ref (ρ h0 27), .int o26_x28, .int o26_x29, .ref (ρ h0 30), .ref (ρ h0 31), .int o26_x32, .long o26_x33, .long o26_x34, .long o26_x35, .int o26_x36, .int o26_x37, .int o26_x38, .ref (ρ h0 39), .ref (ρ h0 40), .ref (ρ h0 41), .ref (ρ h0 42), .ref (ρ h0 43), .ref (ρ h0 44), .ref (ρ h0 45), .ref (ρ h0 46), .int o26_x47, .int o26_x48, .ref (ρ h0 49), .ref (ρ h0 50), .ref (ρ h0 51), .ref (ρ h0 52)])) hD (tp_in hG ht_h0 (by decide)) eq287 (fun f344 H locs hP hD hS g346 k345 => ?_))
            have hT := hT.up ht_h0 g346 k345 ⟨_, _, _, _, _, _, _, _, _, _, _, _, _, _, _, _, _, _, _, _, _, _, _, _, _, _, _, _, rfl, ro26_0, ro26_1, (by omega), (by omega), (by decide), ro26_5, ro26_6, ro26_7, ro26_8, ro26_9, ro26_10, ro26_11, ro26_12, ro26_13⟩
            have hR := hR.up ht_h0 (by decide) k345
            refine lv_aload_n hx hb dX12_next_117 rfl (lv_at hl 0 rfl) ?_
            obtain ⟨q347, eq347⟩ := tp_pos (tp_in hG ht_h0 (by decide)) g346
            refine va_get (D := (dC, dI)) (ci := 12) (v := .int 2) (C := RX12) (T := TX12) (N := 53) hx hb hts hfX12 hown hK hP q347 eq347 rfl 12 (by decide) (hts (.fieldLink RX12 280 "ColdShipsModel" "sort" "I") wa_995) (fun _ h9 => h9) rfl dX12_next_118 ?_
            refine lv_iconst (v := 3) hx hb dX12_next_121 (by decide) ?_
            refine lv_icmp_ne (tgt := 149) hx hb dX12_next_122 (by decide) (fun _ => ?_) (fun c9 => absurd c9 (by decide))
            have hf_352 : f344 (ρ h0 8) = .inl (κ 0, 400, .inl g28) := (k345 _ (tp_ne y6 ht_h0 (by decide))).trans hf_290
            refine pz_loop (fun n0 H locs ls => ∃ f355 : Nat → va_E, ∃ w348 : Int32, ∃ w349 : Int64, n0 = (400 - (w348.toInt)).toNat ∧ tp_T (mo_O κ) κ τ ν ρ f355 ∧ tp_F τ [13] f f355 ∧ f355 (ρ h0 8) = .inl (κ 0, 400, .inl g28) ∧ f355 h0 = .inr (12, [.int o26_x0, .int o26_x1, .ref (ρ h0 2), .ref (ρ h0 3), .ref (ρ h0 4), .ref (ρ h0 5), .ref (ρ h0 6), .int o26_x7, .ref (ρ h0 8), .int o26_x9, .int w33, .int w348, .int 2, .long w349, .int o26_x14, .int o26_x15, .int o26_x16, .int o26_x17, .int o26_x18, .int o26_x19, .int o26_x20, .ref (ρ h0 21), .int o26_x22, .ref (ρ h0 23), .ref (ρ h0 24), .int o26_x25, .ref (ρ h0 26), .ref (ρ h0 27), .int o26_x28, .int o26_x29, .ref (ρ h0 30), .ref (ρ h0 31), .int o26_x32, .long o26_x33, .long o26_x34, .long o26_x35, .int o26_x36, .int o26_x37, .int o26_x38, .ref (ρ h0 39), .ref (ρ h0 40), .ref (ρ h0 41), .ref (ρ h0 42), .ref (ρ h0 43), .ref (ρ h0 44), .ref (ρ h0 45), .ref (ρ h0 46), .int o26_x47, .int o26_x48, .ref (ρ h0 49), .ref (ρ h0 50), .ref (ρ h0 51), .ref (ρ h0 52)]) ∧ (0 ≤ w348.toInt ∧ w348.toInt ≤ 400) ∧ (w33.toInt ≤ (w348.toInt)) ∧ ((w348.toInt) ≤ o26_x9.toInt) ∧ va_P (dC, dI) vwCl (va_pl L f355) H ∧ va_D A (va_pl L f355) ∧ va_S A s.heap H locs ∧ lv_has ls 1 [(0, .ref h0)]) ?_ _ _ _ _ ⟨f344, w33, 0, rfl, hT, hR, hf_352, g346, (by have : (0 : Int64).toInt = 0 := rfl; omega), (by have : (0 : Int64).toInt = 0 := rfl; omega), (by have : (0 : Int64).toInt = 0 := rfl; omega), hP, hD, hS, lv_sub hl [0] rfl⟩
            intro n0 H locs ls hI ih357
            obtain ⟨f355, w348, w349, hn358, hT, hR, hk353k, hk354k, rw348, k350, k351, hP, hD, hS, hl⟩ := hI
            refine lv_aload_n hx hb dX12_next_149 rfl (lv_at hl 0 rfl) ?_
            obtain ⟨q359, eq359⟩ := tp_pos (tp_in hG ht_h0 (by decide)) hk354k
            refine va_get (D := (dC, dI)) (ci := 12) (v := .int 2) (C := RX12) (T := TX12) (N := 53) hx hb hts hfX12 hown hK hP q359 eq359 rfl 12 (by decide) (hts (.fieldLink RX12 280 "ColdShipsModel" "sort" "I") wa_995) (fun _ h9 => h9) rfl dX12_next_150 ?_
            refine lv_iconst (v := 1) hx hb dX12_next_153 (by decide) ?_
            refine lv_icmp_ne (tgt := 243) hx hb dX12_next_154 (by decide) (fun _ => ?_) (fun c9 => absurd c9 (by decide))
            refine pz_loop (fun n0 H locs ls => ∃ f366 : Nat → va_E, ∃ w360 : Int32, ∃ w361 : Int64, n0 = (400 - (w360.toInt)).toNat ∧ tp_T (mo_O κ) κ τ ν ρ f366 ∧ tp_F τ [13] f f366 ∧ f366 (ρ h0 8) = .inl (κ 0, 400, .inl g28) ∧ f366 h0 = .inr (12, [.int o26_x0, .int o26_x1, .ref (ρ h0 2), .ref (ρ h0 3), .ref (ρ h0 4), .ref (ρ h0 5), .ref (ρ h0 6), .int o26_x7, .ref (ρ h0 8), .int o26_x9, .int w33, .int w360, .int 2, .long w361, .int o26_x14, .int o26_x15, .int o26_x16, .int o26_x17, .int o26_x18, .int o26_x19, .int o26_x20, .ref (ρ h0 21), .int o26_x22, .ref (ρ h0 23), .ref (ρ h0 24), .int o26_x25, .ref (ρ h0 26), .ref (ρ h0 27), .int o26_x28, .int o26_x29, .ref (ρ h0 30), .ref (ρ h0 31), .int o26_x32, .long o26_x33, .long o26_x34, .long o26_x35, .int o26_x36, .int o26_x37, .int o26_x38, .ref (ρ h0 39), .ref (ρ h0 40), .ref (ρ h0 41), .ref (ρ h0 42), .ref (ρ h0 43), .ref (ρ h0 44), .ref (ρ h0 45), .ref (ρ h0 46), .int o26_x47, .int o26_x48, .ref (ρ h0 49), .ref (ρ h0 50), .ref (ρ h0 51), .ref (ρ h0 52)]) ∧ (0 ≤ w360.toInt ∧ w360.toInt ≤ 400) ∧ (w33.toInt ≤ (w360.toInt)) ∧ ((w360.toInt) ≤ o26_x9.toInt) ∧ va_P (dC, dI) vwCl (va_pl L f366) H ∧ va_D A (va_pl L f366) ∧ va_S A s.heap H locs ∧ lv_has ls 1 [(0, .ref h0)]) ?_ _ _ _ _ ⟨f355, w348, w349, rfl, hT, hR, hk353k, hk354k, (by omega), (by omega), (by omega), hP, hD, hS, lv_sub hl [0] rfl⟩
            intro n0 H locs ls hI ih368
            obtain ⟨f366, w360, w361, hn369, hT, hR, hk364k, hk365k, rw360, k362, k363, hP, hD, hS, hl⟩ := hI
            refine lv_aload_n hx hb dX12_next_243 rfl (lv_at hl 0 rfl) ?_
            obtain ⟨q370, eq370⟩ := tp_pos (tp_in hG ht_h0 (by decide)) hk365k
            refine va_get (D := (dC, dI)) (ci := 12) (v := .int 2) (C := RX12) (T := TX12) (N := 53) hx hb hts hfX12 hown hK hP q370 eq370 rfl 12 (by decide) (hts (.fieldLink RX12 280 "ColdShipsModel" "sort" "I") wa_995) (fun _ h9 => h9) rfl dX12_next_244 ?_
            refine lv_iconst (v := 2) hx hb dX12_next_247 (by decide) ?_
            refine lv_icmp_ne (tgt := 335) hx hb dX12_next_248 (by decide) (fun c9 => absurd c9 (by decide)) (fun _ => ?_)
            refine lv_aload_n hx hb dX12_next_251 rfl (lv_at hl 0 rfl) ?_
            refine va_get (D := (dC, dI)) (ci := 12) (v := .int w360) (C := RX12) (T := TX12) (N := 53) hx hb hts hfX12 hown hK hP q370 eq370 rfl 11 (by decide) (hts (.fieldLink RX12 258 "ColdShipsModel" "to" "I") wa_1000) (fun _ h9 => h9) rfl dX12_next_252 ?_
            refine lv_aload_n hx hb dX12_next_255 rfl (lv_at hl 0 rfl) ?_
            refine va_get (D := (dC, dI)) (ci := 12) (v := .int o26_x9) (C := RX12) (T := TX12) (N := 53) hx hb hts hfX12 hown hK hP q370 eq370 rfl 9 (by decide) (hts (.fieldLink RX12 252 "ColdShipsModel" "taped" "I") wa_774) (fun _ h9 => h9) rfl dX12_next_256 ?_
            refine lv_icmp_ge (tgt := 335) hx hb dX12_next_259 (by decide) (fun c371 => ?_) (fun c371 => ?_)
            · have ic371 : w360.toInt ≥ o26_x9.toInt := zi_ge rfl rfl c371
              exact W.vret hx hb hr (fun t ht hW => ⟨⟨f366, rfl, ⟨hT, hR, (by simp only [hk365k, hf_o26, mo_i1, mo_l1]; exact (show (w33.toInt ≤ w360.toInt ∧ w360.toInt ≤ o26_x9.toInt ∧ (2 = 0 ∨ w33.toInt < w360.toInt) ∧ (2 = 1 → w360.toInt = w33.toInt + 1 → w361.toInt ≤ 26)) ∧ o26_x11.toInt ≤ w33.toInt ∧ o26_x9.toInt = o26_x9.toInt ∧ o26_x15.toInt = o26_x15.toInt ∧ o26_x19.toInt = o26_x19.toInt ∧ o26_x20.toInt = o26_x20.toInt ∧ o26_x22.toInt = o26_x22.toInt ∧ o26_x28.toInt = o26_x28.toInt from by first | omega | decide))⟩, by rw [ht]; exact hP, va_K.moved hW.alike hK, hD⟩, hS.F ht⟩) hS.2.2 dX12_next_335
            · have ic371 : w360.toInt < o26_x9.toInt := zi_gef rfl rfl c371
              refine lv_aload_n hx hb dX12_next_262 rfl (lv_at hl 0 rfl) ?_
              refine va_get (D := (dC, dI)) (ci := 12) (v := .ref (ρ h0 8)) (C := RX12) (T := TX12) (N := 53) hx hb hts hfX12 hown hK hP q370 eq370 rfl 8 (by decide) (hts (.fieldLink RX12 27 "ColdShipsModel" "tape" "[I") wa_154) (fun _ h9 => h9) rfl dX12_next_263 ?_
              refine lv_aload_n hx hb dX12_next_266 rfl (lv_at hl 0 rfl) ?_
              refine va_get (D := (dC, dI)) (ci := 12) (v := .int w360) (C := RX12) (T := TX12) (N := 53) hx hb hts hfX12 hown hK hP q370 eq370 rfl 11 (by decide) (hts (.fieldLink RX12 258 "ColdShipsModel" "to" "I") wa_1000) (fun _ h9 => h9) rfl dX12_next_267 ?_
              obtain ⟨q372, eq372⟩ := tp_pos (tp_in hG y6 (by decide)) hk364k
              refine va_iald hx hb hK hP q372 0 eq372 rfl (vp_in_iff.mpr ⟨by omega, by omega⟩) dX12_next_270 ?_
              refine lv_topi (fun z373 ez373 => ?_)
              have jz373 : z373.toInt = mo_R g28 w360.toInt := mo_rd ez373 (by omega)
              have hz373q := fun (q9 : w360.toInt = w33.toInt) => congrArg (mo_R g28) q9
              refine pz_calli (va_runS (As := [.int z373]) (rest := []) ⟨hx, hb, hml, hown, hts⟩ (t_X12_isDigit l dC dI _ z373 (z373.toInt) rfl) (va_cwS 1 hts gX12_next_X12_isDigit rfl rfl rfl pd_X12_isDigit ⟨Nat.le_of_ble_eq_true rfl, Nat.le_of_ble_eq_true rfl⟩) ⟨pz_blind, pz_pre pz_P0 (hK.sub (tys' := []) [] rfl) (pz_D0 (A := fun _ => True)) hN⟩ rfl rfl hl.1 rfl (lv_room (Nat.le_of_ble_eq_true rfl)) dX12_next_271 ⟨Nat.le_of_ble_eq_true rfl, Nat.le_of_ble_eq_true rfl⟩) (fun r374 hw375 => ?_)
              obtain ⟨hw375r, hw375p⟩ := hw375
              refine lv_if_eq (tgt := 335) hx hb dX12_next_274 (by decide) (fun c376 => ?_) (fun c376 => ?_)
              · have ic376 : r374.toInt = 0 := zi_eq rfl rfl c376
                have p377 : ¬ (48 ≤ (z373.toInt) ∧ (z373.toInt) ≤ 57) := (tp_cond.no hw375p) (by omega)
                exact W.vret hx hb hr (fun t ht hW => ⟨⟨f366, rfl, ⟨hT, hR, (by simp only [hk365k, hf_o26, mo_i1, mo_l1]; exact (show (w33.toInt ≤ w360.toInt ∧ w360.toInt ≤ o26_x9.toInt ∧ (2 = 0 ∨ w33.toInt < w360.toInt) ∧ (2 = 1 → w360.toInt = w33.toInt + 1 → w361.toInt ≤ 26)) ∧ o26_x11.toInt ≤ w33.toInt ∧ o26_x9.toInt = o26_x9.toInt ∧ o26_x15.toInt = o26_x15.toInt ∧ o26_x19.toInt = o26_x19.toInt ∧ o26_x20.toInt = o26_x20.toInt ∧ o26_x22.toInt = o26_x22.toInt ∧ o26_x28.toInt = o26_x28.toInt from by first | omega | decide))⟩, by rw [ht]; exact hP, va_K.moved hW.alike hK, hD⟩, hS.F ht⟩) hS.2.2 dX12_next_335
              · have ic376 : r374.toInt ≠ 0 := zi_eqf rfl rfl c376
                have p378 : 48 ≤ (z373.toInt) ∧ (z373.toInt) ≤ 57 := (tp_cond.yes hw375p) (by omega)
                refine lv_aload_n hx hb dX12_next_277 rfl (lv_at hl 0 rfl) ?_
                refine lv_aload_n hx hb dX12_next_278 rfl (lv_at hl 0 rfl) ?_
                refine va_get (D := (dC, dI)) (ci := 12) (v := .long w361) (C := RX12) (T := TX12) (N := 53) hx hb hts hfX12 hown hK hP q370 eq370 rfl 13 (by decide) (hts (.fieldLink RX12 270 "ColdShipsModel" "worth" "J") wa_1006) (fun _ h9 => h9) rfl dX12_next_279 ?_
                refine lv_ldc2 (own := RX12) (v := 1000000) hx hb hown (hts (.constantLong RX12 287 (1000000)) wa_1009) dX12_next_282 ?_
                refine W.lcmp hx hb dX12_next_285 ?_
                refine lv_if_le (tgt := 296) hx hb dX12_next_286 (by decide) (fun c379 => ?_) (fun c379 => ?_)
                · have ic379 : w361.toInt ≤ 1000000 := zl_le rfl rfl c379
                  refine lv_aload_n hx hb dX12_next_296 rfl (lv_at hl 0 rfl) ?_
                  refine va_get (D := (dC, dI)) (ci := 12) (v := .long w361) (C := RX12) (T := TX12) (N := 53) hx hb hts hfX12 hown hK hP q370 eq370 rfl 13 (by decide) (hts (.fieldLink RX12 270 "ColdShipsModel" "worth" "J") wa_1006) (fun _ h9 => h9) rfl dX12_next_297 ?_
                  refine lv_ldc2 (own := RX12) (v := 10) hx hb hown (hts (.constantLong RX12 289 (10)) wa_1010) dX12_next_300 ?_
                  refine lv_lmul hx hb dX12_next_303 ?_
                  refine lv_topl (fun z380 ez380 => ?_)
                  refine lv_aload_n hx hb dX12_next_304 rfl (lv_at hl 0 rfl) ?_
                  refine va_get (D := (dC, dI)) (ci := 12) (v := .ref (ρ h0 8)) (C := RX12) (T := TX12) (N := 53) hx hb hts hfX12 hown hK hP q370 eq370 rfl 8 (by decide) (hts (.fieldLink RX12 27 "ColdShipsModel" "tape" "[I") wa_154) (fun _ h9 => h9) rfl dX12_next_305 ?_
                  refine lv_aload_n hx hb dX12_next_308 rfl (lv_at hl 0 rfl) ?_
                  refine va_get (D := (dC, dI)) (ci := 12) (v := .int w360) (C := RX12) (T := TX12) (N := 53) hx hb hts hfX12 hown hK hP q370 eq370 rfl 11 (by decide) (hts (.fieldLink RX12 258 "ColdShipsModel" "to" "I") wa_1000) (fun _ h9 => h9) rfl dX12_next_309 ?_
                  refine va_iald hx hb hK hP q372 0 eq372 rfl (vp_in_iff.mpr ⟨by omega, by omega⟩) dX12_next_312 ?_
                  refine lv_topi (fun z381 ez381 => ?_)
                  have jz381 : z381.toInt = mo_R g28 w360.toInt := mo_rd ez381 (by omega)
                  have hz381q := fun (q9 : w360.toInt = w33.toInt) => congrArg (mo_R g28) q9
                  refine lv_i2l hx hb dX12_next_313 rfl ?_
                  refine lv_ladd hx hb dX12_next_314 ?_
                  refine lv_topl (fun z382 ez382 => ?_)
                  refine lv_ldc2 (own := RX12) (v := 48) hx hb hown (hts (.constantLong RX12 291 (48)) wa_1011) dX12_next_315 ?_
                  refine lv_lsub hx hb dX12_next_318 ?_
                  refine lv_topl (fun z383 ez383 => ?_)
                  refine va_put (D := (dC, dI)) (ci := 12) (v := .long z383) (ty := .long) (C := RX12) (T := TX12) (N := 53) hx hb hts hfX12 tyX12 tyX12_ok nmX12 hown hK hP hD hS q370 eq370 rfl 13 (by decide) (hts (.fieldLink RX12 270 "ColdShipsModel" "worth" "J") wa_1006) (fun _ h9 => h9) rfl (tyX12_ok 13 (by decide)) rfl rfl (Nat.le_of_ble_eq_true rfl) dX12_next_319 (tp_k (.inr (12, [.int o26_x0, .int o26_x1, .ref (ρ h0 2), .ref (ρ h0 3), .ref (ρ h0 4), .ref (ρ h0 5), .ref (ρ h0 6), .int o26_x7, .ref (ρ h0 8), .int o26_x9, .int w33, .int w360, .int 2, .long z383, .int o26_x14, .int o26_x15, .int o26_x16, .int o26_x17, .int o26_x18, .int o26_x19, .int o26_x20, .ref (ρ h0 21), .int o26_x22, .ref (ρ h0 23), .ref (ρ h0 24), .int o26_x25, .ref (ρ h0 26), .ref (ρ h0 27), .int o26_x28, .int o26_x29, .ref (ρ h0 30), .ref (ρ h0 31), .int o26_x32, .long o26_x33, .long o26_x34, .long o26_x35, .int o26_x36, .int o26_x37, .int o26_x38, .ref (ρ h0 39), .ref (ρ h0 40), .ref (ρ h0 41), .ref (ρ h0 42), .ref (ρ h0 43), .ref (ρ h0 44), .ref (ρ h0 45), .ref (ρ h0 46), .int o26_x47, .int o26_x48, .ref (ρ h0 49), .ref (ρ h0 50), .ref (ρ h0 51), .ref (ρ h0 52)])) hD (tp_in hG ht_h0 (by decide)) eq370 (fun f384 H locs hP hD hS g386 k385 => ?_))
                  have hT := hT.up ht_h0 g386 k385 ⟨_, _, _, _, _, _, _, _, _, _, _, _, _, _, _, _, _, _, _, _, _, _, _, _, _, _, _, _, rfl, ro26_0, ro26_1, (by omega), (by omega), (by decide), ro26_5, ro26_6, ro26_7, ro26_8, ro26_9, ro26_10, ro26_11, ro26_12, ro26_13⟩
                  have hR := hR.up ht_h0 (by decide) k385
                  refine lv_aload_n hx hb dX12_next_322 rfl (lv_at hl 0 rfl) ?_
                  refine lv_dup hx hb dX12_next_323 rfl ?_
                  obtain ⟨q387, eq387⟩ := tp_pos (tp_in hG ht_h0 (by decide)) g386
                  refine va_get (D := (dC, dI)) (ci := 12) (v := .int w360) (C := RX12) (T := TX12) (N := 53) hx hb hts hfX12 hown hK hP q387 eq387 rfl 11 (by decide) (hts (.fieldLink RX12 258 "ColdShipsModel" "to" "I") wa_1000) (fun _ h9 => h9) rfl dX12_next_324 ?_
                  refine lv_iconst (v := 1) hx hb dX12_next_327 (by decide) ?_
                  refine lv_iadd hx hb dX12_next_328 ?_
                  refine lv_topi (fun z388 ez388 => ?_)
                  have iz388 : z388.toInt = w360.toInt + 1 := zi_add ez388 rfl rfl (by omega) (by omega)
                  refine va_put (D := (dC, dI)) (ci := 12) (v := .int z388) (ty := .int) (C := RX12) (T := TX12) (N := 53) hx hb hts hfX12 tyX12 tyX12_ok nmX12 hown hK hP hD hS q387 eq387 rfl 11 (by decide) (hts (.fieldLink RX12 258 "ColdShipsModel" "to" "I") wa_1000) (fun _ h9 => h9) rfl (tyX12_ok 11 (by decide)) rfl rfl (Nat.le_of_ble_eq_true rfl) dX12_next_329 (tp_k (.inr (12, [.int o26_x0, .int o26_x1, .ref (ρ h0 2), .ref (ρ h0 3), .ref (ρ h0 4), .ref (ρ h0 5), .ref (ρ h0 6), .int o26_x7, .ref (ρ h0 8), .int o26_x9, .int w33, .int z388, .int 2, .long z383, .int o26_x14, .int o26_x15, .int o26_x16, .int o26_x17, .int o26_x18, .int o26_x19, .int o26_x20, .ref (ρ h0 21), .int o26_x22, .ref (ρ h0 23), .ref (ρ h0 24), .int o26_x25, .ref (ρ h0 26), .ref (ρ h0 27), .int o26_x28, .int o26_x29, .ref (ρ h0 30), .ref (ρ h0 31), .int o26_x32, .long o26_x33, .long o26_x34, .long o26_x35, .int o26_x36, .int o26_x37, .int o26_x38, .ref (ρ h0 39), .ref (ρ h0 40), .ref (ρ h0 41), .ref (ρ h0 42), .ref (ρ h0 43), .ref (ρ h0 44), .ref (ρ h0 45), .ref (ρ h0 46), .int o26_x47, .int o26_x48, .ref (ρ h0 49), .ref (ρ h0 50), .ref (ρ h0 51), .ref (ρ h0 52)])) hD (tp_in hG ht_h0 (by decide)) eq387 (fun f389 H locs hP hD hS g391 k390 => ?_))
                  have hT := hT.up ht_h0 g391 k390 ⟨_, _, _, _, _, _, _, _, _, _, _, _, _, _, _, _, _, _, _, _, _, _, _, _, _, _, _, _, rfl, ro26_0, ro26_1, (by omega), (by omega), (by decide), ro26_5, ro26_6, ro26_7, ro26_8, ro26_9, ro26_10, ro26_11, ro26_12, ro26_13⟩
                  have hR := hR.up ht_h0 (by decide) k390
                  refine lv_goto (tgt := 243) hx hb dX12_next_332 (by decide) ?_
                  have hf_392 : f384 (ρ h0 8) = .inl (κ 0, 400, .inl g28) := (k385 _ (tp_ne y6 ht_h0 (by decide))).trans hk364k
                  have hf_393 : f389 (ρ h0 8) = .inl (κ 0, 400, .inl g28) := (k390 _ (tp_ne y6 ht_h0 (by decide))).trans hf_392
                  exact ih368 _ _ _ _ (by rw [hn369]; omega) ⟨f389, z388, z383, rfl, hT, hR, hf_393, g391, (by omega), (by omega), (by omega), hP, hD, hS, lv_sub hl [0] rfl⟩
                · have ic379 : w361.toInt > 1000000 := zl_lef rfl rfl c379
                  refine lv_aload_n hx hb dX12_next_289 rfl (lv_at hl 0 rfl) ?_
                  refine va_get (D := (dC, dI)) (ci := 12) (v := .long w361) (C := RX12) (T := TX12) (N := 53) hx hb hts hfX12 hown hK hP q370 eq370 rfl 13 (by decide) (hts (.fieldLink RX12 270 "ColdShipsModel" "worth" "J") wa_1006) (fun _ h9 => h9) rfl dX12_next_290 ?_
                  refine lv_goto (tgt := 319) hx hb dX12_next_293 (by decide) ?_
                  refine va_put (D := (dC, dI)) (ci := 12) (v := .long w361) (ty := .long) (C := RX12) (T := TX12) (N := 53) hx hb hts hfX12 tyX12 tyX12_ok nmX12 hown hK hP hD hS q370 eq370 rfl 13 (by decide) (hts (.fieldLink RX12 270 "ColdShipsModel" "worth" "J") wa_1006) (fun _ h9 => h9) rfl (tyX12_ok 13 (by decide)) rfl rfl (Nat.le_of_ble_eq_true rfl) dX12_next_319 (tp_k (.inr (12, [.int o26_x0, .int o26_x1, .ref (ρ h0 2), .ref (ρ h0 3), .ref (ρ h0 4), .ref (ρ h0 5), .ref (ρ h0 6), .int o26_x7, .ref (ρ h0 8), .int o26_x9, .int w33, .int w360, .int 2, .long w361, .int o26_x14, .int o26_x15, .int o26_x16, .int o26_x17, .int o26_x18, .int o26_x19, .int o26_x20, .ref (ρ h0 21), .int o26_x22, .ref (ρ h0 23), .ref (ρ h0 24), .int o26_x25, .ref (ρ h0 26), .ref (ρ h0 27), .int o26_x28, .int o26_x29, .ref (ρ h0 30), .ref (ρ h0 31), .int o26_x32, .long o26_x33, .long o26_x34, .long o26_x35, .int o26_x36, .int o26_x37, .int o26_x38, .ref (ρ h0 39), .ref (ρ h0 40), .ref (ρ h0 41), .ref (ρ h0 42), .ref (ρ h0 43), .ref (ρ h0 44), .ref (ρ h0 45), .ref (ρ h0 46), .int o26_x47, .int o26_x48, .ref (ρ h0 49), .ref (ρ h0 50), .ref (ρ h0 51), .ref (ρ h0 52)])) hD (tp_in hG ht_h0 (by decide)) eq370 (fun f394 H locs hP hD hS g396 k395 => ?_))
                  have hT := hT.up ht_h0 g396 k395 ⟨_, _, _, _, _, _, _, _, _, _, _, _, _, _, _, _, _, _, _, _, _, _, _, _, _, _, _, _, rfl, ro26_0, ro26_1, (by omega), (by omega), (by decide), ro26_5, ro26_6, ro26_7, ro26_8, ro26_9, ro26_10, ro26_11, ro26_12, ro26_13⟩
                  have hR := hR.up ht_h0 (by decide) k395
                  refine lv_aload_n hx hb dX12_next_322 rfl (lv_at hl 0 rfl) ?_
                  refine lv_dup hx hb dX12_next_323 rfl ?_
                  obtain ⟨q397, eq397⟩ := tp_pos (tp_in hG ht_h0 (by decide)) g396
                  refine va_get (D := (dC, dI)) (ci := 12) (v := .int w360) (C := RX12) (T := TX12) (N := 53) hx hb hts hfX12 hown hK hP q397 eq397 rfl 11 (by decide) (hts (.fieldLink RX12 258 "ColdShipsModel" "to" "I") wa_1000) (fun _ h9 => h9) rfl dX12_next_324 ?_
                  refine lv_iconst (v := 1) hx hb dX12_next_327 (by decide) ?_
                  refine lv_iadd hx hb dX12_next_328 ?_
                  refine lv_topi (fun z398 ez398 => ?_)
                  have iz398 : z398.toInt = w360.toInt + 1 := zi_add ez398 rfl rfl (by omega) (by omega)
                  refine va_put (D := (dC, dI)) (ci := 12) (v := .int z398) (ty := .int) (C := RX12) (T := TX12) (N := 53) hx hb hts hfX12 tyX12 tyX12_ok nmX12 hown hK hP hD hS q397 eq397 rfl 11 (by decide) (hts (.fieldLink RX12 258 "ColdShipsModel" "to" "I") wa_1000) (fun _ h9 => h9) rfl (tyX12_ok 11 (by decide)) rfl rfl (Nat.le_of_ble_eq_true rfl) dX12_next_329 (tp_k (.inr (12, [.int o26_x0, .int o26_x1, .ref (ρ h0 2), .ref (ρ h0 3), .ref (ρ h0 4), .ref (ρ h0 5), .ref (ρ h0 6), .int o26_x7, .ref (ρ h0 8), .int o26_x9, .int w33, .int z398, .int 2, .long w361, .int o26_x14, .int o26_x15, .int o26_x16, .int o26_x17, .int o26_x18, .int o26_x19, .int o26_x20, .ref (ρ h0 21), .int o26_x22, .ref (ρ h0 23), .ref (ρ h0 24), .int o26_x25, .ref (ρ h0 26), .ref (ρ h0 27), .int o26_x28, .int o26_x29, .ref (ρ h0 30), .ref (ρ h0 31), .int o26_x32, .long o26_x33, .long o26_x34, .long o26_x35, .int o26_x36, .int o26_x37, .int o26_x38, .ref (ρ h0 39), .ref (ρ h0 40), .ref (ρ h0 41), .ref (ρ h0 42), .ref (ρ h0 43), .ref (ρ h0 44), .ref (ρ h0 45), .ref (ρ h0 46), .int o26_x47, .int o26_x48, .ref (ρ h0 49), .ref (ρ h0 50), .ref (ρ h0 51), .ref (ρ h0 52)])) hD (tp_in hG ht_h0 (by decide)) eq397 (fun f399 H locs hP hD hS g401 k400 => ?_))
                  have hT := hT.up ht_h0 g401 k400 ⟨_, _, _, _, _, _, _, _, _, _, _, _, _, _, _, _, _, _, _, _, _, _, _, _, _, _, _, _, rfl, ro26_0, ro26_1, (by omega), (by omega), (by decide), ro26_5, ro26_6, ro26_7, ro26_8, ro26_9, ro26_10, ro26_11, ro26_12, ro26_13⟩
                  have hR := hR.up ht_h0 (by decide) k400
                  refine lv_goto (tgt := 243) hx hb dX12_next_332 (by decide) ?_
                  have hf_402 : f394 (ρ h0 8) = .inl (κ 0, 400, .inl g28) := (k395 _ (tp_ne y6 ht_h0 (by decide))).trans hk364k
                  have hf_403 : f399 (ρ h0 8) = .inl (κ 0, 400, .inl g28) := (k400 _ (tp_ne y6 ht_h0 (by decide))).trans hf_402
                  exact ih368 _ _ _ _ (by rw [hn369]; omega) ⟨f399, z398, w361, rfl, hT, hR, hf_403, g401, (by omega), (by omega), (by omega), hP, hD, hS, lv_sub hl [0] rfl⟩
        · have ic295 : r293.toInt ≠ 0 := zi_eqf rfl rfl c295
          have p404 : 97 ≤ (z292.toInt) ∧ (z292.toInt) ≤ 122 := (tp_cond.yes hw294p) (by omega)
          refine lv_iconst (v := 1) hx hb dX12_next_90 (by decide) ?_
          refine lv_goto (tgt := 114) hx hb dX12_next_91 (by decide) ?_
          refine va_put (D := (dC, dI)) (ci := 12) (v := .int 1) (ty := .int) (C := RX12) (T := TX12) (N := 53) hx hb hts hfX12 tyX12 tyX12_ok nmX12 hown hK hP hD hS q287 eq287 rfl 12 (by decide) (hts (.fieldLink RX12 280 "ColdShipsModel" "sort" "I") wa_995) (fun _ h9 => h9) rfl (tyX12_ok 12 (by decide)) rfl rfl (Nat.le_of_ble_eq_true rfl) dX12_next_114 (tp_k (.inr (12, [.int o26_x0, .int o26_x1, .ref (ρ h0 2), .ref (ρ h0 3), .ref (ρ h0 4), .ref (ρ h0 5), .ref (ρ h0 6), .int o26_x7, .ref (ρ h0 8), .int o26_x9, .int w33, .int w33, .int 1, .long 0, .int o26_x14, .int o26_x15, .int o26_x16, .int o26_x17, .int o26_x18, .int o26_x19, .int o26_x20, .ref (ρ h0 21), .int o26_x22, .ref (ρ h0 23), .ref (ρ h0 24), .int o26_x25, .ref (ρ h0 26), .ref (ρ h0 27), .int o26_x28, .int o26_x29, .ref (ρ h0 30), .ref (ρ h0 31), .int o26_x32, .long o26_x33, .long o26_x34, .long o26_x35, .int o26_x36, .int o26_x37, .int o26_x38, .ref (ρ h0 39), .ref (ρ h0 40), .ref (ρ h0 41), .ref (ρ h0 42), .ref (ρ h0 43), .ref (ρ h0 44), .ref (ρ h0 45), .ref (ρ h0 46), .int o26_x47, .int o26_x48, .ref (ρ h0 49), .ref (ρ h0 50), .ref (ρ h0 51), .ref (ρ h0 52)])) hD (tp_in hG ht_h0 (by decide)) eq287 (fun f405 H locs hP hD hS g407 k406 => ?_))
          have hT := hT.up ht_h0 g407 k406 ⟨_, _, _, _, _, _, _, _, _, _, _, _, _, _, _, _, _, _, _, _, _, _, _, _, _, _, _, _, rfl, ro26_0, ro26_1, (by omega), (by omega), (by decide), ro26_5, ro26_6, ro26_7, ro26_8, ro26_9, ro26_10, ro26_11, ro26_12, ro26_13⟩
          have hR := hR.up ht_h0 (by decide) k406
          refine lv_aload_n hx hb dX12_next_117 rfl (lv_at hl 0 rfl) ?_
          obtain ⟨q408, eq408⟩ := tp_pos (tp_in hG ht_h0 (by decide)) g407
          refine va_get (D := (dC, dI)) (ci := 12) (v := .int 1) (C := RX12) (T := TX12) (N := 53) hx hb hts hfX12 hown hK hP q408 eq408 rfl 12 (by decide) (hts (.fieldLink RX12 280 "ColdShipsModel" "sort" "I") wa_995) (fun _ h9 => h9) rfl dX12_next_118 ?_
          refine lv_iconst (v := 3) hx hb dX12_next_121 (by decide) ?_
          refine lv_icmp_ne (tgt := 149) hx hb dX12_next_122 (by decide) (fun _ => ?_) (fun c9 => absurd c9 (by decide))
          have hf_415 : f405 (ρ h0 8) = .inl (κ 0, 400, .inl g28) := (k406 _ (tp_ne y6 ht_h0 (by decide))).trans hf_290
          refine pz_loop (fun n0 H locs ls => ∃ f418 : Nat → va_E, ∃ w409 : Int32, ∃ w410 : Int64, n0 = (400 - (w409.toInt)).toNat ∧ tp_T (mo_O κ) κ τ ν ρ f418 ∧ tp_F τ [13] f f418 ∧ f418 (ρ h0 8) = .inl (κ 0, 400, .inl g28) ∧ f418 h0 = .inr (12, [.int o26_x0, .int o26_x1, .ref (ρ h0 2), .ref (ρ h0 3), .ref (ρ h0 4), .ref (ρ h0 5), .ref (ρ h0 6), .int o26_x7, .ref (ρ h0 8), .int o26_x9, .int w33, .int w409, .int 1, .long w410, .int o26_x14, .int o26_x15, .int o26_x16, .int o26_x17, .int o26_x18, .int o26_x19, .int o26_x20, .ref (ρ h0 21), .int o26_x22, .ref (ρ h0 23), .ref (ρ h0 24), .int o26_x25, .ref (ρ h0 26), .ref (ρ h0 27), .int o26_x28, .int o26_x29, .ref (ρ h0 30), .ref (ρ h0 31), .int o26_x32, .long o26_x33, .long o26_x34, .long o26_x35, .int o26_x36, .int o26_x37, .int o26_x38, .ref (ρ h0 39), .ref (ρ h0 40), .ref (ρ h0 41), .ref (ρ h0 42), .ref (ρ h0 43), .ref (ρ h0 44), .ref (ρ h0 45), .ref (ρ h0 46), .int o26_x47, .int o26_x48, .ref (ρ h0 49), .ref (ρ h0 50), .ref (ρ h0 51), .ref (ρ h0 52)]) ∧ (0 ≤ w409.toInt ∧ w409.toInt ≤ 400) ∧ (w33.toInt ≤ (w409.toInt)) ∧ ((w409.toInt) ≤ o26_x9.toInt) ∧ (((w409.toInt) = w33.toInt → (w410.toInt) = 0)) ∧ (((w409.toInt) = w33.toInt + 1 → (w410.toInt) ≤ 26)) ∧ va_P (dC, dI) vwCl (va_pl L f418) H ∧ va_D A (va_pl L f418) ∧ va_S A s.heap H locs ∧ lv_has ls 1 [(0, .ref h0)]) ?_ _ _ _ _ ⟨f405, w33, 0, rfl, hT, hR, hf_415, g407, (by have : (0 : Int64).toInt = 0 := rfl; omega), (by have : (0 : Int64).toInt = 0 := rfl; omega), (by have : (0 : Int64).toInt = 0 := rfl; omega), (by have : (0 : Int64).toInt = 0 := rfl; omega), (by have : (0 : Int64).toInt = 0 := rfl; omega), hP, hD, hS, lv_sub hl [0] rfl⟩
          intro n0 H locs ls hI ih420
          obtain ⟨f418, w409, w410, hn421, hT, hR, hk416k, hk417k, rw409, k411, k412, k413, k414, hP, hD, hS, hl⟩ := hI
          refine lv_aload_n hx hb dX12_next_149 rfl (lv_at hl 0 rfl) ?_
          obtain ⟨q422, eq422⟩ := tp_pos (tp_in hG ht_h0 (by decide)) hk417k
          refine va_get (D := (dC, dI)) (ci := 12) (v := .int 1) (C := RX12) (T := TX12) (N := 53) hx hb hts hfX12 hown hK hP q422 eq422 rfl 12 (by decide) (hts (.fieldLink RX12 280 "ColdShipsModel" "sort" "I") wa_995) (fun _ h9 => h9) rfl dX12_next_150 ?_
          refine lv_iconst (v := 1) hx hb dX12_next_153 (by decide) ?_
          refine lv_icmp_ne (tgt := 243) hx hb dX12_next_154 (by decide) (fun c9 => absurd c9 (by decide)) (fun _ => ?_)
          refine lv_aload_n hx hb dX12_next_157 rfl (lv_at hl 0 rfl) ?_
          refine va_get (D := (dC, dI)) (ci := 12) (v := .int w409) (C := RX12) (T := TX12) (N := 53) hx hb hts hfX12 hown hK hP q422 eq422 rfl 11 (by decide) (hts (.fieldLink RX12 258 "ColdShipsModel" "to" "I") wa_1000) (fun _ h9 => h9) rfl dX12_next_158 ?_
          refine lv_aload_n hx hb dX12_next_161 rfl (lv_at hl 0 rfl) ?_
          refine va_get (D := (dC, dI)) (ci := 12) (v := .int o26_x9) (C := RX12) (T := TX12) (N := 53) hx hb hts hfX12 hown hK hP q422 eq422 rfl 9 (by decide) (hts (.fieldLink RX12 252 "ColdShipsModel" "taped" "I") wa_774) (fun _ h9 => h9) rfl dX12_next_162 ?_
          refine lv_icmp_ge (tgt := 243) hx hb dX12_next_165 (by decide) (fun c423 => ?_) (fun c423 => ?_)
          · have ic423 : w409.toInt ≥ o26_x9.toInt := zi_ge rfl rfl c423
            refine pz_loop (fun n0 H locs ls => ∃ f432 : Nat → va_E, ∃ w424 : Int32, ∃ w425 : Int64, n0 = (400 - (w424.toInt)).toNat ∧ tp_T (mo_O κ) κ τ ν ρ f432 ∧ tp_F τ [13] f f432 ∧ f432 (ρ h0 8) = .inl (κ 0, 400, .inl g28) ∧ f432 h0 = .inr (12, [.int o26_x0, .int o26_x1, .ref (ρ h0 2), .ref (ρ h0 3), .ref (ρ h0 4), .ref (ρ h0 5), .ref (ρ h0 6), .int o26_x7, .ref (ρ h0 8), .int o26_x9, .int w33, .int w424, .int 1, .long w425, .int o26_x14, .int o26_x15, .int o26_x16, .int o26_x17, .int o26_x18, .int o26_x19, .int o26_x20, .ref (ρ h0 21), .int o26_x22, .ref (ρ h0 23), .ref (ρ h0 24), .int o26_x25, .ref (ρ h0 26), .ref (ρ h0 27), .int o26_x28, .int o26_x29, .ref (ρ h0 30), .ref (ρ h0 31), .int o26_x32, .long o26_x33, .long o26_x34, .long o26_x35, .int o26_x36, .int o26_x37, .int o26_x38, .ref (ρ h0 39), .ref (ρ h0 40), .ref (ρ h0 41), .ref (ρ h0 42), .ref (ρ h0 43), .ref (ρ h0 44), .ref (ρ h0 45), .ref (ρ h0 46), .int o26_x47, .int o26_x48, .ref (ρ h0 49), .ref (ρ h0 50), .ref (ρ h0 51), .ref (ρ h0 52)]) ∧ (0 ≤ w424.toInt ∧ w424.toInt ≤ 400) ∧ (w33.toInt ≤ (w424.toInt)) ∧ ((w424.toInt) ≤ o26_x9.toInt) ∧ (w33.toInt < (w424.toInt)) ∧ (((w424.toInt) = w33.toInt + 1 → (w425.toInt) ≤ 26)) ∧ va_P (dC, dI) vwCl (va_pl L f432) H ∧ va_D A (va_pl L f432) ∧ va_S A s.heap H locs ∧ lv_has ls 1 [(0, .ref h0)]) ?_ _ _ _ _ ⟨f418, w409, w410, rfl, hT, hR, hk416k, hk417k, (by omega), (by omega), (by omega), (by omega), (by omega), hP, hD, hS, lv_sub hl [0] rfl⟩
            intro n0 H locs ls hI ih434
            obtain ⟨f432, w424, w425, hn435, hT, hR, hk430k, hk431k, rw424, k426, k427, k428, k429, hP, hD, hS, hl⟩ := hI
            refine lv_aload_n hx hb dX12_next_243 rfl (lv_at hl 0 rfl) ?_
            obtain ⟨q436, eq436⟩ := tp_pos (tp_in hG ht_h0 (by decide)) hk431k
            refine va_get (D := (dC, dI)) (ci := 12) (v := .int 1) (C := RX12) (T := TX12) (N := 53) hx hb hts hfX12 hown hK hP q436 eq436 rfl 12 (by decide) (hts (.fieldLink RX12 280 "ColdShipsModel" "sort" "I") wa_995) (fun _ h9 => h9) rfl dX12_next_244 ?_
            refine lv_iconst (v := 2) hx hb dX12_next_247 (by decide) ?_
            refine lv_icmp_ne (tgt := 335) hx hb dX12_next_248 (by decide) (fun _ => ?_) (fun c9 => absurd c9 (by decide))
            exact W.vret hx hb hr (fun t ht hW => ⟨⟨f432, rfl, ⟨hT, hR, (by simp only [hk431k, hf_o26, mo_i1, mo_l1]; exact (show (w33.toInt ≤ w424.toInt ∧ w424.toInt ≤ o26_x9.toInt ∧ (1 = 0 ∨ w33.toInt < w424.toInt) ∧ (1 = 1 → w424.toInt = w33.toInt + 1 → w425.toInt ≤ 26)) ∧ o26_x11.toInt ≤ w33.toInt ∧ o26_x9.toInt = o26_x9.toInt ∧ o26_x15.toInt = o26_x15.toInt ∧ o26_x19.toInt = o26_x19.toInt ∧ o26_x20.toInt = o26_x20.toInt ∧ o26_x22.toInt = o26_x22.toInt ∧ o26_x28.toInt = o26_x28.toInt from by first | omega | decide))⟩, by rw [ht]; exact hP, va_K.moved hW.alike hK, hD⟩, hS.F ht⟩) hS.2.2 dX12_next_335
          · have ic423 : w409.toInt < o26_x9.toInt := zi_gef rfl rfl c423
            refine lv_aload_n hx hb dX12_next_168 rfl (lv_at hl 0 rfl) ?_
            refine va_get (D := (dC, dI)) (ci := 12) (v := .ref (ρ h0 8)) (C := RX12) (T := TX12) (N := 53) hx hb hts hfX12 hown hK hP q422 eq422 rfl 8 (by decide) (hts (.fieldLink RX12 27 "ColdShipsModel" "tape" "[I") wa_154) (fun _ h9 => h9) rfl dX12_next_169 ?_
            refine lv_aload_n hx hb dX12_next_172 rfl (lv_at hl 0 rfl) ?_
            refine va_get (D := (dC, dI)) (ci := 12) (v := .int w409) (C := RX12) (T := TX12) (N := 53) hx hb hts hfX12 hown hK hP q422 eq422 rfl 11 (by decide) (hts (.fieldLink RX12 258 "ColdShipsModel" "to" "I") wa_1000) (fun _ h9 => h9) rfl dX12_next_173 ?_
            obtain ⟨q437, eq437⟩ := tp_pos (tp_in hG y6 (by decide)) hk416k
            refine va_iald hx hb hK hP q437 0 eq437 rfl (vp_in_iff.mpr ⟨by omega, by omega⟩) dX12_next_176 ?_
            refine lv_topi (fun z438 ez438 => ?_)
            have jz438 : z438.toInt = mo_R g28 w409.toInt := mo_rd ez438 (by omega)
            have hz438q := fun (q9 : w409.toInt = w33.toInt) => congrArg (mo_R g28) q9
            refine pz_calli (va_runS (As := [.int z438]) (rest := []) ⟨hx, hb, hml, hown, hts⟩ (t_X12_isSmall l dC dI _ z438 (z438.toInt) rfl) (va_cwS 1 hts gX12_next_X12_isSmall rfl rfl rfl pd_X12_isSmall ⟨Nat.le_of_ble_eq_true rfl, Nat.le_of_ble_eq_true rfl⟩) ⟨pz_blind, pz_pre pz_P0 (hK.sub (tys' := []) [] rfl) (pz_D0 (A := fun _ => True)) hN⟩ rfl rfl hl.1 rfl (lv_room (Nat.le_of_ble_eq_true rfl)) dX12_next_177 ⟨Nat.le_of_ble_eq_true rfl, Nat.le_of_ble_eq_true rfl⟩) (fun r439 hw440 => ?_)
            obtain ⟨hw440r, hw440p⟩ := hw440
            refine lv_if_eq (tgt := 243) hx hb dX12_next_180 (by decide) (fun c441 => ?_) (fun c441 => ?_)
            · have ic441 : r439.toInt = 0 := zi_eq rfl rfl c441
              have p442 : ¬ (97 ≤ (z438.toInt) ∧ (z438.toInt) ≤ 122) := (tp_cond.no hw440p) (by omega)
              refine pz_loop (fun n0 H locs ls => ∃ f451 : Nat → va_E, ∃ w443 : Int32, ∃ w444 : Int64, n0 = (400 - (w443.toInt)).toNat ∧ tp_T (mo_O κ) κ τ ν ρ f451 ∧ tp_F τ [13] f f451 ∧ f451 (ρ h0 8) = .inl (κ 0, 400, .inl g28) ∧ f451 h0 = .inr (12, [.int o26_x0, .int o26_x1, .ref (ρ h0 2), .ref (ρ h0 3), .ref (ρ h0 4), .ref (ρ h0 5), .ref (ρ h0 6), .int o26_x7, .ref (ρ h0 8), .int o26_x9, .int w33, .int w443, .int 1, .long w444, .int o26_x14, .int o26_x15, .int o26_x16, .int o26_x17, .int o26_x18, .int o26_x19, .int o26_x20, .ref (ρ h0 21), .int o26_x22, .ref (ρ h0 23), .ref (ρ h0 24), .int o26_x25, .ref (ρ h0 26), .ref (ρ h0 27), .int o26_x28, .int o26_x29, .ref (ρ h0 30), .ref (ρ h0 31), .int o26_x32, .long o26_x33, .long o26_x34, .long o26_x35, .int o26_x36, .int o26_x37, .int o26_x38, .ref (ρ h0 39), .ref (ρ h0 40), .ref (ρ h0 41), .ref (ρ h0 42), .ref (ρ h0 43), .ref (ρ h0 44), .ref (ρ h0 45), .ref (ρ h0 46), .int o26_x47, .int o26_x48, .ref (ρ h0 49), .ref (ρ h0 50), .ref (ρ h0 51), .ref (ρ h0 52)]) ∧ (0 ≤ w443.toInt ∧ w443.toInt ≤ 400) ∧ (w33.toInt ≤ (w443.toInt)) ∧ ((w443.toInt) ≤ o26_x9.toInt) ∧ (w33.toInt < (w443.toInt)) ∧ (((w443.toInt) = w33.toInt + 1 → (w444.toInt) ≤ 26)) ∧ va_P (dC, dI) vwCl (va_pl L f451) H ∧ va_D A (va_pl L f451) ∧ va_S A s.heap H locs ∧ lv_has ls 1 [(0, .ref h0)]) ?_ _ _ _ _ ⟨f418, w409, w410, rfl, hT, hR, hk416k, hk417k, (by omega), (by omega), (by omega), (by omega), (by omega), hP, hD, hS, lv_sub hl [0] rfl⟩
              intro n0 H locs ls hI ih453
              obtain ⟨f451, w443, w444, hn454, hT, hR, hk449k, hk450k, rw443, k445, k446, k447, k448, hP, hD, hS, hl⟩ := hI
              refine lv_aload_n hx hb dX12_next_243 rfl (lv_at hl 0 rfl) ?_
              obtain ⟨q455, eq455⟩ := tp_pos (tp_in hG ht_h0 (by decide)) hk450k
              refine va_get (D := (dC, dI)) (ci := 12) (v := .int 1) (C := RX12) (T := TX12) (N := 53) hx hb hts hfX12 hown hK hP q455 eq455 rfl 12 (by decide) (hts (.fieldLink RX12 280 "ColdShipsModel" "sort" "I") wa_995) (fun _ h9 => h9) rfl dX12_next_244 ?_
              refine lv_iconst (v := 2) hx hb dX12_next_247 (by decide) ?_
              refine lv_icmp_ne (tgt := 335) hx hb dX12_next_248 (by decide) (fun _ => ?_) (fun c9 => absurd c9 (by decide))
              exact W.vret hx hb hr (fun t ht hW => ⟨⟨f451, rfl, ⟨hT, hR, (by simp only [hk450k, hf_o26, mo_i1, mo_l1]; exact (show (w33.toInt ≤ w443.toInt ∧ w443.toInt ≤ o26_x9.toInt ∧ (1 = 0 ∨ w33.toInt < w443.toInt) ∧ (1 = 1 → w443.toInt = w33.toInt + 1 → w444.toInt ≤ 26)) ∧ o26_x11.toInt ≤ w33.toInt ∧ o26_x9.toInt = o26_x9.toInt ∧ o26_x15.toInt = o26_x15.toInt ∧ o26_x19.toInt = o26_x19.toInt ∧ o26_x20.toInt = o26_x20.toInt ∧ o26_x22.toInt = o26_x22.toInt ∧ o26_x28.toInt = o26_x28.toInt from by first | omega | decide))⟩, by rw [ht]; exact hP, va_K.moved hW.alike hK, hD⟩, hS.F ht⟩) hS.2.2 dX12_next_335
            · have ic441 : r439.toInt ≠ 0 := zi_eqf rfl rfl c441
              have p456 : 97 ≤ (z438.toInt) ∧ (z438.toInt) ≤ 122 := (tp_cond.yes hw440p) (by omega)
              refine lv_aload_n hx hb dX12_next_183 rfl (lv_at hl 0 rfl) ?_
              refine lv_aload_n hx hb dX12_next_184 rfl (lv_at hl 0 rfl) ?_
              refine va_get (D := (dC, dI)) (ci := 12) (v := .int w409) (C := RX12) (T := TX12) (N := 53) hx hb hts hfX12 hown hK hP q422 eq422 rfl 11 (by decide) (hts (.fieldLink RX12 258 "ColdShipsModel" "to" "I") wa_1000) (fun _ h9 => h9) rfl dX12_next_185 ?_
              refine lv_aload_n hx hb dX12_next_188 rfl (lv_at hl 0 rfl) ?_
              refine va_get (D := (dC, dI)) (ci := 12) (v := .int w33) (C := RX12) (T := TX12) (N := 53) hx hb hts hfX12 hown hK hP q422 eq422 rfl 10 (by decide) (hts (.fieldLink RX12 267 "ColdShipsModel" "from" "I") wa_1005) (fun _ h9 => h9) rfl dX12_next_189 ?_
              refine lv_isub hx hb dX12_next_192 ?_
              refine lv_topi (fun z457 ez457 => ?_)
              have iz457 : z457.toInt = w409.toInt - w33.toInt := zi_sub ez457 rfl rfl (by omega) (by omega)
              refine lv_bipush (v := 10) hx hb dX12_next_193 (by decide) ?_
              refine lv_icmp_ge (tgt := 224) hx hb dX12_next_195 (by decide) (fun c458 => ?_) (fun c458 => ?_)
              · have ic458 : z457.toInt ≥ 10 := zi_ge rfl rfl c458
                refine lv_ldc2 (own := RX12) (v := (-1)) hx hb hown (hts (.constantLong RX12 158 (-1)) wa_557) dX12_next_224 ?_
                refine va_put (D := (dC, dI)) (ci := 12) (v := .long (-1)) (ty := .long) (C := RX12) (T := TX12) (N := 53) hx hb hts hfX12 tyX12 tyX12_ok nmX12 hown hK hP hD hS q422 eq422 rfl 13 (by decide) (hts (.fieldLink RX12 270 "ColdShipsModel" "worth" "J") wa_1006) (fun _ h9 => h9) rfl (tyX12_ok 13 (by decide)) rfl rfl (Nat.le_of_ble_eq_true rfl) dX12_next_227 (tp_k (.inr (12, [.int o26_x0, .int o26_x1, .ref (ρ h0 2), .ref (ρ h0 3), .ref (ρ h0 4), .ref (ρ h0 5), .ref (ρ h0 6), .int o26_x7, .ref (ρ h0 8), .int o26_x9, .int w33, .int w409, .int 1, .long (-1), .int o26_x14, .int o26_x15, .int o26_x16, .int o26_x17, .int o26_x18, .int o26_x19, .int o26_x20, .ref (ρ h0 21), .int o26_x22, .ref (ρ h0 23), .ref (ρ h0 24), .int o26_x25, .ref (ρ h0 26), .ref (ρ h0 27), .int o26_x28, .int o26_x29, .ref (ρ h0 30), .ref (ρ h0 31), .int o26_x32, .long o26_x33, .long o26_x34, .long o26_x35, .int o26_x36, .int o26_x37, .int o26_x38, .ref (ρ h0 39), .ref (ρ h0 40), .ref (ρ h0 41), .ref (ρ h0 42), .ref (ρ h0 43), .ref (ρ h0 44), .ref (ρ h0 45), .ref (ρ h0 46), .int o26_x47, .int o26_x48, .ref (ρ h0 49), .ref (ρ h0 50), .ref (ρ h0 51), .ref (ρ h0 52)])) hD (tp_in hG ht_h0 (by decide)) eq422 (fun f459 H locs hP hD hS g461 k460 => ?_))
                have hT := hT.up ht_h0 g461 k460 ⟨_, _, _, _, _, _, _, _, _, _, _, _, _, _, _, _, _, _, _, _, _, _, _, _, _, _, _, _, rfl, ro26_0, ro26_1, (by omega), (by omega), (by decide), ro26_5, ro26_6, ro26_7, ro26_8, ro26_9, ro26_10, ro26_11, ro26_12, ro26_13⟩
                have hR := hR.up ht_h0 (by decide) k460
                refine lv_aload_n hx hb dX12_next_230 rfl (lv_at hl 0 rfl) ?_
                refine lv_dup hx hb dX12_next_231 rfl ?_
                obtain ⟨q462, eq462⟩ := tp_pos (tp_in hG ht_h0 (by decide)) g461
                refine va_get (D := (dC, dI)) (ci := 12) (v := .int w409) (C := RX12) (T := TX12) (N := 53) hx hb hts hfX12 hown hK hP q462 eq462 rfl 11 (by decide) (hts (.fieldLink RX12 258 "ColdShipsModel" "to" "I") wa_1000) (fun _ h9 => h9) rfl dX12_next_232 ?_
                refine lv_iconst (v := 1) hx hb dX12_next_235 (by decide) ?_
                refine lv_iadd hx hb dX12_next_236 ?_
                refine lv_topi (fun z463 ez463 => ?_)
                have iz463 : z463.toInt = w409.toInt + 1 := zi_add ez463 rfl rfl (by omega) (by omega)
                refine va_put (D := (dC, dI)) (ci := 12) (v := .int z463) (ty := .int) (C := RX12) (T := TX12) (N := 53) hx hb hts hfX12 tyX12 tyX12_ok nmX12 hown hK hP hD hS q462 eq462 rfl 11 (by decide) (hts (.fieldLink RX12 258 "ColdShipsModel" "to" "I") wa_1000) (fun _ h9 => h9) rfl (tyX12_ok 11 (by decide)) rfl rfl (Nat.le_of_ble_eq_true rfl) dX12_next_237 (tp_k (.inr (12, [.int o26_x0, .int o26_x1, .ref (ρ h0 2), .ref (ρ h0 3), .ref (ρ h0 4), .ref (ρ h0 5), .ref (ρ h0 6), .int o26_x7, .ref (ρ h0 8), .int o26_x9, .int w33, .int z463, .int 1, .long (-1), .int o26_x14, .int o26_x15, .int o26_x16, .int o26_x17, .int o26_x18, .int o26_x19, .int o26_x20, .ref (ρ h0 21), .int o26_x22, .ref (ρ h0 23), .ref (ρ h0 24), .int o26_x25, .ref (ρ h0 26), .ref (ρ h0 27), .int o26_x28, .int o26_x29, .ref (ρ h0 30), .ref (ρ h0 31), .int o26_x32, .long o26_x33, .long o26_x34, .long o26_x35, .int o26_x36, .int o26_x37, .int o26_x38, .ref (ρ h0 39), .ref (ρ h0 40), .ref (ρ h0 41), .ref (ρ h0 42), .ref (ρ h0 43), .ref (ρ h0 44), .ref (ρ h0 45), .ref (ρ h0 46), .int o26_x47, .int o26_x48, .ref (ρ h0 49), .ref (ρ h0 50), .ref (ρ h0 51), .ref (ρ h0 52)])) hD (tp_in hG ht_h0 (by decide)) eq462 (fun f464 H locs hP hD hS g466 k465 => ?_))
                have hT := hT.up ht_h0 g466 k465 ⟨_, _, _, _, _, _, _, _, _, _, _, _, _, _, _, _, _, _, _, _, _, _, _, _, _, _, _, _, rfl, ro26_0, ro26_1, (by omega), (by omega), (by decide), ro26_5, ro26_6, ro26_7, ro26_8, ro26_9, ro26_10, ro26_11, ro26_12, ro26_13⟩
                have hR := hR.up ht_h0 (by decide) k465
                refine lv_goto (tgt := 149) hx hb dX12_next_240 (by decide) ?_
                have hf_467 : f459 (ρ h0 8) = .inl (κ 0, 400, .inl g28) := (k460 _ (tp_ne y6 ht_h0 (by decide))).trans hk416k
                have hf_468 : f464 (ρ h0 8) = .inl (κ 0, 400, .inl g28) := (k465 _ (tp_ne y6 ht_h0 (by decide))).trans hf_467
                exact ih420 _ _ _ _ (by rw [hn421]; omega) ⟨f464, z463, (-1), rfl, hT, hR, hf_468, g466, (by have : ((-1) : Int64).toInt = (-1) := rfl; omega), (by have : ((-1) : Int64).toInt = (-1) := rfl; omega), (by have : ((-1) : Int64).toInt = (-1) := rfl; omega), (by have : ((-1) : Int64).toInt = (-1) := rfl; omega), (by have : ((-1) : Int64).toInt = (-1) := rfl; omega), hP, hD, hS, lv_sub hl [0] rfl⟩
              · have ic458 : z457.toInt < 10 := zi_gef rfl rfl c458
                refine lv_aload_n hx hb dX12_next_198 rfl (lv_at hl 0 rfl) ?_
                refine va_get (D := (dC, dI)) (ci := 12) (v := .long w410) (C := RX12) (T := TX12) (N := 53) hx hb hts hfX12 hown hK hP q422 eq422 rfl 13 (by decide) (hts (.fieldLink RX12 270 "ColdShipsModel" "worth" "J") wa_1006) (fun _ h9 => h9) rfl dX12_next_199 ?_
                refine lv_ldc2 (own := RX12) (v := 32) hx hb hown (hts (.constantLong RX12 283 (32)) wa_1007) dX12_next_202 ?_
                refine lv_lmul hx hb dX12_next_205 ?_
                refine lv_topl (fun z469 ez469 => ?_)
                refine lv_aload_n hx hb dX12_next_206 rfl (lv_at hl 0 rfl) ?_
                refine va_get (D := (dC, dI)) (ci := 12) (v := .ref (ρ h0 8)) (C := RX12) (T := TX12) (N := 53) hx hb hts hfX12 hown hK hP q422 eq422 rfl 8 (by decide) (hts (.fieldLink RX12 27 "ColdShipsModel" "tape" "[I") wa_154) (fun _ h9 => h9) rfl dX12_next_207 ?_
                refine lv_aload_n hx hb dX12_next_210 rfl (lv_at hl 0 rfl) ?_
                refine va_get (D := (dC, dI)) (ci := 12) (v := .int w409) (C := RX12) (T := TX12) (N := 53) hx hb hts hfX12 hown hK hP q422 eq422 rfl 11 (by decide) (hts (.fieldLink RX12 258 "ColdShipsModel" "to" "I") wa_1000) (fun _ h9 => h9) rfl dX12_next_211 ?_
                refine va_iald hx hb hK hP q437 0 eq437 rfl (vp_in_iff.mpr ⟨by omega, by omega⟩) dX12_next_214 ?_
                refine lv_topi (fun z470 ez470 => ?_)
                have jz470 : z470.toInt = mo_R g28 w409.toInt := mo_rd ez470 (by omega)
                have hz470q := fun (q9 : w409.toInt = w33.toInt) => congrArg (mo_R g28) q9
                refine lv_i2l hx hb dX12_next_215 rfl ?_
                refine lv_ladd hx hb dX12_next_216 ?_
                refine lv_topl (fun z471 ez471 => ?_)
                refine lv_ldc2 (own := RX12) (v := 96) hx hb hown (hts (.constantLong RX12 285 (96)) wa_1008) dX12_next_217 ?_
                refine lv_lsub hx hb dX12_next_220 ?_
                refine lv_topl (fun z472 ez472 => ?_)
                have hw1 : w409.toInt = w33.toInt → z472.toInt ≤ 26 := fun q9 => by have q8 := zl_w0 ez469 ez471 ez472 (by omega) (Int32.toInt_toInt64 z470) (by omega) (by omega); omega
                refine lv_goto (tgt := 227) hx hb dX12_next_221 (by decide) ?_
                refine va_put (D := (dC, dI)) (ci := 12) (v := .long z472) (ty := .long) (C := RX12) (T := TX12) (N := 53) hx hb hts hfX12 tyX12 tyX12_ok nmX12 hown hK hP hD hS q422 eq422 rfl 13 (by decide) (hts (.fieldLink RX12 270 "ColdShipsModel" "worth" "J") wa_1006) (fun _ h9 => h9) rfl (tyX12_ok 13 (by decide)) rfl rfl (Nat.le_of_ble_eq_true rfl) dX12_next_227 (tp_k (.inr (12, [.int o26_x0, .int o26_x1, .ref (ρ h0 2), .ref (ρ h0 3), .ref (ρ h0 4), .ref (ρ h0 5), .ref (ρ h0 6), .int o26_x7, .ref (ρ h0 8), .int o26_x9, .int w33, .int w409, .int 1, .long z472, .int o26_x14, .int o26_x15, .int o26_x16, .int o26_x17, .int o26_x18, .int o26_x19, .int o26_x20, .ref (ρ h0 21), .int o26_x22, .ref (ρ h0 23), .ref (ρ h0 24), .int o26_x25, .ref (ρ h0 26), .ref (ρ h0 27), .int o26_x28, .int o26_x29, .ref (ρ h0 30), .ref (ρ h0 31), .int o26_x32, .long o26_x33, .long o26_x34, .long o26_x35, .int o26_x36, .int o26_x37, .int o26_x38, .ref (ρ h0 39), .ref (ρ h0 40), .ref (ρ h0 41), .ref (ρ h0 42), .ref (ρ h0 43), .ref (ρ h0 44), .ref (ρ h0 45), .ref (ρ h0 46), .int o26_x47, .int o26_x48, .ref (ρ h0 49), .ref (ρ h0 50), .ref (ρ h0 51), .ref (ρ h0 52)])) hD (tp_in hG ht_h0 (by decide)) eq422 (fun f473 H locs hP hD hS g475 k474 => ?_))
                have hT := hT.up ht_h0 g475 k474 ⟨_, _, _, _, _, _, _, _, _, _, _, _, _, _, _, _, _, _, _, _, _, _, _, _, _, _, _, _, rfl, ro26_0, ro26_1, (by omega), (by omega), (by decide), ro26_5, ro26_6, ro26_7, ro26_8, ro26_9, ro26_10, ro26_11, ro26_12, ro26_13⟩
                have hR := hR.up ht_h0 (by decide) k474
                refine lv_aload_n hx hb dX12_next_230 rfl (lv_at hl 0 rfl) ?_
                refine lv_dup hx hb dX12_next_231 rfl ?_
                obtain ⟨q476, eq476⟩ := tp_pos (tp_in hG ht_h0 (by decide)) g475
                refine va_get (D := (dC, dI)) (ci := 12) (v := .int w409) (C := RX12) (T := TX12) (N := 53) hx hb hts hfX12 hown hK hP q476 eq476 rfl 11 (by decide) (hts (.fieldLink RX12 258 "ColdShipsModel" "to" "I") wa_1000) (fun _ h9 => h9) rfl dX12_next_232 ?_
                refine lv_iconst (v := 1) hx hb dX12_next_235 (by decide) ?_
                refine lv_iadd hx hb dX12_next_236 ?_
                refine lv_topi (fun z477 ez477 => ?_)
                have iz477 : z477.toInt = w409.toInt + 1 := zi_add ez477 rfl rfl (by omega) (by omega)
                refine va_put (D := (dC, dI)) (ci := 12) (v := .int z477) (ty := .int) (C := RX12) (T := TX12) (N := 53) hx hb hts hfX12 tyX12 tyX12_ok nmX12 hown hK hP hD hS q476 eq476 rfl 11 (by decide) (hts (.fieldLink RX12 258 "ColdShipsModel" "to" "I") wa_1000) (fun _ h9 => h9) rfl (tyX12_ok 11 (by decide)) rfl rfl (Nat.le_of_ble_eq_true rfl) dX12_next_237 (tp_k (.inr (12, [.int o26_x0, .int o26_x1, .ref (ρ h0 2), .ref (ρ h0 3), .ref (ρ h0 4), .ref (ρ h0 5), .ref (ρ h0 6), .int o26_x7, .ref (ρ h0 8), .int o26_x9, .int w33, .int z477, .int 1, .long z472, .int o26_x14, .int o26_x15, .int o26_x16, .int o26_x17, .int o26_x18, .int o26_x19, .int o26_x20, .ref (ρ h0 21), .int o26_x22, .ref (ρ h0 23), .ref (ρ h0 24), .int o26_x25, .ref (ρ h0 26), .ref (ρ h0 27), .int o26_x28, .int o26_x29, .ref (ρ h0 30), .ref (ρ h0 31), .int o26_x32, .long o26_x33, .long o26_x34, .long o26_x35, .int o26_x36, .int o26_x37, .int o26_x38, .ref (ρ h0 39), .ref (ρ h0 40), .ref (ρ h0 41), .ref (ρ h0 42), .ref (ρ h0 43), .ref (ρ h0 44), .ref (ρ h0 45), .ref (ρ h0 46), .int o26_x47, .int o26_x48, .ref (ρ h0 49), .ref (ρ h0 50), .ref (ρ h0 51), .ref (ρ h0 52)])) hD (tp_in hG ht_h0 (by decide)) eq476 (fun f478 H locs hP hD hS g480 k479 => ?_))
                have hT := hT.up ht_h0 g480 k479 ⟨_, _, _, _, _, _, _, _, _, _, _, _, _, _, _, _, _, _, _, _, _, _, _, _, _, _, _, _, rfl, ro26_0, ro26_1, (by omega), (by omega), (by decide), ro26_5, ro26_6, ro26_7, ro26_8, ro26_9, ro26_10, ro26_11, ro26_12, ro26_13⟩
                have hR := hR.up ht_h0 (by decide) k479
                refine lv_goto (tgt := 149) hx hb dX12_next_240 (by decide) ?_
                have hf_481 : f473 (ρ h0 8) = .inl (κ 0, 400, .inl g28) := (k474 _ (tp_ne y6 ht_h0 (by decide))).trans hk416k
                have hf_482 : f478 (ρ h0 8) = .inl (κ 0, 400, .inl g28) := (k479 _ (tp_ne y6 ht_h0 (by decide))).trans hf_481
                exact ih420 _ _ _ _ (by rw [hn421]; omega) ⟨f478, z477, z472, rfl, hT, hR, hf_482, g480, (by omega), (by omega), (by omega), (by omega), (by omega), hP, hD, hS, lv_sub hl [0] rfl⟩
      · have ic288 : w33.toInt = o26_x9.toInt := zi_nef rfl rfl c288
        refine lv_iconst (v := 0) hx hb dX12_next_71 (by decide) ?_
        refine lv_goto (tgt := 114) hx hb dX12_next_72 (by decide) ?_
        refine va_put (D := (dC, dI)) (ci := 12) (v := .int 0) (ty := .int) (C := RX12) (T := TX12) (N := 53) hx hb hts hfX12 tyX12 tyX12_ok nmX12 hown hK hP hD hS q287 eq287 rfl 12 (by decide) (hts (.fieldLink RX12 280 "ColdShipsModel" "sort" "I") wa_995) (fun _ h9 => h9) rfl (tyX12_ok 12 (by decide)) rfl rfl (Nat.le_of_ble_eq_true rfl) dX12_next_114 (tp_k (.inr (12, [.int o26_x0, .int o26_x1, .ref (ρ h0 2), .ref (ρ h0 3), .ref (ρ h0 4), .ref (ρ h0 5), .ref (ρ h0 6), .int o26_x7, .ref (ρ h0 8), .int o26_x9, .int w33, .int w33, .int 0, .long 0, .int o26_x14, .int o26_x15, .int o26_x16, .int o26_x17, .int o26_x18, .int o26_x19, .int o26_x20, .ref (ρ h0 21), .int o26_x22, .ref (ρ h0 23), .ref (ρ h0 24), .int o26_x25, .ref (ρ h0 26), .ref (ρ h0 27), .int o26_x28, .int o26_x29, .ref (ρ h0 30), .ref (ρ h0 31), .int o26_x32, .long o26_x33, .long o26_x34, .long o26_x35, .int o26_x36, .int o26_x37, .int o26_x38, .ref (ρ h0 39), .ref (ρ h0 40), .ref (ρ h0 41), .ref (ρ h0 42), .ref (ρ h0 43), .ref (ρ h0 44), .ref (ρ h0 45), .ref (ρ h0 46), .int o26_x47, .int o26_x48, .ref (ρ h0 49), .ref (ρ h0 50), .ref (ρ h0 51), .ref (ρ h0 52)])) hD (tp_in hG ht_h0 (by decide)) eq287 (fun f483 H locs hP hD hS g485 k484 => ?_))
        have hT := hT.up ht_h0 g485 k484 ⟨_, _, _, _, _, _, _, _, _, _, _, _, _, _, _, _, _, _, _, _, _, _, _, _, _, _, _, _, rfl, ro26_0, ro26_1, (by omega), (by omega), (by decide), ro26_5, ro26_6, ro26_7, ro26_8, ro26_9, ro26_10, ro26_11, ro26_12, ro26_13⟩
        have hR := hR.up ht_h0 (by decide) k484
        refine lv_aload_n hx hb dX12_next_117 rfl (lv_at hl 0 rfl) ?_
        obtain ⟨q486, eq486⟩ := tp_pos (tp_in hG ht_h0 (by decide)) g485
        refine va_get (D := (dC, dI)) (ci := 12) (v := .int 0) (C := RX12) (T := TX12) (N := 53) hx hb hts hfX12 hown hK hP q486 eq486 rfl 12 (by decide) (hts (.fieldLink RX12 280 "ColdShipsModel" "sort" "I") wa_995) (fun _ h9 => h9) rfl dX12_next_118 ?_
        refine lv_iconst (v := 3) hx hb dX12_next_121 (by decide) ?_
        refine lv_icmp_ne (tgt := 149) hx hb dX12_next_122 (by decide) (fun _ => ?_) (fun c9 => absurd c9 (by decide))
        have hf_491 : f280 (ρ h0 8) = .inl (κ 0, 400, .inl g28) := (k281 _ (tp_ne y6 ht_h0 (by decide))).trans hk37k
        have hf_492 : f284 (ρ h0 8) = .inl (κ 0, 400, .inl g28) := (k285 _ (tp_ne y6 ht_h0 (by decide))).trans hf_491
        have hf_493 : f483 (ρ h0 8) = .inl (κ 0, 400, .inl g28) := (k484 _ (tp_ne y6 ht_h0 (by decide))).trans hf_492
        refine pz_loop (fun n0 H locs ls => ∃ f496 : Nat → va_E, ∃ w487 : Int32, ∃ w488 : Int64, n0 = (400 - (w487.toInt)).toNat ∧ tp_T (mo_O κ) κ τ ν ρ f496 ∧ tp_F τ [13] f f496 ∧ f496 (ρ h0 8) = .inl (κ 0, 400, .inl g28) ∧ f496 h0 = .inr (12, [.int o26_x0, .int o26_x1, .ref (ρ h0 2), .ref (ρ h0 3), .ref (ρ h0 4), .ref (ρ h0 5), .ref (ρ h0 6), .int o26_x7, .ref (ρ h0 8), .int o26_x9, .int w33, .int w487, .int 0, .long w488, .int o26_x14, .int o26_x15, .int o26_x16, .int o26_x17, .int o26_x18, .int o26_x19, .int o26_x20, .ref (ρ h0 21), .int o26_x22, .ref (ρ h0 23), .ref (ρ h0 24), .int o26_x25, .ref (ρ h0 26), .ref (ρ h0 27), .int o26_x28, .int o26_x29, .ref (ρ h0 30), .ref (ρ h0 31), .int o26_x32, .long o26_x33, .long o26_x34, .long o26_x35, .int o26_x36, .int o26_x37, .int o26_x38, .ref (ρ h0 39), .ref (ρ h0 40), .ref (ρ h0 41), .ref (ρ h0 42), .ref (ρ h0 43), .ref (ρ h0 44), .ref (ρ h0 45), .ref (ρ h0 46), .int o26_x47, .int o26_x48, .ref (ρ h0 49), .ref (ρ h0 50), .ref (ρ h0 51), .ref (ρ h0 52)]) ∧ (0 ≤ w487.toInt ∧ w487.toInt ≤ 400) ∧ (w33.toInt ≤ (w487.toInt)) ∧ ((w487.toInt) ≤ o26_x9.toInt) ∧ va_P (dC, dI) vwCl (va_pl L f496) H ∧ va_D A (va_pl L f496) ∧ va_S A s.heap H locs ∧ lv_has ls 1 [(0, .ref h0)]) ?_ _ _ _ _ ⟨f483, w33, 0, rfl, hT, hR, hf_493, g485, (by have : (0 : Int64).toInt = 0 := rfl; omega), (by have : (0 : Int64).toInt = 0 := rfl; omega), (by have : (0 : Int64).toInt = 0 := rfl; omega), hP, hD, hS, lv_sub hl [0] rfl⟩
        intro n0 H locs ls hI ih498
        obtain ⟨f496, w487, w488, hn499, hT, hR, hk494k, hk495k, rw487, k489, k490, hP, hD, hS, hl⟩ := hI
        refine lv_aload_n hx hb dX12_next_149 rfl (lv_at hl 0 rfl) ?_
        obtain ⟨q500, eq500⟩ := tp_pos (tp_in hG ht_h0 (by decide)) hk495k
        refine va_get (D := (dC, dI)) (ci := 12) (v := .int 0) (C := RX12) (T := TX12) (N := 53) hx hb hts hfX12 hown hK hP q500 eq500 rfl 12 (by decide) (hts (.fieldLink RX12 280 "ColdShipsModel" "sort" "I") wa_995) (fun _ h9 => h9) rfl dX12_next_150 ?_
        refine lv_iconst (v := 1) hx hb dX12_next_153 (by decide) ?_
        refine lv_icmp_ne (tgt := 243) hx hb dX12_next_154 (by decide) (fun _ => ?_) (fun c9 => absurd c9 (by decide))
        refine pz_loop (fun n0 H locs ls => ∃ f507 : Nat → va_E, ∃ w501 : Int32, ∃ w502 : Int64, n0 = (400 - (w501.toInt)).toNat ∧ tp_T (mo_O κ) κ τ ν ρ f507 ∧ tp_F τ [13] f f507 ∧ f507 (ρ h0 8) = .inl (κ 0, 400, .inl g28) ∧ f507 h0 = .inr (12, [.int o26_x0, .int o26_x1, .ref (ρ h0 2), .ref (ρ h0 3), .ref (ρ h0 4), .ref (ρ h0 5), .ref (ρ h0 6), .int o26_x7, .ref (ρ h0 8), .int o26_x9, .int w33, .int w501, .int 0, .long w502, .int o26_x14, .int o26_x15, .int o26_x16, .int o26_x17, .int o26_x18, .int o26_x19, .int o26_x20, .ref (ρ h0 21), .int o26_x22, .ref (ρ h0 23), .ref (ρ h0 24), .int o26_x25, .ref (ρ h0 26), .ref (ρ h0 27), .int o26_x28, .int o26_x29, .ref (ρ h0 30), .ref (ρ h0 31), .int o26_x32, .long o26_x33, .long o26_x34, .long o26_x35, .int o26_x36, .int o26_x37, .int o26_x38, .ref (ρ h0 39), .ref (ρ h0 40), .ref (ρ h0 41), .ref (ρ h0 42), .ref (ρ h0 43), .ref (ρ h0 44), .ref (ρ h0 45), .ref (ρ h0 46), .int o26_x47, .int o26_x48, .ref (ρ h0 49), .ref (ρ h0 50), .ref (ρ h0 51), .ref (ρ h0 52)]) ∧ (0 ≤ w501.toInt ∧ w501.toInt ≤ 400) ∧ (w33.toInt ≤ (w501.toInt)) ∧ ((w501.toInt) ≤ o26_x9.toInt) ∧ va_P (dC, dI) vwCl (va_pl L f507) H ∧ va_D A (va_pl L f507) ∧ va_S A s.heap H locs ∧ lv_has ls 1 [(0, .ref h0)]) ?_ _ _ _ _ ⟨f496, w487, w488, rfl, hT, hR, hk494k, hk495k, (by omega), (by omega), (by omega), hP, hD, hS, lv_sub hl [0] rfl⟩
        intro n0 H locs ls hI ih509
        obtain ⟨f507, w501, w502, hn510, hT, hR, hk505k, hk506k, rw501, k503, k504, hP, hD, hS, hl⟩ := hI
        refine lv_aload_n hx hb dX12_next_243 rfl (lv_at hl 0 rfl) ?_
        obtain ⟨q511, eq511⟩ := tp_pos (tp_in hG ht_h0 (by decide)) hk506k
        refine va_get (D := (dC, dI)) (ci := 12) (v := .int 0) (C := RX12) (T := TX12) (N := 53) hx hb hts hfX12 hown hK hP q511 eq511 rfl 12 (by decide) (hts (.fieldLink RX12 280 "ColdShipsModel" "sort" "I") wa_995) (fun _ h9 => h9) rfl dX12_next_244 ?_
        refine lv_iconst (v := 2) hx hb dX12_next_247 (by decide) ?_
        refine lv_icmp_ne (tgt := 335) hx hb dX12_next_248 (by decide) (fun _ => ?_) (fun c9 => absurd c9 (by decide))
        exact W.vret hx hb hr (fun t ht hW => ⟨⟨f507, rfl, ⟨hT, hR, (by simp only [hk506k, hf_o26, mo_i1, mo_l1]; exact (show (w33.toInt ≤ w501.toInt ∧ w501.toInt ≤ o26_x9.toInt ∧ (0 = 0 ∨ w33.toInt < w501.toInt) ∧ (0 = 1 → w501.toInt = w33.toInt + 1 → w502.toInt ≤ 26)) ∧ o26_x11.toInt ≤ w33.toInt ∧ o26_x9.toInt = o26_x9.toInt ∧ o26_x15.toInt = o26_x15.toInt ∧ o26_x19.toInt = o26_x19.toInt ∧ o26_x20.toInt = o26_x20.toInt ∧ o26_x22.toInt = o26_x22.toInt ∧ o26_x28.toInt = o26_x28.toInt from by first | omega | decide))⟩, by rw [ht]; exact hP, va_K.moved hW.alike hK, hD⟩, hS.F ht⟩) hS.2.2 dX12_next_335
    · have ic279 : z278.toInt = 32 := zi_nef rfl rfl c279
      refine lv_aload_n hx hb dX12_next_33 rfl (lv_at hl 0 rfl) ?_
      refine lv_dup hx hb dX12_next_34 rfl ?_
      refine va_get (D := (dC, dI)) (ci := 12) (v := .int w33) (C := RX12) (T := TX12) (N := 53) hx hb hts hfX12 hown hK hP q43 eq43 rfl 10 (by decide) (hts (.fieldLink RX12 267 "ColdShipsModel" "from" "I") wa_1005) (fun _ h9 => h9) rfl dX12_next_35 ?_
      refine lv_iconst (v := 1) hx hb dX12_next_38 (by decide) ?_
      refine lv_iadd hx hb dX12_next_39 ?_
      refine lv_topi (fun z512 ez512 => ?_)
      have iz512 : z512.toInt = w33.toInt + 1 := zi_add ez512 rfl rfl (by omega) (by omega)
      refine va_put (D := (dC, dI)) (ci := 12) (v := .int z512) (ty := .int) (C := RX12) (T := TX12) (N := 53) hx hb hts hfX12 tyX12 tyX12_ok nmX12 hown hK hP hD hS q43 eq43 rfl 10 (by decide) (hts (.fieldLink RX12 267 "ColdShipsModel" "from" "I") wa_1005) (fun _ h9 => h9) rfl (tyX12_ok 10 (by decide)) rfl rfl (Nat.le_of_ble_eq_true rfl) dX12_next_40 (tp_k (.inr (12, [.int o26_x0, .int o26_x1, .ref (ρ h0 2), .ref (ρ h0 3), .ref (ρ h0 4), .ref (ρ h0 5), .ref (ρ h0 6), .int o26_x7, .ref (ρ h0 8), .int o26_x9, .int z512, .int o26_x11, .int o26_x12, .long o26_x13, .int o26_x14, .int o26_x15, .int o26_x16, .int o26_x17, .int o26_x18, .int o26_x19, .int o26_x20, .ref (ρ h0 21), .int o26_x22, .ref (ρ h0 23), .ref (ρ h0 24), .int o26_x25, .ref (ρ h0 26), .ref (ρ h0 27), .int o26_x28, .int o26_x29, .ref (ρ h0 30), .ref (ρ h0 31), .int o26_x32, .long o26_x33, .long o26_x34, .long o26_x35, .int o26_x36, .int o26_x37, .int o26_x38, .ref (ρ h0 39), .ref (ρ h0 40), .ref (ρ h0 41), .ref (ρ h0 42), .ref (ρ h0 43), .ref (ρ h0 44), .ref (ρ h0 45), .ref (ρ h0 46), .int o26_x47, .int o26_x48, .ref (ρ h0 49), .ref (ρ h0 50), .ref (ρ h0 51), .ref (ρ h0 52)])) hD (tp_in hG ht_h0 (by decide)) eq43 (fun f513 H locs hP hD hS g515 k514 => ?_))
      have hT := hT.up ht_h0 g515 k514 ⟨_, _, _, _, _, _, _, _, _, _, _, _, _, _, _, _, _, _, _, _, _, _, _, _, _, _, _, _, rfl, ro26_0, ro26_1, (by omega), ro26_3, ro26_4, ro26_5, ro26_6, ro26_7, ro26_8, ro26_9, ro26_10, ro26_11, ro26_12, ro26_13⟩
      have hR := hR.up ht_h0 (by decide) k514
      refine lv_goto (tgt := 8) hx hb dX12_next_43 (by decide) ?_
      have hf_516 : f513 (ρ h0 8) = .inl (κ 0, 400, .inl g28) := (k514 _ (tp_ne y6 ht_h0 (by decide))).trans hk37k
      exact ih41 _ _ _ _ (by rw [hn42]; omega) ⟨f513, z512, rfl, hT, hR, hf_516, g515, (by omega), (by omega), (by omega), hP, hD, hS, lv_sub hl [0] rfl⟩

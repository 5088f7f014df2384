set_option maxHeartbeats 4000000 in
set_option maxRecDepth 100000 in
theorem t_X2_readMoney (l : Launch) (dC : Nat → ClassId) (dI : Nat → Nat → Nat) (sz : Nat) (Ω : Nat → (Nat → Nat) → va_E → Prop) (κ : Nat → ClassId) (τ ν : Nat → Nat) (ρ : Nat → Nat → Nat) (L : List Nat) (f : Nat → va_E) (hG : tp_G τ ν ρ L) (hT : tp_T Ω κ τ ν ρ f) (adK adV : Nat → Nat) (zv : Option Nat) (h0 : Nat) (v : Int32) (B0 : Int) (ht_h0 : τ h0 = 3) (hr_v : -1000 ≤ v.toInt ∧ v.toInt ≤ 100001) (hB : tp_fld (f h0) 12 = B0) (hBr : B0 = 0) : Met l yX2_readMoney wqX2_readMoney ({ frames := 80, cells := 0, slots := 0, locals := 31600 }) (va_Pc [.ref h0, .int v] (pw_BZ dC dI (tp_K κ) (va_pl L f) sz adK adV zv)) (va_Qi (fun (r : Int32) (f1 : Nat → va_E) => tp_T Ω κ τ ν ρ f1 ∧ tp_F τ [3, 20, 28] f f1 ∧ (0 ≤ r.toInt ∧ r.toInt ≤ 1) ∧ tp_fld (f1 h0) 12 = B0) (fun (f1 : Nat → va_E) (t : State) => pz_E dC dI (tp_K κ) (va_A (va_pl L f) sz) (va_pl L f1) t) (va_A (va_pl L f) sz)) 0 0 (va_A (va_pl L f) sz) := by
  refine Met.ofW (cc := cX2_readMoney) (maxL := 2) (ret := some .boolean) (by decide) rfl ?_
  intro p e s m args below meth c s₁ B hml hv
  obtain ⟨rfl, ⟨hsz, hP, hK, hD0, hN⟩, hZ⟩ := hv
  have hx := B.exec
  have hb := B.bytes
  have hr := B.returns
  have hts := fun (w : Cond) (h : w ∈ WALL) => atoms_spec (ws := wqX2_readMoney) B.pre w (List.mem_cons_of_mem _ h)
  have hown : s.vm.findClass RX2 = some m.cls := findClass_of_methodNamed B.named
  have hlocks := B.notSynchronized
  subst hsz
  have hD := hD0.self (sz := s.heap.size)
  generalize hAe : va_A (va_pl L f) s.heap.size = A at hD hZ ⊢
  have hA : ∀ q : Nat, s.heap.size ≤ q → A q := fun q h => by rw [← hAe]; exact Or.inr h
  have hS : va_S A s.heap s.heap [] := va_S.rf
  have hR : tp_F τ [3, 20, 28] f f := tp_F.rf
  have hl := lv_entry ([.ref h0, .int v]) (n := 2) (Nat.le_of_ble_eq_true rfl)
  rw [lg_entry_eq]
  generalize (lg_sl ([.ref h0, .int v]) ++ List.replicate (2 - (lg_sl ([.ref h0, .int v])).length) Slot.unset).toArray = ls at hl ⊢
  have hl : lv_has ls 2 [(0, .ref h0), (1, .int v)] := hl
  refine lv_aload_n hx hb dX2_readMoney_0 rfl (lv_at hl 0 rfl) ?_
  refine tgk_3 hG ht_h0 (fun y1 y1n y2 y2n y3 y3n => ?_)
  refine tpk_3 hT ht_h0 (fun o4_x1 o4_x2 o4_x3 o4_x4 o4_x5 o4_x6 o4_x8 o4_x10 o4_x11 o4_x12 o4_x13 o4_x14 o4_x15 hf_o4 ro4_0 ro4_1 ro4_2 ro4_3 ro4_4 ro4_5 ro4_6 => ?_)
  have bo4 : o4_x12.toInt = B0 := by have q9 := hB; rw [hf_o4] at q9; exact q9
  refine tpk_pos (tp_in hG ht_h0 (by decide)) hf_o4 (fun q5 eq5 => ?_)
  refine va_get (D := (dC, dI)) (ci := 2) (v := .int o4_x10) (C := RX2) (T := TX2) (N := 16) hx hb hts hfX2 hown hK hP q5 eq5 rfl 10 (by decide) (hts (.fieldLink RX2 35 "ColdShips$Reader" "sums" "I") wa_797) (fun _ h9 => h9) rfl dX2_readMoney_1 ?_
  refine lv_bipush (v := 12) hx hb dX2_readMoney_4 (by decide) ?_
  refine tp_join 32 (fun H locs ls stk => ∃ f7 : Nat → va_E, stk = [] ∧ tp_T Ω κ τ ν ρ f7 ∧ tp_F τ [3, 20, 28] f f7 ∧ tp_fld (f7 h0) 12 = B0 ∧ va_P (dC, dI) vwCl (va_pl L f7) H ∧ va_D A (va_pl L f7) ∧ va_S A s.heap H locs ∧ lv_has ls 2 [(0, .ref h0), (1, .int v)]) ?_ (fun hj6 => ?_)
  · intro H locs ls stk hI
    refine Exists.elim hI (fun f7 hE90 => tn_8 hE90 (fun e90 hT hR hB hP hD hS hl => ?_))
    clear hE90 hI; subst e90
    refine lv_aload_n hx hb dX2_readMoney_32 rfl (lv_at hl 0 rfl) ?_
    refine tpk_3 hT ht_h0 (fun o8_x1 o8_x2 o8_x3 o8_x4 o8_x5 o8_x6 o8_x8 o8_x10 o8_x11 o8_x12 o8_x13 o8_x14 o8_x15 hf_o8 ro8_0 ro8_1 ro8_2 ro8_3 ro8_4 ro8_5 ro8_6 => ?_)
    have bo8 : o8_x12.toInt = B0 := by have q9 := hB; rw [hf_o8] at q9; exact q9
    refine tpk_pos (tp_in hG ht_h0 (by decide)) hf_o8 (fun q9 eq9 => ?_)
    have hFc := tp_fr hD hS hA
    refine va_calli (va_runV (As := []) (rest := []) ⟨hx, hb, hml, hown, hts⟩ (t_X2_readSum0 l dC dI _ Ω κ τ ν ρ L f7 hG hT adK adV zv h0 B0 ht_h0 hB (by omega)) (cwV 0 hts gX2_readMoney_X2_readSum rfl rfl rfl ⟨rfl, pd_X2_readSum⟩ ⟨Nat.le_of_ble_eq_true rfl, Nat.le_of_ble_eq_true rfl⟩) ⟨pw_blindZ, va_recv hK hP (ci := 2) (q0 := q9) rfl eq9, pw_preZ hP hK hD hN hZ hS (tp_fr hD hS hA)⟩ rfl rfl hl.1 rfl (lv_room (Nat.le_of_ble_eq_true rfl)) dX2_readMoney_33 ⟨Nat.le_of_ble_eq_true rfl, Nat.le_of_ble_eq_true rfl⟩) hS (fun q _ h => hFc q h) hFc (fun r10 f12 t H1 locs ht hvm hw11 hB hz1 hk1 hS => ?_)
    refine tn_4 hw11 (fun hT hF13 hw11r hw11p => ?_); clear hw11
    have hR := hR.then hF13 (by decide)
    have hP := hB.1; rw [ht] at hP; have hD := tp_ad f12 hD; clear hB hFc hz1 hk1; subst ht; generalize t.heap = H at hP hS ⊢
    have hB := hw11p
    refine lv_if_ne (tgt := 41) hx hb dX2_readMoney_36 (by decide) (fun c14 => ?_) (fun c14 => ?_)
    · have ic14 : r10.toInt ≠ 0 := zi_ne rfl rfl c14
      refine lv_aload_n hx hb dX2_readMoney_41 rfl (lv_at hl 0 rfl) ?_
      refine va_ldcS hx hb hown (show vk_R RX2 115 "if" (adK 5) s from hZ.2.2.2 5 (by decide)) dX2_readMoney_42 ?_
      refine tpk_3 hT ht_h0 (fun o15_x1 o15_x2 o15_x3 o15_x4 o15_x5 o15_x6 o15_x8 o15_x10 o15_x11 o15_x12 o15_x13 o15_x14 o15_x15 hf_o15 ro15_0 ro15_1 ro15_2 ro15_3 ro15_4 ro15_5 ro15_6 => ?_)
      have bo15 : o15_x12.toInt = B0 := by have q9 := hB; rw [hf_o15] at q9; exact q9
      refine tpk_pos (tp_in hG ht_h0 (by decide)) hf_o15 (fun q16 eq16 => ?_)
      have hFc := tp_fr hD hS hA
      refine va_calli (va_runV (As := [.ref (adK 5)]) (rest := []) ⟨hx, hb, hml, hown, hts⟩ (t_X2_passWord l dC dI _ Ω κ τ ν ρ L f12 hG hT adK adV zv h0 5 B0 ht_h0 (by decide) hB) (cwV 1 hts gX2_readMoney_X2_passWord rfl rfl rfl ⟨rfl, pd_X2_passWord⟩ ⟨Nat.le_of_ble_eq_true rfl, Nat.le_of_ble_eq_true rfl⟩) ⟨pw_blindZ, va_recv hK hP (ci := 2) (q0 := q16) rfl eq16, pw_preZ hP hK hD hN hZ hS (tp_fr hD hS hA)⟩ rfl rfl hl.1 rfl (lv_room (Nat.le_of_ble_eq_true rfl)) dX2_readMoney_44 ⟨Nat.le_of_ble_eq_true rfl, Nat.le_of_ble_eq_true rfl⟩) hS (fun q _ h => hFc q h) hFc (fun r17 f19 t H1 locs ht hvm hw18 hB hz1 hk1 hS => ?_)
      refine tn_4 hw18 (fun hT hF20 hw18r hw18p => ?_); clear hw18
      have hR := hR.then hF20 (by decide)
      have hP := hB.1; rw [ht] at hP; have hD := tp_ad f19 hD; clear hB hFc hz1 hk1; subst ht; generalize t.heap = H at hP hS ⊢
      have hB := hw18p
      refine lv_if_eq (tgt := 65) hx hb dX2_readMoney_47 (by decide) (fun c21 => ?_) (fun c21 => ?_)
      · have ic21 : r17.toInt = 0 := zi_eq rfl rfl c21
        refine lv_aload_n hx hb dX2_readMoney_65 rfl (lv_at hl 0 rfl) ?_
        refine lv_iload_n hx hb dX2_readMoney_66 rfl (lv_at hl 1 rfl) ?_
        refine tpk_3 hT ht_h0 (fun o22_x1 o22_x2 o22_x3 o22_x4 o22_x5 o22_x6 o22_x8 o22_x10 o22_x11 o22_x12 o22_x13 o22_x14 o22_x15 hf_o22 ro22_0 ro22_1 ro22_2 ro22_3 ro22_4 ro22_5 ro22_6 => ?_)
        have bo22 : o22_x12.toInt = B0 := by have q9 := hB; rw [hf_o22] at q9; exact q9
        refine tpk_pos (tp_in hG ht_h0 (by decide)) hf_o22 (fun q23 eq23 => ?_)
        have hFc := tp_fr hD hS hA
        refine va_callv (va_runV (As := [.int v]) (rest := []) ⟨hx, hb, hml, hown, hts⟩ (t_X2_emit l dC dI _ Ω κ τ ν ρ L f19 hG hT h0 v B0 ht_h0 (by first | decide | omega) hB) (cwV 1 hts gX2_readMoney_X2_emit rfl rfl rfl ⟨rfl, pd_X2_emit⟩ ⟨Nat.le_of_ble_eq_true rfl, Nat.le_of_ble_eq_true rfl⟩) ⟨pz_blind, va_recv hK hP (ci := 2) (q0 := q23) rfl eq23, pz_pre hP hK hD hN⟩ rfl rfl hl.1 rfl (lv_room (Nat.le_of_ble_eq_true rfl)) dX2_readMoney_67 ⟨Nat.le_of_ble_eq_true rfl, Nat.le_of_ble_eq_true rfl⟩) hS (fun q _ h => hFc q h) hFc (fun f26 t H1 locs ht hvm hw25 hB hz1 hk1 hS => ?_)
        refine tn_3 hw25 (fun hT hF27 hw25p => ?_); clear hw25
        have hR := hR.then hF27 (by decide)
        have hP := hB.1; rw [ht] at hP; have hD := tp_ad f26 hD; clear hB hFc hz1 hk1; subst ht; generalize t.heap = H at hP hS ⊢
        have hB := hw25p
        refine lv_iconst (v := 1) hx hb dX2_readMoney_70 (by decide) ?_
        exact W.zret (v := 1) hx hb hr rfl (fun t ht hW => ⟨⟨1, f26, rfl, ⟨hT, hR, (by first | decide | omega), hB⟩, by rw [ht]; exact hP, va_K.moved hW.alike hK, hD⟩, hS.F ht⟩) hS.2.2 dX2_readMoney_71
      · have ic21 : r17.toInt ≠ 0 := zi_eqf rfl rfl c21
        refine lv_aload_n hx hb dX2_readMoney_50 rfl (lv_at hl 0 rfl) ?_
        refine tpk_3 hT ht_h0 (fun o28_x1 o28_x2 o28_x3 o28_x4 o28_x5 o28_x6 o28_x8 o28_x10 o28_x11 o28_x12 o28_x13 o28_x14 o28_x15 hf_o28 ro28_0 ro28_1 ro28_2 ro28_3 ro28_4 ro28_5 ro28_6 => ?_)
        have bo28 : o28_x12.toInt = B0 := by have q9 := hB; rw [hf_o28] at q9; exact q9
        refine tpk_pos (tp_in hG ht_h0 (by decide)) hf_o28 (fun q29 eq29 => ?_)
        have hFc := tp_fr hD hS hA
        refine va_calli (va_runV (As := []) (rest := []) ⟨hx, hb, hml, hown, hts⟩ (t_X2_readTest0 l dC dI _ Ω κ τ ν ρ L f19 hG hT adK adV zv h0 B0 ht_h0 hB (by omega)) (cwV 0 hts gX2_readMoney_X2_readTest rfl rfl rfl ⟨rfl, pd_X2_readTest⟩ ⟨Nat.le_of_ble_eq_true rfl, Nat.le_of_ble_eq_true rfl⟩) ⟨pw_blindZ, va_recv hK hP (ci := 2) (q0 := q29) rfl eq29, pw_preZ hP hK hD hN hZ hS (tp_fr hD hS hA)⟩ rfl rfl hl.1 rfl (lv_room (Nat.le_of_ble_eq_true rfl)) dX2_readMoney_51 ⟨Nat.le_of_ble_eq_true rfl, Nat.le_of_ble_eq_true rfl⟩) hS (fun q _ h => hFc q h) hFc (fun r30 f32 t H1 locs ht hvm hw31 hB hz1 hk1 hS => ?_)
        refine tn_4 hw31 (fun hT hF33 hw31r hw31p => ?_); clear hw31
        have hR := hR.then hF33 (by decide)
        have hP := hB.1; rw [ht] at hP; have hD := tp_ad f32 hD; clear hB hFc hz1 hk1; subst ht; generalize t.heap = H at hP hS ⊢
        have hB := hw31p
        refine lv_if_ne (tgt := 59) hx hb dX2_readMoney_54 (by decide) (fun c34 => ?_) (fun c34 => ?_)
        · have ic34 : r30.toInt ≠ 0 := zi_ne rfl rfl c34
          refine lv_aload_n hx hb dX2_readMoney_59 rfl (lv_at hl 0 rfl) ?_
          refine lv_bipush (v := (-21)) hx hb dX2_readMoney_60 (by decide) ?_
          refine tpk_3 hT ht_h0 (fun o35_x1 o35_x2 o35_x3 o35_x4 o35_x5 o35_x6 o35_x8 o35_x10 o35_x11 o35_x12 o35_x13 o35_x14 o35_x15 hf_o35 ro35_0 ro35_1 ro35_2 ro35_3 ro35_4 ro35_5 ro35_6 => ?_)
          have bo35 : o35_x12.toInt = B0 := by have q9 := hB; rw [hf_o35] at q9; exact q9
          refine tpk_pos (tp_in hG ht_h0 (by decide)) hf_o35 (fun q36 eq36 => ?_)
          have hFc := tp_fr hD hS hA
          refine va_callv (va_runV (As := [.int (-21)]) (rest := []) ⟨hx, hb, hml, hown, hts⟩ (t_X2_emit l dC dI _ Ω κ τ ν ρ L f32 hG hT h0 ((-21)) B0 ht_h0 (by first | decide | omega) hB) (cwV 1 hts gX2_readMoney_X2_emit rfl rfl rfl ⟨rfl, pd_X2_emit⟩ ⟨Nat.le_of_ble_eq_true rfl, Nat.le_of_ble_eq_true rfl⟩) ⟨pz_blind, va_recv hK hP (ci := 2) (q0 := q36) rfl eq36, pz_pre hP hK hD hN⟩ rfl rfl hl.1 rfl (lv_room (Nat.le_of_ble_eq_true rfl)) dX2_readMoney_62 ⟨Nat.le_of_ble_eq_true rfl, Nat.le_of_ble_eq_true rfl⟩) hS (fun q _ h => hFc q h) hFc (fun f39 t H1 locs ht hvm hw38 hB hz1 hk1 hS => ?_)
          refine tn_3 hw38 (fun hT hF40 hw38p => ?_); clear hw38
          have hR := hR.then hF40 (by decide)
          have hP := hB.1; rw [ht] at hP; have hD := tp_ad f39 hD; clear hB hFc hz1 hk1; subst ht; generalize t.heap = H at hP hS ⊢
          have hB := hw38p
          refine lv_aload_n hx hb dX2_readMoney_65 rfl (lv_at hl 0 rfl) ?_
          refine lv_iload_n hx hb dX2_readMoney_66 rfl (lv_at hl 1 rfl) ?_
          refine tpk_3 hT ht_h0 (fun o41_x1 o41_x2 o41_x3 o41_x4 o41_x5 o41_x6 o41_x8 o41_x10 o41_x11 o41_x12 o41_x13 o41_x14 o41_x15 hf_o41 ro41_0 ro41_1 ro41_2 ro41_3 ro41_4 ro41_5 ro41_6 => ?_)
          have bo41 : o41_x12.toInt = B0 := by have q9 := hB; rw [hf_o41] at q9; exact q9
          refine tpk_pos (tp_in hG ht_h0 (by decide)) hf_o41 (fun q42 eq42 => ?_)
          have hFc := tp_fr hD hS hA
          refine va_callv (va_runV (As := [.int v]) (rest := []) ⟨hx, hb, hml, hown, hts⟩ (t_X2_emit l dC dI _ Ω κ τ ν ρ L f39 hG hT h0 v B0 ht_h0 (by first | decide | omega) hB) (cwV 1 hts gX2_readMoney_X2_emit rfl rfl rfl ⟨rfl, pd_X2_emit⟩ ⟨Nat.le_of_ble_eq_true rfl, Nat.le_of_ble_eq_true rfl⟩) ⟨pz_blind, va_recv hK hP (ci := 2) (q0 := q42) rfl eq42, pz_pre hP hK hD hN⟩ rfl rfl hl.1 rfl (lv_room (Nat.le_of_ble_eq_true rfl)) dX2_readMoney_67 ⟨Nat.le_of_ble_eq_true rfl, Nat.le_of_ble_eq_true rfl⟩) hS (fun q _ h => hFc q h) hFc (fun f45 t H1 locs ht hvm hw44 hB hz1 hk1 hS => ?_)
          refine tn_3 hw44 (fun hT hF46 hw44p => ?_); clear hw44
          have hR := hR.then hF46 (by decide)
          have hP := hB.1; rw [ht] at hP; have hD := tp_ad f45 hD; clear hB hFc hz1 hk1; subst ht; generalize t.heap = H at hP hS ⊢
          have hB := hw44p
          refine lv_iconst (v := 1) hx hb dX2_readMoney_70 (by decide) ?_
          exact W.zret (v := 1) hx hb hr rfl (fun t ht hW => ⟨⟨1, f45, rfl, ⟨hT, hR, (by first | decide | omega), hB⟩, by rw [ht]; exact hP, va_K.moved hW.alike hK, hD⟩, hS.F ht⟩) hS.2.2 dX2_readMoney_71
        · have ic34 : r30.toInt = 0 := zi_nef rfl rfl c34
          refine lv_iconst (v := 0) hx hb dX2_readMoney_57 (by decide) ?_
          exact W.zret (v := 0) hx hb hr rfl (fun t ht hW => ⟨⟨0, f32, rfl, ⟨hT, hR, (by first | decide | omega), hB⟩, by rw [ht]; exact hP, va_K.moved hW.alike hK, hD⟩, hS.F ht⟩) hS.2.2 dX2_readMoney_58
    · have ic14 : r10.toInt = 0 := zi_nef rfl rfl c14
      refine lv_iconst (v := 0) hx hb dX2_readMoney_39 (by decide) ?_
      exact W.zret (v := 0) hx hb hr rfl (fun t ht hW => ⟨⟨0, f12, rfl, ⟨hT, hR, (by first | decide | omega), hB⟩, by rw [ht]; exact hP, va_K.moved hW.alike hK, hD⟩, hS.F ht⟩) hS.2.2 dX2_readMoney_40
  · refine lv_icmp_ge (tgt := 32) hx hb dX2_readMoney_6 (by decide) (fun c47 => ?_) (fun c47 => ?_)
    · have ic47 : o4_x10.toInt ≥ 12 := zi_ge rfl rfl c47
      exact hj6 _ _ _ _ ⟨f, rfl, hT, hR, hB, hP, hD, hS, lv_sub hl [0, 1] rfl⟩
    · have ic47 : o4_x10.toInt < 12 := zi_gef rfl rfl c47
      refine lv_aload_n hx hb dX2_readMoney_9 rfl (lv_at hl 0 rfl) ?_
      refine va_get (D := (dC, dI)) (ci := 2) (v := .ref (ρ h0 9)) (C := RX2) (T := TX2) (N := 16) hx hb hts hfX2 hown hK hP q5 eq5 rfl 9 (by decide) (hts (.fieldLink RX2 23 "ColdShips$Reader" "starts" "[I") wa_122) (fun _ h9 => h9) rfl dX2_readMoney_10 ?_
      refine lv_aload_n hx hb dX2_readMoney_13 rfl (lv_at hl 0 rfl) ?_
      refine va_get (D := (dC, dI)) (ci := 2) (v := .int o4_x10) (C := RX2) (T := TX2) (N := 16) hx hb hts hfX2 hown hK hP q5 eq5 rfl 10 (by decide) (hts (.fieldLink RX2 35 "ColdShips$Reader" "sums" "I") wa_797) (fun _ h9 => h9) rfl dX2_readMoney_14 ?_
      refine lv_aload_n hx hb dX2_readMoney_17 rfl (lv_at hl 0 rfl) ?_
      refine va_get (D := (dC, dI)) (ci := 2) (v := .int o4_x8) (C := RX2) (T := TX2) (N := 16) hx hb hts hfX2 hown hK hP q5 eq5 rfl 8 (by decide) (hts (.fieldLink RX2 32 "ColdShips$Reader" "cells" "I") wa_796) (fun _ h9 => h9) rfl dX2_readMoney_18 ?_
      refine tpk_20 hT y3 y3n (fun g49 hf_o48 => ?_)
      refine tpk_pos (tp_in hG y3 (by decide)) hf_o48 (fun q50 eq50 => ?_)
      refine va_iast hx hb hK hP hD hS q50 0 eq50 rfl (vp_in_iff.mpr ⟨by omega, by omega⟩) dX2_readMoney_21 (tp_k (.inl (κ 0, 13, .inl (upd g49 o4_x10.toNatClampNeg o4_x8))) hD (tp_in hG y3 (by decide)) eq50 (fun f51 H locs hP hD hS g53 k52 => ?_))
      have hT := hT.up y3 g53 k52 (tp_o20 y3n)
      have hR := hR.up y3 (by decide) k52
      have hB : tp_fld (f51 h0) 12 = B0 := by rw [k52 _ (tp_ne ht_h0 y3 (by decide))]; exact hB
      generalize (upd g49 o4_x10.toNatClampNeg o4_x8) = g54 at g53
      refine lv_aload_n hx hb dX2_readMoney_22 rfl (lv_at hl 0 rfl) ?_
      refine lv_dup hx hb dX2_readMoney_23 rfl ?_
      have hf_55 : f51 h0 = .inr (2, [.ref (ρ h0 0), .int o4_x1, .int o4_x2, .int o4_x3, .int o4_x4, .int o4_x5, .int o4_x6, .ref (ρ h0 7), .int o4_x8, .ref (ρ h0 9), .int o4_x10, .int o4_x11, .int o4_x12, .int o4_x13, .int o4_x14, .int o4_x15]) := (k52 _ (tp_ne ht_h0 y3 (by decide))).trans hf_o4
      refine tpk_pos (tp_in hG ht_h0 (by decide)) hf_55 (fun q56 eq56 => ?_)
      refine va_get (D := (dC, dI)) (ci := 2) (v := .int o4_x10) (C := RX2) (T := TX2) (N := 16) hx hb hts hfX2 hown hK hP q56 eq56 rfl 10 (by decide) (hts (.fieldLink RX2 35 "ColdShips$Reader" "sums" "I") wa_797) (fun _ h9 => h9) rfl dX2_readMoney_24 ?_
      refine lv_iconst (v := 1) hx hb dX2_readMoney_27 (by decide) ?_
      refine lv_iadd hx hb dX2_readMoney_28 ?_
      refine lv_topi (fun z57 ez57 => ?_)
      have iz57 : z57.toInt = o4_x10.toInt + 1 := zi_add ez57 rfl rfl (by omega) (by omega)
      refine va_put (D := (dC, dI)) (ci := 2) (v := .int z57) (ty := .int) (C := RX2) (T := TX2) (N := 16) hx hb hts hfX2 tyX2 tyX2_ok nmX2 hown hK hP hD hS q56 eq56 rfl 10 (by decide) (hts (.fieldLink RX2 35 "ColdShips$Reader" "sums" "I") wa_797) (fun _ h9 => h9) rfl (tyX2_ok 10 (by decide)) rfl rfl (Nat.le_of_ble_eq_true rfl) dX2_readMoney_29 (tp_k (.inr (2, [.ref (ρ h0 0), .int o4_x1, .int o4_x2, .int o4_x3, .int o4_x4, .int o4_x5, .int o4_x6, .ref (ρ h0 7), .int o4_x8, .ref (ρ h0 9), .int z57, .int o4_x11, .int o4_x12, .int o4_x13, .int o4_x14, .int o4_x15])) hD (tp_in hG ht_h0 (by decide)) eq56 (fun f58 H locs hP hD hS g60 k59 => ?_))
      have hT := hT.up ht_h0 g60 k59 ⟨_, _, _, _, _, _, _, _, _, _, _, _, _, rfl, (by first | decide | omega | (omega)), (by first | decide | omega | (omega)), (by first | decide | omega | (omega)), (by first | decide | omega | (omega)), (by first | decide | omega | (omega)), (by first | decide | omega | (omega)), (by first | decide | omega | (omega))⟩
      have hR := hR.up ht_h0 (by decide) k59
      have hB : tp_fld (f58 h0) 12 = B0 := by rw [g60]; show (o4_x12).toInt = B0; omega
      exact hj6 _ _ _ _ ⟨f58, rfl, hT, hR, hB, hP, hD, hS, lv_sub hl [0, 1] rfl⟩
set_option maxHeartbeats 4000000 in
set_option maxRecDepth 100000 in
theorem t_X2_readWindow (l : Launch) (dC : Nat → ClassId) (dI : Nat → Nat → Nat) (sz : Nat) (Ω : Nat → (Nat → Nat) → va_E → Prop) (κ : Nat → ClassId) (τ ν : Nat → Nat) (ρ : Nat → Nat → Nat) (L : List Nat) (f : Nat → va_E) (hG : tp_G τ ν ρ L) (hT : tp_T Ω κ τ ν ρ f) (adK adV : Nat → Nat) (zv : Option Nat) (h0 : Nat) (B0 : Int) (ht_h0 : τ h0 = 3) (hB : tp_fld (f h0) 12 = B0) (hBr : B0 = 0) : Met l yX2_readWindow wqX2_readWindow ({ frames := 8, cells := 0, slots := 0, locals := 2800 }) (va_Pc [.ref h0] (pw_BZ dC dI (tp_K κ) (va_pl L f) sz adK adV zv)) (va_Qi (fun (r : Int32) (f1 : Nat → va_E) => tp_T Ω κ τ ν ρ f1 ∧ tp_F τ [3, 20, 28] f f1 ∧ (0 ≤ r.toInt ∧ r.toInt ≤ 1) ∧ tp_fld (f1 h0) 12 = B0) (fun (f1 : Nat → va_E) (t : State) => pz_E dC dI (tp_K κ) (va_A (va_pl L f) sz) (va_pl L f1) t) (va_A (va_pl L f) sz)) 0 0 (va_A (va_pl L f) sz) := by
  refine Met.ofW (cc := cX2_readWindow) (maxL := 2) (ret := some .boolean) (by decide) rfl ?_
  intro p e s m args below meth c s₁ B hml hv
  obtain ⟨rfl, ⟨hsz, hP, hK, hD0, hN⟩, hZ⟩ := hv
  have hx := B.exec
  have hb := B.bytes
  have hr := B.returns
  have hts := fun (w : Cond) (h : w ∈ WALL) => atoms_spec (ws := wqX2_readWindow) B.pre w (List.mem_cons_of_mem _ h)
  have hown : s.vm.findClass RX2 = some m.cls := findClass_of_methodNamed B.named
  have hlocks := B.notSynchronized
  subst hsz
  have hD := hD0.self (sz := s.heap.size)
  generalize hAe : va_A (va_pl L f) s.heap.size = A at hD hZ ⊢
  have hA : ∀ q : Nat, s.heap.size ≤ q → A q := fun q h => by rw [← hAe]; exact Or.inr h
  have hS : va_S A s.heap s.heap [] := va_S.rf
  have hR : tp_F τ [3, 20, 28] f f := tp_F.rf
  have hl := lv_entry ([.ref h0]) (n := 2) (Nat.le_of_ble_eq_true rfl)
  rw [lg_entry_eq]
  generalize (lg_sl ([.ref h0]) ++ List.replicate (2 - (lg_sl ([.ref h0])).length) Slot.unset).toArray = ls at hl ⊢
  have hl : lv_has ls 2 [(0, .ref h0)] := hl
  refine lv_aload_n hx hb dX2_readWindow_0 rfl (lv_at hl 0 rfl) ?_
  refine lv_iconst (v := 0) hx hb dX2_readWindow_1 (by decide) ?_
  refine lv_sipush (v := 2399) hx hb dX2_readWindow_2 (by decide) ?_
  refine tgk_3 hG ht_h0 (fun y1 y1n y2 y2n y3 y3n => ?_)
  refine tpk_3 hT ht_h0 (fun o4_x1 o4_x2 o4_x3 o4_x4 o4_x5 o4_x6 o4_x8 o4_x10 o4_x11 o4_x12 o4_x13 o4_x14 o4_x15 hf_o4 ro4_0 ro4_1 ro4_2 ro4_3 ro4_4 ro4_5 ro4_6 => ?_)
  have bo4 : o4_x12.toInt = B0 := by have q9 := hB; rw [hf_o4] at q9; exact q9
  refine tpk_pos (tp_in hG ht_h0 (by decide)) hf_o4 (fun q5 eq5 => ?_)
  refine pz_calli (va_runV (As := [.int 0, .int 2399]) (rest := []) ⟨hx, hb, hml, hown, hts⟩ (t_X2_isNumber l dC dI _ Ω κ τ ν ρ L f hG hT h0 (0) (2399) ht_h0) (cwV 2 hts gX2_readWindow_X2_isNumber rfl rfl rfl ⟨rfl, pd_X2_isNumber⟩ ⟨Nat.le_of_ble_eq_true rfl, Nat.le_of_ble_eq_true rfl⟩) ⟨pz_blind, va_recv hK hP (ci := 2) (q0 := q5) rfl eq5, pz_pre hP hK hD hN⟩ rfl rfl hl.1 rfl (lv_room (Nat.le_of_ble_eq_true rfl)) dX2_readWindow_5 ⟨Nat.le_of_ble_eq_true rfl, Nat.le_of_ble_eq_true rfl⟩) (fun r6 hw7 => ?_)
  obtain ⟨hw7r, hw7p⟩ := hw7
  refine lv_if_ne (tgt := 13) hx hb dX2_readWindow_8 (by decide) (fun c8 => ?_) (fun c8 => ?_)
  · have ic8 : r6.toInt ≠ 0 := zi_ne rfl rfl c8
    refine lv_aload_n hx hb dX2_readWindow_13 rfl (lv_at hl 0 rfl) ?_
    refine va_get (D := (dC, dI)) (ci := 2) (v := .int o4_x6) (C := RX2) (T := TX2) (N := 16) hx hb hts hfX2 hown hK hP q5 eq5 rfl 6 (by decide) (hts (.fieldLink RX2 99 "ColdShips$Reader" "value" "I") wa_812) (fun _ h9 => h9) rfl dX2_readWindow_14 ?_
    refine lv_istore_n (lv' := [(1, .int o4_x6), (0, .ref h0)]) hx hb dX2_readWindow_17 rfl hl (by decide) rfl (fun ls hl => ?_)
    refine lv_aload_n hx hb dX2_readWindow_18 rfl (lv_at hl 1 rfl) ?_
    have hFc := tp_fr hD hS hA
    refine va_callv (va_runV (As := []) (rest := []) ⟨hx, hb, hml, hown, hts⟩ (t_X2_advance l dC dI _ Ω κ τ ν ρ L f hG hT h0 B0 ht_h0 hB) (cwV 0 hts gX2_readWindow_X2_advance rfl rfl rfl ⟨rfl, pd_X2_advance⟩ ⟨Nat.le_of_ble_eq_true rfl, Nat.le_of_ble_eq_true rfl⟩) ⟨pz_blind, va_recv hK hP (ci := 2) (q0 := q5) rfl eq5, pz_pre hP hK hD hN⟩ rfl rfl hl.1 rfl (lv_room (Nat.le_of_ble_eq_true rfl)) dX2_readWindow_19 ⟨Nat.le_of_ble_eq_true rfl, Nat.le_of_ble_eq_true rfl⟩) hS (fun q _ h => hFc q h) hFc (fun f11 t H1 locs ht hvm hw10 hB hz1 hk1 hS => ?_)
    refine tn_3 hw10 (fun hT hF12 hw10p => ?_); clear hw10
    have hR := hR.then hF12 (by decide)
    have hP := hB.1; rw [ht] at hP; have hD := tp_ad f11 hD; clear hB hFc hz1 hk1; subst ht; generalize t.heap = H at hP hS ⊢
    have hB := hw10p
    refine lv_aload_n hx hb dX2_readWindow_22 rfl (lv_at hl 1 rfl) ?_
    refine va_ldcS hx hb hown (show vk_R RX2 110 "to" (adK 4) s from hZ.2.2.2 4 (by decide)) dX2_readWindow_23 ?_
    refine tpk_3 hT ht_h0 (fun o13_x1 o13_x2 o13_x3 o13_x4 o13_x5 o13_x6 o13_x8 o13_x10 o13_x11 o13_x12 o13_x13 o13_x14 o13_x15 hf_o13 ro13_0 ro13_1 ro13_2 ro13_3 ro13_4 ro13_5 ro13_6 => ?_)
    have bo13 : o13_x12.toInt = B0 := by have q9 := hB; rw [hf_o13] at q9; exact q9
    refine tpk_pos (tp_in hG ht_h0 (by decide)) hf_o13 (fun q14 eq14 => ?_)
    have hFc := tp_fr hD hS hA
    refine va_calli (va_runV (As := [.ref (adK 4)]) (rest := []) ⟨hx, hb, hml, hown, hts⟩ (t_X2_passWord l dC dI _ Ω κ τ ν ρ L f11 hG hT adK adV zv h0 4 B0 ht_h0 (by decide) hB) (cwV 1 hts gX2_readWindow_X2_passWord rfl rfl rfl ⟨rfl, pd_X2_passWord⟩ ⟨Nat.le_of_ble_eq_true rfl, Nat.le_of_ble_eq_true rfl⟩) ⟨pw_blindZ, va_recv hK hP (ci := 2) (q0 := q14) rfl eq14, pw_preZ hP hK hD hN hZ hS (tp_fr hD hS hA)⟩ rfl rfl hl.1 rfl (lv_room (Nat.le_of_ble_eq_true rfl)) dX2_readWindow_25 ⟨Nat.le_of_ble_eq_true rfl, Nat.le_of_ble_eq_true rfl⟩) hS (fun q _ h => hFc q h) hFc (fun r15 f17 t H1 locs ht hvm hw16 hB hz1 hk1 hS => ?_)
    refine tn_4 hw16 (fun hT hF18 hw16r hw16p => ?_); clear hw16
    have hR := hR.then hF18 (by decide)
    have hP := hB.1; rw [ht] at hP; have hD := tp_ad f17 hD; clear hB hFc hz1 hk1; subst ht; generalize t.heap = H at hP hS ⊢
    have hB := hw16p
    refine lv_if_eq (tgt := 42) hx hb dX2_readWindow_28 (by decide) (fun c19 => ?_) (fun c19 => ?_)
    · have ic19 : r15.toInt = 0 := zi_eq rfl rfl c19
      refine lv_iconst (v := 0) hx hb dX2_readWindow_42 (by decide) ?_
      exact W.zret (v := 0) hx hb hr rfl (fun t ht hW => ⟨⟨0, f17, rfl, ⟨hT, hR, (by first | decide | omega), hB⟩, by rw [ht]; exact hP, va_K.moved hW.alike hK, hD⟩, hS.F ht⟩) hS.2.2 dX2_readWindow_43
    · have ic19 : r15.toInt ≠ 0 := zi_eqf rfl rfl c19
      refine lv_aload_n hx hb dX2_readWindow_31 rfl (lv_at hl 1 rfl) ?_
      refine lv_iload_n hx hb dX2_readWindow_32 rfl (lv_at hl 0 rfl) ?_
      refine lv_sipush (v := 2399) hx hb dX2_readWindow_33 (by decide) ?_
      refine tpk_3 hT ht_h0 (fun o20_x1 o20_x2 o20_x3 o20_x4 o20_x5 o20_x6 o20_x8 o20_x10 o20_x11 o20_x12 o20_x13 o20_x14 o20_x15 hf_o20 ro20_0 ro20_1 ro20_2 ro20_3 ro20_4 ro20_5 ro20_6 => ?_)
      have bo20 : o20_x12.toInt = B0 := by have q9 := hB; rw [hf_o20] at q9; exact q9
      refine tpk_pos (tp_in hG ht_h0 (by decide)) hf_o20 (fun q21 eq21 => ?_)
      refine pz_calli (va_runV (As := [.int o4_x6, .int 2399]) (rest := []) ⟨hx, hb, hml, hown, hts⟩ (t_X2_isNumber l dC dI _ Ω κ τ ν ρ L f17 hG hT h0 o4_x6 (2399) ht_h0) (cwV 2 hts gX2_readWindow_X2_isNumber rfl rfl rfl ⟨rfl, pd_X2_isNumber⟩ ⟨Nat.le_of_ble_eq_true rfl, Nat.le_of_ble_eq_true rfl⟩) ⟨pz_blind, va_recv hK hP (ci := 2) (q0 := q21) rfl eq21, pz_pre hP hK hD hN⟩ rfl rfl hl.1 rfl (lv_room (Nat.le_of_ble_eq_true rfl)) dX2_readWindow_36 ⟨Nat.le_of_ble_eq_true rfl, Nat.le_of_ble_eq_true rfl⟩) (fun r22 hw23 => ?_)
      obtain ⟨hw23r, hw23p⟩ := hw23
      refine lv_if_ne (tgt := 44) hx hb dX2_readWindow_39 (by decide) (fun c24 => ?_) (fun c24 => ?_)
      · have ic24 : r22.toInt ≠ 0 := zi_ne rfl rfl c24
        refine lv_aload_n hx hb dX2_readWindow_44 rfl (lv_at hl 1 rfl) ?_
        refine lv_iload_n hx hb dX2_readWindow_45 rfl (lv_at hl 0 rfl) ?_
        refine va_put (D := (dC, dI)) (ci := 2) (v := .int o4_x6) (ty := .int) (C := RX2) (T := TX2) (N := 16) hx hb hts hfX2 tyX2 tyX2_ok nmX2 hown hK hP hD hS q21 eq21 rfl 13 (by decide) (hts (.fieldLink RX2 44 "ColdShips$Reader" "windowFrom" "I") wa_800) (fun _ h9 => h9) rfl (tyX2_ok 13 (by decide)) rfl rfl (Nat.le_of_ble_eq_true rfl) dX2_readWindow_46 (tp_k (.inr (2, [.ref (ρ h0 0), .int o20_x1, .int o20_x2, .int o20_x3, .int o20_x4, .int o20_x5, .int o20_x6, .ref (ρ h0 7), .int o20_x8, .ref (ρ h0 9), .int o20_x10, .int o20_x11, .int o20_x12, .int o4_x6, .int o20_x14, .int o20_x15])) hD (tp_in hG ht_h0 (by decide)) eq21 (fun f25 H locs hP hD hS g27 k26 => ?_))
        have hT := hT.up ht_h0 g27 k26 ⟨_, _, _, _, _, _, _, _, _, _, _, _, _, rfl, (by first | decide | omega | (omega)), (by first | decide | omega | (omega)), (by first | decide | omega | (omega)), (by first | decide | omega | (omega)), (by first | decide | omega | (omega)), (by first | decide | omega | (omega)), (by first | decide | omega | (omega))⟩
        have hR := hR.up ht_h0 (by decide) k26
        have hB : tp_fld (f25 h0) 12 = B0 := by rw [g27]; show (o20_x12).toInt = B0; omega
        refine lv_aload_n hx hb dX2_readWindow_49 rfl (lv_at hl 1 rfl) ?_
        refine lv_aload_n hx hb dX2_readWindow_50 rfl (lv_at hl 1 rfl) ?_
        refine tpk_pos (tp_in hG ht_h0 (by decide)) g27 (fun q28 eq28 => ?_)
        refine va_get (D := (dC, dI)) (ci := 2) (v := .int o20_x6) (C := RX2) (T := TX2) (N := 16) hx hb hts hfX2 hown hK hP q28 eq28 rfl 6 (by decide) (hts (.fieldLink RX2 99 "ColdShips$Reader" "value" "I") wa_812) (fun _ h9 => h9) rfl dX2_readWindow_51 ?_
        refine va_put (D := (dC, dI)) (ci := 2) (v := .int o20_x6) (ty := .int) (C := RX2) (T := TX2) (N := 16) hx hb hts hfX2 tyX2 tyX2_ok nmX2 hown hK hP hD hS q28 eq28 rfl 14 (by decide) (hts (.fieldLink RX2 47 "ColdShips$Reader" "windowTo" "I") wa_801) (fun _ h9 => h9) rfl (tyX2_ok 14 (by decide)) rfl rfl (Nat.le_of_ble_eq_true rfl) dX2_readWindow_54 (tp_k (.inr (2, [.ref (ρ h0 0), .int o20_x1, .int o20_x2, .int o20_x3, .int o20_x4, .int o20_x5, .int o20_x6, .ref (ρ h0 7), .int o20_x8, .ref (ρ h0 9), .int o20_x10, .int o20_x11, .int o20_x12, .int o4_x6, .int o20_x6, .int o20_x15])) hD (tp_in hG ht_h0 (by decide)) eq28 (fun f29 H locs hP hD hS g31 k30 => ?_))
        have hT := hT.up ht_h0 g31 k30 ⟨_, _, _, _, _, _, _, _, _, _, _, _, _, rfl, (by first | decide | omega | (omega)), (by first | decide | omega | (omega)), (by first | decide | omega | (omega)), (by first | decide | omega | (omega)), (by first | decide | omega | (omega)), (by first | decide | omega | (omega)), (by first | decide | omega | (omega))⟩
        have hR := hR.up ht_h0 (by decide) k30
        have hB : tp_fld (f29 h0) 12 = B0 := by rw [g31]; show (o20_x12).toInt = B0; omega
        refine lv_aload_n hx hb dX2_readWindow_57 rfl (lv_at hl 1 rfl) ?_
        refine tpk_pos (tp_in hG ht_h0 (by decide)) g31 (fun q32 eq32 => ?_)
        have hFc := tp_fr hD hS hA
        refine va_callv (va_runV (As := []) (rest := []) ⟨hx, hb, hml, hown, hts⟩ (t_X2_advance l dC dI _ Ω κ τ ν ρ L f29 hG hT h0 B0 ht_h0 hB) (cwV 0 hts gX2_readWindow_X2_advance rfl rfl rfl ⟨rfl, pd_X2_advance⟩ ⟨Nat.le_of_ble_eq_true rfl, Nat.le_of_ble_eq_true rfl⟩) ⟨pz_blind, va_recv hK hP (ci := 2) (q0 := q32) rfl eq32, pz_pre hP hK hD hN⟩ rfl rfl hl.1 rfl (lv_room (Nat.le_of_ble_eq_true rfl)) dX2_readWindow_58 ⟨Nat.le_of_ble_eq_true rfl, Nat.le_of_ble_eq_true rfl⟩) hS (fun q _ h => hFc q h) hFc (fun f35 t H1 locs ht hvm hw34 hB hz1 hk1 hS => ?_)
        refine tn_3 hw34 (fun hT hF36 hw34p => ?_); clear hw34
        have hR := hR.then hF36 (by decide)
        have hP := hB.1; rw [ht] at hP; have hD := tp_ad f35 hD; clear hB hFc hz1 hk1; subst ht; generalize t.heap = H at hP hS ⊢
        have hB := hw34p
        refine lv_iconst (v := 1) hx hb dX2_readWindow_61 (by decide) ?_
        exact W.zret (v := 1) hx hb hr rfl (fun t ht hW => ⟨⟨1, f35, rfl, ⟨hT, hR, (by first | decide | omega), hB⟩, by rw [ht]; exact hP, va_K.moved hW.alike hK, hD⟩, hS.F ht⟩) hS.2.2 dX2_readWindow_62
      · have ic24 : r22.toInt = 0 := zi_nef rfl rfl c24
        refine lv_iconst (v := 0) hx hb dX2_readWindow_42 (by decide) ?_
        exact W.zret (v := 0) hx hb hr rfl (fun t ht hW => ⟨⟨0, f17, rfl, ⟨hT, hR, (by first | decide | omega), hB⟩, by rw [ht]; exact hP, va_K.moved hW.alike hK, hD⟩, hS.F ht⟩) hS.2.2 dX2_readWindow_43
  · have ic8 : r6.toInt = 0 := zi_nef rfl rfl c8
    refine lv_iconst (v := 0) hx hb dX2_readWindow_11 (by decide) ?_
    exact W.zret (v := 0) hx hb hr rfl (fun t ht hW => ⟨⟨0, f, rfl, ⟨hT, hR, (by first | decide | omega), hB⟩, by rw [ht]; exact hP, va_K.moved hW.alike hK, hD⟩, hS.F ht⟩) hS.2.2 dX2_readWindow_12
set_option maxHeartbeats 4000000 in
set_option maxRecDepth 100000 in
theorem t_X2_readClause (l : Launch) (dC : Nat → ClassId) (dI : Nat → Nat → Nat) (sz : Nat) (Ω : Nat → (Nat → Nat) → va_E → Prop) (κ : Nat → ClassId) (τ ν : Nat → Nat) (ρ : Nat → Nat → Nat) (L : List Nat) (f : Nat → va_E) (hG : tp_G τ ν ρ L) (hT : tp_T Ω κ τ ν ρ f) (adK adV : Nat → Nat) (zv : Option Nat) (h0 : Nat) (B0 : Int) (ht_h0 : τ h0 = 3) (hB : tp_fld (f h0) 12 = B0) (hBr : B0 = 0) : Met l yX2_readClause wqX2_readClause ({ frames := 81, cells := 0, slots := 0, locals := 32000 }) (va_Pc [.ref h0] (pw_BZ dC dI (tp_K κ) (va_pl L f) sz adK adV zv)) (va_Qi (fun (r : Int32) (f1 : Nat → va_E) => tp_T Ω κ τ ν ρ f1 ∧ tp_F τ [3, 20, 28] f f1 ∧ (0 ≤ r.toInt ∧ r.toInt ≤ 1) ∧ tp_fld (f1 h0) 12 = B0) (fun (f1 : Nat → va_E) (t : State) => pz_E dC dI (tp_K κ) (va_A (va_pl L f) sz) (va_pl L f1) t) (va_A (va_pl L f) sz)) 0 0 (va_A (va_pl L f) sz) := by
  refine Met.ofW (cc := cX2_readClause) (maxL := 1) (ret := some .boolean) (by decide) rfl ?_
  intro p e s m args below meth c s₁ B hml hv
  obtain ⟨rfl, ⟨hsz, hP, hK, hD0, hN⟩, hZ⟩ := hv
  have hx := B.exec
  have hb := B.bytes
  have hr := B.returns
  have hts := fun (w : Cond) (h : w ∈ WALL) => atoms_spec (ws := wqX2_readClause) B.pre w (List.mem_cons_of_mem _ h)
  have hown : s.vm.findClass RX2 = some m.cls := findClass_of_methodNamed B.named
  have hlocks := B.notSynchronized
  subst hsz
  have hD := hD0.self (sz := s.heap.size)
  generalize hAe : va_A (va_pl L f) s.heap.size = A at hD hZ ⊢
  have hA : ∀ q : Nat, s.heap.size ≤ q → A q := fun q h => by rw [← hAe]; exact Or.inr h
  have hS : va_S A s.heap s.heap [] := va_S.rf
  have hR : tp_F τ [3, 20, 28] f f := tp_F.rf
  have hl := lv_entry ([.ref h0]) (n := 1) (Nat.le_of_ble_eq_true rfl)
  rw [lg_entry_eq]
  generalize (lg_sl ([.ref h0]) ++ List.replicate (1 - (lg_sl ([.ref h0])).length) Slot.unset).toArray = ls at hl ⊢
  have hl : lv_has ls 1 [(0, .ref h0)] := hl
  refine lv_aload_n hx hb dX2_readClause_0 rfl (lv_at hl 0 rfl) ?_
  refine va_ldcS hx hb hown (show vk_R RX2 84 "window" (adK 0) s from hZ.2.2.2 0 (by decide)) dX2_readClause_1 ?_
  refine tgk_3 hG ht_h0 (fun y1 y1n y2 y2n y3 y3n => ?_)
  refine tpk_3 hT ht_h0 (fun o4_x1 o4_x2 o4_x3 o4_x4 o4_x5 o4_x6 o4_x8 o4_x10 o4_x11 o4_x12 o4_x13 o4_x14 o4_x15 hf_o4 ro4_0 ro4_1 ro4_2 ro4_3 ro4_4 ro4_5 ro4_6 => ?_)
  have bo4 : o4_x12.toInt = B0 := by have q9 := hB; rw [hf_o4] at q9; exact q9
  refine tpk_pos (tp_in hG ht_h0 (by decide)) hf_o4 (fun q5 eq5 => ?_)
  have hFc := tp_fr hD hS hA
  refine va_calli (va_runV (As := [.ref (adK 0)]) (rest := []) ⟨hx, hb, hml, hown, hts⟩ (t_X2_passWord l dC dI _ Ω κ τ ν ρ L f hG hT adK adV zv h0 0 B0 ht_h0 (by decide) hB) (cwV 1 hts gX2_readClause_X2_passWord rfl rfl rfl ⟨rfl, pd_X2_passWord⟩ ⟨Nat.le_of_ble_eq_true rfl, Nat.le_of_ble_eq_true rfl⟩) ⟨pw_blindZ, va_recv hK hP (ci := 2) (q0 := q5) rfl eq5, pw_preZ hP hK hD hN hZ hS (tp_fr hD hS hA)⟩ rfl rfl hl.1 rfl (lv_room (Nat.le_of_ble_eq_true rfl)) dX2_readClause_3 ⟨Nat.le_of_ble_eq_true rfl, Nat.le_of_ble_eq_true rfl⟩) hS (fun q _ h => hFc q h) hFc (fun r6 f8 t H1 locs ht hvm hw7 hB hz1 hk1 hS => ?_)
  refine tn_4 hw7 (fun hT hF9 hw7r hw7p => ?_); clear hw7
  have hR := hR.then hF9 (by decide)
  have hP := hB.1; rw [ht] at hP; have hD := tp_ad f8 hD; clear hB hFc hz1 hk1; subst ht; generalize t.heap = H at hP hS ⊢
  have hB := hw7p
  refine lv_if_eq (tgt := 14) hx hb dX2_readClause_6 (by decide) (fun c10 => ?_) (fun c10 => ?_)
  · have ic10 : r6.toInt = 0 := zi_eq rfl rfl c10
    refine lv_aload_n hx hb dX2_readClause_14 rfl (lv_at hl 0 rfl) ?_
    refine va_ldcS hx hb hown (show vk_R RX2 93 "at" (adK 1) s from hZ.2.2.2 1 (by decide)) dX2_readClause_15 ?_
    refine tpk_3 hT ht_h0 (fun o11_x1 o11_x2 o11_x3 o11_x4 o11_x5 o11_x6 o11_x8 o11_x10 o11_x11 o11_x12 o11_x13 o11_x14 o11_x15 hf_o11 ro11_0 ro11_1 ro11_2 ro11_3 ro11_4 ro11_5 ro11_6 => ?_)
    have bo11 : o11_x12.toInt = B0 := by have q9 := hB; rw [hf_o11] at q9; exact q9
    refine tpk_pos (tp_in hG ht_h0 (by decide)) hf_o11 (fun q12 eq12 => ?_)
    have hFc := tp_fr hD hS hA
    refine va_calli (va_runV (As := [.ref (adK 1)]) (rest := []) ⟨hx, hb, hml, hown, hts⟩ (t_X2_passWord l dC dI _ Ω κ τ ν ρ L f8 hG hT adK adV zv h0 1 B0 ht_h0 (by decide) hB) (cwV 1 hts gX2_readClause_X2_passWord rfl rfl rfl ⟨rfl, pd_X2_passWord⟩ ⟨Nat.le_of_ble_eq_true rfl, Nat.le_of_ble_eq_true rfl⟩) ⟨pw_blindZ, va_recv hK hP (ci := 2) (q0 := q12) rfl eq12, pw_preZ hP hK hD hN hZ hS (tp_fr hD hS hA)⟩ rfl rfl hl.1 rfl (lv_room (Nat.le_of_ble_eq_true rfl)) dX2_readClause_17 ⟨Nat.le_of_ble_eq_true rfl, Nat.le_of_ble_eq_true rfl⟩) hS (fun q _ h => hFc q h) hFc (fun r13 f15 t H1 locs ht hvm hw14 hB hz1 hk1 hS => ?_)
    refine tn_4 hw14 (fun hT hF16 hw14r hw14p => ?_); clear hw14
    have hR := hR.then hF16 (by decide)
    have hP := hB.1; rw [ht] at hP; have hD := tp_ad f15 hD; clear hB hFc hz1 hk1; subst ht; generalize t.heap = H at hP hS ⊢
    have hB := hw14p
    refine lv_if_eq (tgt := 48) hx hb dX2_readClause_20 (by decide) (fun c17 => ?_) (fun c17 => ?_)
    · have ic17 : r13.toInt = 0 := zi_eq rfl rfl c17
      refine lv_aload_n hx hb dX2_readClause_48 rfl (lv_at hl 0 rfl) ?_
      refine va_ldcS hx hb hown (show vk_R RX2 102 "pay" (adK 2) s from hZ.2.2.2 2 (by decide)) dX2_readClause_49 ?_
      refine tpk_3 hT ht_h0 (fun o18_x1 o18_x2 o18_x3 o18_x4 o18_x5 o18_x6 o18_x8 o18_x10 o18_x11 o18_x12 o18_x13 o18_x14 o18_x15 hf_o18 ro18_0 ro18_1 ro18_2 ro18_3 ro18_4 ro18_5 ro18_6 => ?_)
      have bo18 : o18_x12.toInt = B0 := by have q9 := hB; rw [hf_o18] at q9; exact q9
      refine tpk_pos (tp_in hG ht_h0 (by decide)) hf_o18 (fun q19 eq19 => ?_)
      have hFc := tp_fr hD hS hA
      refine va_calli (va_runV (As := [.ref (adK 2)]) (rest := []) ⟨hx, hb, hml, hown, hts⟩ (t_X2_passWord l dC dI _ Ω κ τ ν ρ L f15 hG hT adK adV zv h0 2 B0 ht_h0 (by decide) hB) (cwV 1 hts gX2_readClause_X2_passWord rfl rfl rfl ⟨rfl, pd_X2_passWord⟩ ⟨Nat.le_of_ble_eq_true rfl, Nat.le_of_ble_eq_true rfl⟩) ⟨pw_blindZ, va_recv hK hP (ci := 2) (q0 := q19) rfl eq19, pw_preZ hP hK hD hN hZ hS (tp_fr hD hS hA)⟩ rfl rfl hl.1 rfl (lv_room (Nat.le_of_ble_eq_true rfl)) dX2_readClause_51 ⟨Nat.le_of_ble_eq_true rfl, Nat.le_of_ble_eq_true rfl⟩) hS (fun q _ h => hFc q h) hFc (fun r20 f22 t H1 locs ht hvm hw21 hB hz1 hk1 hS => ?_)
      refine tn_4 hw21 (fun hT hF23 hw21r hw21p => ?_); clear hw21
      have hR := hR.then hF23 (by decide)
      have hP := hB.1; rw [ht] at hP; have hD := tp_ad f22 hD; clear hB hFc hz1 hk1; subst ht; generalize t.heap = H at hP hS ⊢
      have hB := hw21p
      refine lv_if_eq (tgt := 64) hx hb dX2_readClause_54 (by decide) (fun c24 => ?_) (fun c24 => ?_)
      · have ic24 : r20.toInt = 0 := zi_eq rfl rfl c24
        refine lv_aload_n hx hb dX2_readClause_64 rfl (lv_at hl 0 rfl) ?_
        refine va_ldcS hx hb hown (show vk_R RX2 108 "fine" (adK 3) s from hZ.2.2.2 3 (by decide)) dX2_readClause_65 ?_
        refine tpk_3 hT ht_h0 (fun o25_x1 o25_x2 o25_x3 o25_x4 o25_x5 o25_x6 o25_x8 o25_x10 o25_x11 o25_x12 o25_x13 o25_x14 o25_x15 hf_o25 ro25_0 ro25_1 ro25_2 ro25_3 ro25_4 ro25_5 ro25_6 => ?_)
        have bo25 : o25_x12.toInt = B0 := by have q9 := hB; rw [hf_o25] at q9; exact q9
        refine tpk_pos (tp_in hG ht_h0 (by decide)) hf_o25 (fun q26 eq26 => ?_)
        have hFc := tp_fr hD hS hA
        refine va_calli (va_runV (As := [.ref (adK 3)]) (rest := []) ⟨hx, hb, hml, hown, hts⟩ (t_X2_passWord l dC dI _ Ω κ τ ν ρ L f22 hG hT adK adV zv h0 3 B0 ht_h0 (by decide) hB) (cwV 1 hts gX2_readClause_X2_passWord rfl rfl rfl ⟨rfl, pd_X2_passWord⟩ ⟨Nat.le_of_ble_eq_true rfl, Nat.le_of_ble_eq_true rfl⟩) ⟨pw_blindZ, va_recv hK hP (ci := 2) (q0 := q26) rfl eq26, pw_preZ hP hK hD hN hZ hS (tp_fr hD hS hA)⟩ rfl rfl hl.1 rfl (lv_room (Nat.le_of_ble_eq_true rfl)) dX2_readClause_67 ⟨Nat.le_of_ble_eq_true rfl, Nat.le_of_ble_eq_true rfl⟩) hS (fun q _ h => hFc q h) hFc (fun r27 f29 t H1 locs ht hvm hw28 hB hz1 hk1 hS => ?_)
        refine tn_4 hw28 (fun hT hF30 hw28r hw28p => ?_); clear hw28
        have hR := hR.then hF30 (by decide)
        have hP := hB.1; rw [ht] at hP; have hD := tp_ad f29 hD; clear hB hFc hz1 hk1; subst ht; generalize t.heap = H at hP hS ⊢
        have hB := hw28p
        refine lv_if_eq (tgt := 86) hx hb dX2_readClause_70 (by decide) (fun c31 => ?_) (fun c31 => ?_)
        · have ic31 : r27.toInt = 0 := zi_eq rfl rfl c31
          refine lv_iconst (v := 0) hx hb dX2_readClause_86 (by decide) ?_
          exact W.zret (v := 0) hx hb hr rfl (fun t ht hW => ⟨⟨0, f29, rfl, ⟨hT, hR, (by first | decide | omega), hB⟩, by rw [ht]; exact hP, va_K.moved hW.alike hK, hD⟩, hS.F ht⟩) hS.2.2 dX2_readClause_87
        · have ic31 : r27.toInt ≠ 0 := zi_eqf rfl rfl c31
          refine lv_aload_n hx hb dX2_readClause_73 rfl (lv_at hl 0 rfl) ?_
          refine lv_bipush (v := (-23)) hx hb dX2_readClause_74 (by decide) ?_
          refine tpk_3 hT ht_h0 (fun o32_x1 o32_x2 o32_x3 o32_x4 o32_x5 o32_x6 o32_x8 o32_x10 o32_x11 o32_x12 o32_x13 o32_x14 o32_x15 hf_o32 ro32_0 ro32_1 ro32_2 ro32_3 ro32_4 ro32_5 ro32_6 => ?_)
          have bo32 : o32_x12.toInt = B0 := by have q9 := hB; rw [hf_o32] at q9; exact q9
          refine tpk_pos (tp_in hG ht_h0 (by decide)) hf_o32 (fun q33 eq33 => ?_)
          have hFc := tp_fr hD hS hA
          refine va_calli (va_runV (As := [.int (-23)]) (rest := []) ⟨hx, hb, hml, hown, hts⟩ (t_X2_readMoney l dC dI _ Ω κ τ ν ρ L f29 hG hT adK adV zv h0 ((-23)) B0 ht_h0 (by first | decide | omega) hB (by first | omega | (have : ((-23) : Int32).toInt = (-23) := rfl; omega))) (cwV 1 hts gX2_readClause_X2_readMoney rfl rfl rfl ⟨rfl, pd_X2_readMoney⟩ ⟨Nat.le_of_ble_eq_true rfl, Nat.le_of_ble_eq_true rfl⟩) ⟨pw_blindZ, va_recv hK hP (ci := 2) (q0 := q33) rfl eq33, pw_preZ hP hK hD hN hZ hS (tp_fr hD hS hA)⟩ rfl rfl hl.1 rfl (lv_room (Nat.le_of_ble_eq_true rfl)) dX2_readClause_76 ⟨Nat.le_of_ble_eq_true rfl, Nat.le_of_ble_eq_true rfl⟩) hS (fun q _ h => hFc q h) hFc (fun r34 f36 t H1 locs ht hvm hw35 hB hz1 hk1 hS => ?_)
          refine tn_4 hw35 (fun hT hF37 hw35r hw35p => ?_); clear hw35
          have hR := hR.then hF37 (by decide)
          have hP := hB.1; rw [ht] at hP; have hD := tp_ad f36 hD; clear hB hFc hz1 hk1; subst ht; generalize t.heap = H at hP hS ⊢
          have hB := hw35p
          refine lv_if_eq (tgt := 86) hx hb dX2_readClause_79 (by decide) (fun c38 => ?_) (fun c38 => ?_)
          · have ic38 : r34.toInt = 0 := zi_eq rfl rfl c38
            refine lv_iconst (v := 0) hx hb dX2_readClause_86 (by decide) ?_
            exact W.zret (v := 0) hx hb hr rfl (fun t ht hW => ⟨⟨0, f36, rfl, ⟨hT, hR, (by first | decide | omega), hB⟩, by rw [ht]; exact hP, va_K.moved hW.alike hK, hD⟩, hS.F ht⟩) hS.2.2 dX2_readClause_87
          · have ic38 : r34.toInt ≠ 0 := zi_eqf rfl rfl c38
            refine lv_iconst (v := 1) hx hb dX2_readClause_82 (by decide) ?_
            refine lv_goto (tgt := 87) hx hb dX2_readClause_83 (by decide) ?_
            exact W.zret (v := 1) hx hb hr rfl (fun t ht hW => ⟨⟨1, f36, rfl, ⟨hT, hR, (by first | decide | omega), hB⟩, by rw [ht]; exact hP, va_K.moved hW.alike hK, hD⟩, hS.F ht⟩) hS.2.2 dX2_readClause_87
      · have ic24 : r20.toInt ≠ 0 := zi_eqf rfl rfl c24
        refine lv_aload_n hx hb dX2_readClause_57 rfl (lv_at hl 0 rfl) ?_
        refine lv_bipush (v := (-22)) hx hb dX2_readClause_58 (by decide) ?_
        refine tpk_3 hT ht_h0 (fun o39_x1 o39_x2 o39_x3 o39_x4 o39_x5 o39_x6 o39_x8 o39_x10 o39_x11 o39_x12 o39_x13 o39_x14 o39_x15 hf_o39 ro39_0 ro39_1 ro39_2 ro39_3 ro39_4 ro39_5 ro39_6 => ?_)
        have bo39 : o39_x12.toInt = B0 := by have q9 := hB; rw [hf_o39] at q9; exact q9
        refine tpk_pos (tp_in hG ht_h0 (by decide)) hf_o39 (fun q40 eq40 => ?_)
        have hFc := tp_fr hD hS hA
        refine va_calli (va_runV (As := [.int (-22)]) (rest := []) ⟨hx, hb, hml, hown, hts⟩ (t_X2_readMoney l dC dI _ Ω κ τ ν ρ L f22 hG hT adK adV zv h0 ((-22)) B0 ht_h0 (by first | decide | omega) hB (by first | omega | (have : ((-22) : Int32).toInt = (-22) := rfl; omega))) (cwV 1 hts gX2_readClause_X2_readMoney rfl rfl rfl ⟨rfl, pd_X2_readMoney⟩ ⟨Nat.le_of_ble_eq_true rfl, Nat.le_of_ble_eq_true rfl⟩) ⟨pw_blindZ, va_recv hK hP (ci := 2) (q0 := q40) rfl eq40, pw_preZ hP hK hD hN hZ hS (tp_fr hD hS hA)⟩ rfl rfl hl.1 rfl (lv_room (Nat.le_of_ble_eq_true rfl)) dX2_readClause_60 ⟨Nat.le_of_ble_eq_true rfl, Nat.le_of_ble_eq_true rfl⟩) hS (fun q _ h => hFc q h) hFc (fun r41 f43 t H1 locs ht hvm hw42 hB hz1 hk1 hS => ?_)
        refine tn_4 hw42 (fun hT hF44 hw42r hw42p => ?_); clear hw42
        have hR := hR.then hF44 (by decide)
        have hP := hB.1; rw [ht] at hP; have hD := tp_ad f43 hD; clear hB hFc hz1 hk1; subst ht; generalize t.heap = H at hP hS ⊢
        have hB := hw42p
        exact W.zret (v := r41) hx hb hr (zi_narZ (by omega) (by omega)) (fun t ht hW => ⟨⟨r41, f43, rfl, ⟨hT, hR, (by first | decide | omega), hB⟩, by rw [ht]; exact hP, va_K.moved hW.alike hK, hD⟩, hS.F ht⟩) hS.2.2 dX2_readClause_63
    · have ic17 : r13.toInt ≠ 0 := zi_eqf rfl rfl c17
      refine lv_aload_n hx hb dX2_readClause_23 rfl (lv_at hl 0 rfl) ?_
      refine lv_iconst (v := 0) hx hb dX2_readClause_24 (by decide) ?_
      refine lv_iconst (v := 5) hx hb dX2_readClause_25 (by decide) ?_
      refine tpk_3 hT ht_h0 (fun o45_x1 o45_x2 o45_x3 o45_x4 o45_x5 o45_x6 o45_x8 o45_x10 o45_x11 o45_x12 o45_x13 o45_x14 o45_x15 hf_o45 ro45_0 ro45_1 ro45_2 ro45_3 ro45_4 ro45_5 ro45_6 => ?_)
      have bo45 : o45_x12.toInt = B0 := by have q9 := hB; rw [hf_o45] at q9; exact q9
      refine tpk_pos (tp_in hG ht_h0 (by decide)) hf_o45 (fun q46 eq46 => ?_)
      refine pz_calli (va_runV (As := [.int 0, .int 5]) (rest := []) ⟨hx, hb, hml, hown, hts⟩ (t_X2_isNumber l dC dI _ Ω κ τ ν ρ L f15 hG hT h0 (0) (5) ht_h0) (cwV 2 hts gX2_readClause_X2_isNumber rfl rfl rfl ⟨rfl, pd_X2_isNumber⟩ ⟨Nat.le_of_ble_eq_true rfl, Nat.le_of_ble_eq_true rfl⟩) ⟨pz_blind, va_recv hK hP (ci := 2) (q0 := q46) rfl eq46, pz_pre hP hK hD hN⟩ rfl rfl hl.1 rfl (lv_room (Nat.le_of_ble_eq_true rfl)) dX2_readClause_26 ⟨Nat.le_of_ble_eq_true rfl, Nat.le_of_ble_eq_true rfl⟩) (fun r47 hw48 => ?_)
      obtain ⟨hw48r, hw48p⟩ := hw48
      refine lv_if_ne (tgt := 34) hx hb dX2_readClause_29 (by decide) (fun c49 => ?_) (fun c49 => ?_)
      · have ic49 : r47.toInt ≠ 0 := zi_ne rfl rfl c49
        refine lv_aload_n hx hb dX2_readClause_34 rfl (lv_at hl 0 rfl) ?_
        refine lv_aload_n hx hb dX2_readClause_35 rfl (lv_at hl 0 rfl) ?_
        refine va_get (D := (dC, dI)) (ci := 2) (v := .int o45_x6) (C := RX2) (T := TX2) (N := 16) hx hb hts hfX2 hown hK hP q46 eq46 rfl 6 (by decide) (hts (.fieldLink RX2 99 "ColdShips$Reader" "value" "I") wa_812) (fun _ h9 => h9) rfl dX2_readClause_36 ?_
        refine va_put (D := (dC, dI)) (ci := 2) (v := .int o45_x6) (ty := .int) (C := RX2) (T := TX2) (N := 16) hx hb hts hfX2 tyX2 tyX2_ok nmX2 hown hK hP hD hS q46 eq46 rfl 15 (by decide) (hts (.fieldLink RX2 50 "ColdShips$Reader" "wantedPlace" "I") wa_802) (fun _ h9 => h9) rfl (tyX2_ok 15 (by decide)) rfl rfl (Nat.le_of_ble_eq_true rfl) dX2_readClause_39 (tp_k (.inr (2, [.ref (ρ h0 0), .int o45_x1, .int o45_x2, .int o45_x3, .int o45_x4, .int o45_x5, .int o45_x6, .ref (ρ h0 7), .int o45_x8, .ref (ρ h0 9), .int o45_x10, .int o45_x11, .int o45_x12, .int o45_x13, .int o45_x14, .int o45_x6])) hD (tp_in hG ht_h0 (by decide)) eq46 (fun f50 H locs hP hD hS g52 k51 => ?_))
        have hT := hT.up ht_h0 g52 k51 ⟨_, _, _, _, _, _, _, _, _, _, _, _, _, rfl, (by first | decide | omega | (omega)), (by first | decide | omega | (omega)), (by first | decide | omega | (omega)), (by first | decide | omega | (omega)), (by first | decide | omega | (omega)), (by first | decide | omega | (omega)), (by first | decide | omega | (omega))⟩
        have hR := hR.up ht_h0 (by decide) k51
        have hB : tp_fld (f50 h0) 12 = B0 := by rw [g52]; show (o45_x12).toInt = B0; omega
        refine lv_aload_n hx hb dX2_readClause_42 rfl (lv_at hl 0 rfl) ?_
        refine tpk_pos (tp_in hG ht_h0 (by decide)) g52 (fun q53 eq53 => ?_)
        have hFc := tp_fr hD hS hA
        refine va_callv (va_runV (As := []) (rest := []) ⟨hx, hb, hml, hown, hts⟩ (t_X2_advance l dC dI _ Ω κ τ ν ρ L f50 hG hT h0 B0 ht_h0 hB) (cwV 0 hts gX2_readClause_X2_advance rfl rfl rfl ⟨rfl, pd_X2_advance⟩ ⟨Nat.le_of_ble_eq_true rfl, Nat.le_of_ble_eq_true rfl⟩) ⟨pz_blind, va_recv hK hP (ci := 2) (q0 := q53) rfl eq53, pz_pre hP hK hD hN⟩ rfl rfl hl.1 rfl (lv_room (Nat.le_of_ble_eq_true rfl)) dX2_readClause_43 ⟨Nat.le_of_ble_eq_true rfl, Nat.le_of_ble_eq_true rfl⟩) hS (fun q _ h => hFc q h) hFc (fun f56 t H1 locs ht hvm hw55 hB hz1 hk1 hS => ?_)
        refine tn_3 hw55 (fun hT hF57 hw55p => ?_); clear hw55
        have hR := hR.then hF57 (by decide)
        have hP := hB.1; rw [ht] at hP; have hD := tp_ad f56 hD; clear hB hFc hz1 hk1; subst ht; generalize t.heap = H at hP hS ⊢
        have hB := hw55p
        refine lv_iconst (v := 1) hx hb dX2_readClause_46 (by decide) ?_
        exact W.zret (v := 1) hx hb hr rfl (fun t ht hW => ⟨⟨1, f56, rfl, ⟨hT, hR, (by first | decide | omega), hB⟩, by rw [ht]; exact hP, va_K.moved hW.alike hK, hD⟩, hS.F ht⟩) hS.2.2 dX2_readClause_47
      · have ic49 : r47.toInt = 0 := zi_nef rfl rfl c49
        refine lv_iconst (v := 0) hx hb dX2_readClause_32 (by decide) ?_
        exact W.zret (v := 0) hx hb hr rfl (fun t ht hW => ⟨⟨0, f15, rfl, ⟨hT, hR, (by first | decide | omega), hB⟩, by rw [ht]; exact hP, va_K.moved hW.alike hK, hD⟩, hS.F ht⟩) hS.2.2 dX2_readClause_33
  · have ic10 : r6.toInt ≠ 0 := zi_eqf rfl rfl c10
    refine lv_aload_n hx hb dX2_readClause_9 rfl (lv_at hl 0 rfl) ?_
    refine tpk_3 hT ht_h0 (fun o58_x1 o58_x2 o58_x3 o58_x4 o58_x5 o58_x6 o58_x8 o58_x10 o58_x11 o58_x12 o58_x13 o58_x14 o58_x15 hf_o58 ro58_0 ro58_1 ro58_2 ro58_3 ro58_4 ro58_5 ro58_6 => ?_)
    have bo58 : o58_x12.toInt = B0 := by have q9 := hB; rw [hf_o58] at q9; exact q9
    refine tpk_pos (tp_in hG ht_h0 (by decide)) hf_o58 (fun q59 eq59 => ?_)
    have hFc := tp_fr hD hS hA
    refine va_calli (va_runV (As := []) (rest := []) ⟨hx, hb, hml, hown, hts⟩ (t_X2_readWindow l dC dI _ Ω κ τ ν ρ L f8 hG hT adK adV zv h0 B0 ht_h0 hB (by omega)) (cwV 0 hts gX2_readClause_X2_readWindow rfl rfl rfl ⟨rfl, pd_X2_readWindow⟩ ⟨Nat.le_of_ble_eq_true rfl, Nat.le_of_ble_eq_true rfl⟩) ⟨pw_blindZ, va_recv hK hP (ci := 2) (q0 := q59) rfl eq59, pw_preZ hP hK hD hN hZ hS (tp_fr hD hS hA)⟩ rfl rfl hl.1 rfl (lv_room (Nat.le_of_ble_eq_true rfl)) dX2_readClause_10 ⟨Nat.le_of_ble_eq_true rfl, Nat.le_of_ble_eq_true rfl⟩) hS (fun q _ h => hFc q h) hFc (fun r60 f62 t H1 locs ht hvm hw61 hB hz1 hk1 hS => ?_)
    refine tn_4 hw61 (fun hT hF63 hw61r hw61p => ?_); clear hw61
    have hR := hR.then hF63 (by decide)
    have hP := hB.1; rw [ht] at hP; have hD := tp_ad f62 hD; clear hB hFc hz1 hk1; subst ht; generalize t.heap = H at hP hS ⊢
    have hB := hw61p
    exact W.zret (v := r60) hx hb hr (zi_narZ (by omega) (by omega)) (fun t ht hW => ⟨⟨r60, f62, rfl, ⟨hT, hR, (by first | decide | omega), hB⟩, by rw [ht]; exact hP, va_K.moved hW.alike hK, hD⟩, hS.F ht⟩) hS.2.2 dX2_readClause_13
set_option maxHeartbeats 4000000 in
set_option maxRecDepth 100000 in
theorem t_X2_readClauses (l : Launch) (dC : Nat → ClassId) (dI : Nat → Nat → Nat) (sz : Nat) (Ω : Nat → (Nat → Nat) → va_E → Prop) (κ : Nat → ClassId) (τ ν : Nat → Nat) (ρ : Nat → Nat → Nat) (L : List Nat) (f : Nat → va_E) (hG : tp_G τ ν ρ L) (hT : tp_T Ω κ τ ν ρ f) (adK adV : Nat → Nat) (zv : Option Nat) (h0 : Nat) (B0 : Int) (ht_h0 : τ h0 = 3) (hB : tp_fld (f h0) 12 = B0) (hBr : B0 = 0) : Met l yX2_readClauses wqX2_readClauses ({ frames := 82, cells := 0, slots := 0, locals := 32400 }) (va_Pc [.ref h0] (pw_BZ dC dI (tp_K κ) (va_pl L f) sz adK adV zv)) (va_Qi (fun (r : Int32) (f1 : Nat → va_E) => tp_T Ω κ τ ν ρ f1 ∧ tp_F τ [3, 20, 28] f f1 ∧ (0 ≤ r.toInt ∧ r.toInt ≤ 1) ∧ tp_fld (f1 h0) 12 = B0) (fun (f1 : Nat → va_E) (t : State) => pz_E dC dI (tp_K κ) (va_A (va_pl L f) sz) (va_pl L f1) t) (va_A (va_pl L f) sz)) 0 0 (va_A (va_pl L f) sz) := by
  refine Met.ofW (cc := cX2_readClauses) (maxL := 2) (ret := some .boolean) (by decide) rfl ?_
  intro p e s m args below meth c s₁ B hml hv
  obtain ⟨rfl, ⟨hsz, hP, hK, hD0, hN⟩, hZ⟩ := hv
  have hx := B.exec
  have hb := B.bytes
  have hr := B.returns
  have hts := fun (w : Cond) (h : w ∈ WALL) => atoms_spec (ws := wqX2_readClauses) B.pre w (List.mem_cons_of_mem _ h)
  have hown : s.vm.findClass RX2 = some m.cls := findClass_of_methodNamed B.named
  have hlocks := B.notSynchronized
  subst hsz
  have hD := hD0.self (sz := s.heap.size)
  generalize hAe : va_A (va_pl L f) s.heap.size = A at hD hZ ⊢
  have hA : ∀ q : Nat, s.heap.size ≤ q → A q := fun q h => by rw [← hAe]; exact Or.inr h
  have hS : va_S A s.heap s.heap [] := va_S.rf
  have hR : tp_F τ [3, 20, 28] f f := tp_F.rf
  have hl := lv_entry ([.ref h0]) (n := 2) (Nat.le_of_ble_eq_true rfl)
  rw [lg_entry_eq]
  generalize (lg_sl ([.ref h0]) ++ List.replicate (2 - (lg_sl ([.ref h0])).length) Slot.unset).toArray = ls at hl ⊢
  have hl : lv_has ls 2 [(0, .ref h0)] := hl
  refine lv_iconst (v := 0) hx hb dX2_readClauses_0 (by decide) ?_
  refine lv_istore_n (lv' := [(1, .int 0), (0, .ref h0)]) hx hb dX2_readClauses_1 rfl hl (by decide) rfl (fun ls hl => ?_)
  refine pz_loop (fun n0 H locs ls => ∃ f2 : Nat → va_E, ∃ w1 : Int32, n0 = (12 - (w1.toInt)).toNat ∧ tp_T Ω κ τ ν ρ f2 ∧ tp_F τ [3, 20, 28] f f2 ∧ tp_fld (f2 h0) 12 = B0 ∧ (0 ≤ w1.toInt ∧ w1.toInt ≤ 12) ∧ va_P (dC, dI) vwCl (va_pl L f2) H ∧ va_D A (va_pl L f2) ∧ va_S A s.heap H locs ∧ lv_has ls 2 [(1, .int w1), (0, .ref h0)]) ?_ _ _ _ _ ⟨f, 0, rfl, hT, hR, hB, (by have : (0 : Int32).toInt = 0 := rfl; omega), hP, hD, hS, lv_sub hl [0, 1] rfl⟩
  intro n0 H locs ls hI ih3
  refine Exists.elim hI (fun f2 hE90 => Exists.elim hE90 (fun w1 hE91 => tn_9 hE91 (fun hn4 hT hR hB rw1 hP hD hS hl => ?_)))
  clear hE91 hE90 hI
  refine lv_iload_n hx hb dX2_readClauses_2 rfl (lv_at hl 0 rfl) ?_
  refine lv_bipush (v := 12) hx hb dX2_readClauses_3 (by decide) ?_
  refine lv_icmp_ge (tgt := 43) hx hb dX2_readClauses_5 (by decide) (fun c5 => ?_) (fun c5 => ?_)
  · have ic5 : w1.toInt ≥ 12 := zi_ge rfl rfl c5
    refine lv_iconst (v := 0) hx hb dX2_readClauses_43 (by decide) ?_
    exact W.zret (v := 0) hx hb hr rfl (fun t ht hW => ⟨⟨0, f2, rfl, ⟨hT, hR, (by first | decide | omega), hB⟩, by rw [ht]; exact hP, va_K.moved hW.alike hK, hD⟩, hS.F ht⟩) hS.2.2 dX2_readClauses_44
  · have ic5 : w1.toInt < 12 := zi_gef rfl rfl c5
    refine lv_aload_n hx hb dX2_readClauses_8 rfl (lv_at hl 1 rfl) ?_
    refine tgk_3 hG ht_h0 (fun y6 y6n y7 y7n y8 y8n => ?_)
    refine tpk_3 hT ht_h0 (fun o9_x1 o9_x2 o9_x3 o9_x4 o9_x5 o9_x6 o9_x8 o9_x10 o9_x11 o9_x12 o9_x13 o9_x14 o9_x15 hf_o9 ro9_0 ro9_1 ro9_2 ro9_3 ro9_4 ro9_5 ro9_6 => ?_)
    have bo9 : o9_x12.toInt = B0 := by have q9 := hB; rw [hf_o9] at q9; exact q9
    refine tpk_pos (tp_in hG ht_h0 (by decide)) hf_o9 (fun q10 eq10 => ?_)
    have hFc := tp_fr hD hS hA
    refine va_calli (va_runV (As := []) (rest := []) ⟨hx, hb, hml, hown, hts⟩ (t_X2_readClause l dC dI _ Ω κ τ ν ρ L f2 hG hT adK adV zv h0 B0 ht_h0 hB (by omega)) (cwV 0 hts gX2_readClauses_X2_readClause rfl rfl rfl ⟨rfl, pd_X2_readClause⟩ ⟨Nat.le_of_ble_eq_true rfl, Nat.le_of_ble_eq_true rfl⟩) ⟨pw_blindZ, va_recv hK hP (ci := 2) (q0 := q10) rfl eq10, pw_preZ hP hK hD hN hZ hS (tp_fr hD hS hA)⟩ rfl rfl hl.1 rfl (lv_room (Nat.le_of_ble_eq_true rfl)) dX2_readClauses_9 ⟨Nat.le_of_ble_eq_true rfl, Nat.le_of_ble_eq_true rfl⟩) hS (fun q _ h => hFc q h) hFc (fun r11 f13 t H1 locs ht hvm hw12 hB hz1 hk1 hS => ?_)
    refine tn_4 hw12 (fun hT hF14 hw12r hw12p => ?_); clear hw12
    have hR := hR.then hF14 (by decide)
    have hP := hB.1; rw [ht] at hP; have hD := tp_ad f13 hD; clear hB hFc hz1 hk1; subst ht; generalize t.heap = H at hP hS ⊢
    have hB := hw12p
    refine lv_if_ne (tgt := 17) hx hb dX2_readClauses_12 (by decide) (fun c15 => ?_) (fun c15 => ?_)
    · have ic15 : r11.toInt ≠ 0 := zi_ne rfl rfl c15
      refine lv_aload_n hx hb dX2_readClauses_17 rfl (lv_at hl 1 rfl) ?_
      refine tpk_3 hT ht_h0 (fun o16_x1 o16_x2 o16_x3 o16_x4 o16_x5 o16_x6 o16_x8 o16_x10 o16_x11 o16_x12 o16_x13 o16_x14 o16_x15 hf_o16 ro16_0 ro16_1 ro16_2 ro16_3 ro16_4 ro16_5 ro16_6 => ?_)
      have bo16 : o16_x12.toInt = B0 := by have q9 := hB; rw [hf_o16] at q9; exact q9
      refine tpk_pos (tp_in hG ht_h0 (by decide)) hf_o16 (fun q17 eq17 => ?_)
      refine va_get (D := (dC, dI)) (ci := 2) (v := .int o16_x4) (C := RX2) (T := TX2) (N := 16) hx hb hts hfX2 hown hK hP q17 eq17 rfl 4 (by decide) (hts (.fieldLink RX2 77 "ColdShips$Reader" "kind" "I") wa_811) (fun _ h9 => h9) rfl dX2_readClauses_18 ?_
      refine lv_if_ne (tgt := 26) hx hb dX2_readClauses_21 (by decide) (fun c18 => ?_) (fun c18 => ?_)
      · have ic18 : o16_x4.toInt ≠ 0 := zi_ne rfl rfl c18
        refine lv_aload_n hx hb dX2_readClauses_26 rfl (lv_at hl 1 rfl) ?_
        refine lv_bipush (v := 59) hx hb dX2_readClauses_27 (by decide) ?_
        have hFc := tp_fr hD hS hA
        refine va_calli (va_runV (As := [.int 59]) (rest := []) ⟨hx, hb, hml, hown, hts⟩ (t_X2_passSign l dC dI _ Ω κ τ ν ρ L f13 hG hT h0 (59) B0 ht_h0 hB) (cwV 1 hts gX2_readClauses_X2_passSign rfl rfl rfl ⟨rfl, pd_X2_passSign⟩ ⟨Nat.le_of_ble_eq_true rfl, Nat.le_of_ble_eq_true rfl⟩) ⟨pz_blind, va_recv hK hP (ci := 2) (q0 := q17) rfl eq17, pz_pre hP hK hD hN⟩ rfl rfl hl.1 rfl (lv_room (Nat.le_of_ble_eq_true rfl)) dX2_readClauses_29 ⟨Nat.le_of_ble_eq_true rfl, Nat.le_of_ble_eq_true rfl⟩) hS (fun q _ h => hFc q h) hFc (fun r19 f21 t H1 locs ht hvm hw20 hB hz1 hk1 hS => ?_)
        refine tn_4 hw20 (fun hT hF22 hw20r hw20p => ?_); clear hw20
        have hR := hR.then hF22 (by decide)
        have hP := hB.1; rw [ht] at hP; have hD := tp_ad f21 hD; clear hB hFc hz1 hk1; subst ht; generalize t.heap = H at hP hS ⊢
        have hB := hw20p
        refine lv_if_ne (tgt := 37) hx hb dX2_readClauses_32 (by decide) (fun c23 => ?_) (fun c23 => ?_)
        · have ic23 : r19.toInt ≠ 0 := zi_ne rfl rfl c23
          obtain ⟨z24, ez24⟩ : ∃ y : Int32, y = w1 + 1 := ⟨_, rfl⟩
          refine lv_iinc (v := z24) (lv' := [(1, .int z24), (0, .ref h0)]) hx hb dX2_readClauses_37 hl (k := 0) rfl (by rw [ez24]; rfl) (by decide) rfl (fun ls hl => ?_)
          have iz24 : z24.toInt = w1.toInt + 1 := zi_add ez24 rfl rfl (by omega) (by omega)
          refine lv_goto (tgt := 2) hx hb dX2_readClauses_40 (by decide) ?_
          exact ih3 _ _ _ _ (by rw [hn4]; omega) ⟨f21, z24, rfl, hT, hR, hB, (by omega), hP, hD, hS, lv_sub hl [0, 1] rfl⟩
        · have ic23 : r19.toInt = 0 := zi_nef rfl rfl c23
          refine lv_iconst (v := 0) hx hb dX2_readClauses_35 (by decide) ?_
          exact W.zret (v := 0) hx hb hr rfl (fun t ht hW => ⟨⟨0, f21, rfl, ⟨hT, hR, (by first | decide | omega), hB⟩, by rw [ht]; exact hP, va_K.moved hW.alike hK, hD⟩, hS.F ht⟩) hS.2.2 dX2_readClauses_36
      · have ic18 : o16_x4.toInt = 0 := zi_nef rfl rfl c18
        refine lv_iconst (v := 1) hx hb dX2_readClauses_24 (by decide) ?_
        exact W.zret (v := 1) hx hb hr rfl (fun t ht hW => ⟨⟨1, f13, rfl, ⟨hT, hR, (by first | decide | omega), hB⟩, by rw [ht]; exact hP, va_K.moved hW.alike hK, hD⟩, hS.F ht⟩) hS.2.2 dX2_readClauses_25
    · have ic15 : r11.toInt = 0 := zi_nef rfl rfl c15
      refine lv_iconst (v := 0) hx hb dX2_readClauses_15 (by decide) ?_
      exact W.zret (v := 0) hx hb hr rfl (fun t ht hW => ⟨⟨0, f13, rfl, ⟨hT, hR, (by first | decide | omega), hB⟩, by rw [ht]; exact hP, va_K.moved hW.alike hK, hD⟩, hS.F ht⟩) hS.2.2 dX2_readClauses_16

section
set_option maxHeartbeats 4000000 in
set_option maxRecDepth 100000 in
theorem t_X2_readInBrackets2 (l : Launch) (dC : Nat → ClassId) (dI : Nat → Nat → Nat) (sz : Nat) (Ω : Nat → Nat → (Nat → Nat) → va_E → Prop) (κ : Nat → ClassId) (τ ν : Nat → Nat) (ρ : Nat → Nat → Nat) (L : List Nat) (f : Nat → va_E) (hG : tp_G τ ν ρ L) (hT : tp_T Ω κ τ ν ρ f) (adK adV : Nat → Nat) (zv : Option Nat) (h0 : Nat) (v : Int32) (B0 : Int) (ht_h0 : τ h0 = 3) (hr_v : 0 ≤ v.toInt ∧ v.toInt ≤ 1) (hB : tp_fld (f h0) 12 = B0) (hBr : B0 = 2) : Met l yX2_readInBrackets wqX2_readInBrackets ({ frames := 56, cells := 0, slots := 0, locals := 22000 }) (va_Pc [.ref h0, .int v] (pw_BZ dC dI (tp_K κ) (va_pl L f) sz adK adV zv)) (va_Qi (fun (r : Int32) (f1 : Nat → va_E) => tp_T Ω κ τ ν ρ f1 ∧ tp_F τ [3, 20, 28] f f1 ∧ (0 ≤ r.toInt ∧ r.toInt ≤ 1) ∧ tp_fld (f1 h0) 12 = B0) (fun (f1 : Nat → va_E) (t : State) => pz_E dC dI (tp_K κ) (va_A (va_pl L f) sz) (va_pl L f1) t) (va_A (va_pl L f) sz)) 0 0 (va_A (va_pl L f) sz) := by
  refine Met.ofW (cc := cX2_readInBrackets) (maxL := 3) (ret := some .boolean) (by decide) rfl ?_
  intro p e s m args below meth c s₁ B hml hv
  obtain ⟨rfl, ⟨hsz, hP, hK, hD0, hN⟩, hZ⟩ := hv
  have hx := B.exec
  have hb := B.bytes
  have hr := B.returns
  have hts := fun (w : Cond) (h : w ∈ WALL) => atoms_spec (ws := wqX2_readInBrackets) B.pre w (List.mem_cons_of_mem _ h)
  have hown : s.vm.findClass RX2 = some m.cls := findClass_of_methodNamed B.named
  have hlocks := B.notSynchronized
  subst hsz
  have hD := hD0.self (sz := s.heap.size)
  generalize hAe : va_A (va_pl L f) s.heap.size = A at hD hZ ⊢
  have hA : ∀ q : Nat, s.heap.size ≤ q → A q := fun q h => by rw [← hAe]; exact Or.inr h
  have hS : va_S A s.heap s.heap [] := va_S.rf
  have hR : tp_F τ [3, 20, 28] f f := tp_F.rf
  have hl := lv_entry ([.ref h0, .int v]) (n := 3) (Nat.le_of_ble_eq_true rfl)
  rw [lg_entry_eq]
  generalize (lg_sl ([.ref h0, .int v]) ++ List.replicate (3 - (lg_sl ([.ref h0, .int v])).length) Slot.unset).toArray = ls at hl ⊢
  have hl : lv_has ls 3 [(0, .ref h0), (1, .int v)] := hl
  refine lv_aload_n hx hb dX2_readInBrackets_0 rfl (lv_at hl 0 rfl) ?_
  refine tgk_3 hG ht_h0 (fun y1 y1n y2 y2n y3 y3n => ?_)
  refine tpk_3 hT ht_h0 (fun o4_x1 o4_x2 o4_x3 o4_x4 o4_x5 o4_x6 o4_x8 o4_x10 o4_x11 o4_x12 o4_x13 o4_x14 o4_x15 hf_o4 ro4_0 ro4_1 ro4_2 ro4_3 ro4_4 ro4_5 ro4_6 => ?_)
  have bo4 : o4_x12.toInt = B0 := by have q9 := hB; rw [hf_o4] at q9; exact q9
  refine tpk_pos (tp_in hG ht_h0 (by decide)) hf_o4 (fun q5 eq5 => ?_)
  refine va_get (D := (dC, dI)) (ci := 2) (v := .int o4_x12) (C := RX2) (T := TX2) (N := 16) hx hb hts hfX2 hown hK hP q5 eq5 rfl 12 (by decide) (hts (.fieldLink RX2 41 "ColdShips$Reader" "brackets" "I") wa_799) (fun _ h9 => h9) rfl dX2_readInBrackets_1 ?_
  refine lv_bipush (v := 8) hx hb dX2_readInBrackets_4 (by decide) ?_
  refine lv_icmp_lt (tgt := 11) hx hb dX2_readInBrackets_6 (by decide) (fun c6 => ?_) (fun c6 => ?_)
  · have ic6 : o4_x12.toInt < 8 := zi_lt rfl rfl c6
    refine lv_aload_n hx hb dX2_readInBrackets_11 rfl (lv_at hl 0 rfl) ?_
    refine lv_dup hx hb dX2_readInBrackets_12 rfl ?_
    refine va_get (D := (dC, dI)) (ci := 2) (v := .int o4_x12) (C := RX2) (T := TX2) (N := 16) hx hb hts hfX2 hown hK hP q5 eq5 rfl 12 (by decide) (hts (.fieldLink RX2 41 "ColdShips$Reader" "brackets" "I") wa_799) (fun _ h9 => h9) rfl dX2_readInBrackets_13 ?_
    refine lv_iconst (v := 1) hx hb dX2_readInBrackets_16 (by decide) ?_
    refine lv_iadd hx hb dX2_readInBrackets_17 ?_
    refine lv_topi (fun z7 ez7 => ?_)
    have iz7 : z7.toInt = o4_x12.toInt + 1 := zi_add ez7 rfl rfl (by omega) (by omega)
    refine va_put (D := (dC, dI)) (ci := 2) (v := .int z7) (ty := .int) (C := RX2) (T := TX2) (N := 16) hx hb hts hfX2 tyX2 tyX2_ok nmX2 hown hK hP hD hS q5 eq5 rfl 12 (by decide) (hts (.fieldLink RX2 41 "ColdShips$Reader" "brackets" "I") wa_799) (fun _ h9 => h9) rfl (tyX2_ok 12 (by decide)) rfl rfl (Nat.le_of_ble_eq_true rfl) dX2_readInBrackets_18 (tp_k (.inr (2, [.ref (ρ h0 0), .int o4_x1, .int o4_x2, .int o4_x3, .int o4_x4, .int o4_x5, .int o4_x6, .ref (ρ h0 7), .int o4_x8, .ref (ρ h0 9), .int o4_x10, .int o4_x11, .int z7, .int o4_x13, .int o4_x14, .int o4_x15])) hD (tp_in hG ht_h0 (by decide)) eq5 (fun f8 H locs hP hD hS g10 k9 => ?_))
    have hT := hT.up ht_h0 g10 k9 ⟨_, _, _, _, _, _, _, _, _, _, _, _, _, rfl, ro4_0, ro4_1, ro4_2, ro4_3, ro4_4, ro4_5, ro4_6⟩
    have hR := hR.up ht_h0 (by decide) k9
    have hB : tp_fld (f8 h0) 12 = z7.toInt := by rw [g10]; show (z7).toInt = z7.toInt; rfl
    refine lv_aload_n hx hb dX2_readInBrackets_21 rfl (lv_at hl 0 rfl) ?_
    refine tpk_pos (tp_in hG ht_h0 (by decide)) g10 (fun q11 eq11 => ?_)
    have hFc := tp_fr hD hS hA
    refine va_callv (va_runV (As := []) (rest := []) ⟨hx, hb, hml, hown, hts⟩ (t_X2_advance l dC dI _ Ω κ τ ν ρ L f8 hG hT h0 z7.toInt ht_h0 hB) (cwV 0 hts gX2_readInBrackets_X2_advance rfl rfl rfl ⟨rfl, pd_X2_advance⟩ ⟨Nat.le_of_ble_eq_true rfl, Nat.le_of_ble_eq_true rfl⟩) ⟨pz_blind, va_recv hK hP (ci := 2) (q0 := q11) rfl eq11, pz_pre hP hK hD hN⟩ rfl rfl hl.1 rfl (lv_room (Nat.le_of_ble_eq_true rfl)) dX2_readInBrackets_22 ⟨Nat.le_of_ble_eq_true rfl, Nat.le_of_ble_eq_true rfl⟩) hS (fun q _ h => hFc q h) hFc (fun f14 t H1 locs ht hvm hw13 hB hz1 hk1 hS => ?_)
    refine tn_3 hw13 (fun hT hF15 hw13p => ?_); clear hw13
    have hR := hR.then hF15 (by decide)
    have hP := hB.1; rw [ht] at hP; have hD := tp_ad f14 hD; clear hB hFc hz1 hk1; subst ht; generalize t.heap = H at hP hS ⊢
    have hB := hw13p
    refine lv_iload_n hx hb dX2_readInBrackets_25 rfl (lv_at hl 1 rfl) ?_
    refine tp_join 40 (fun H locs ls stk => ∃ f18 : Nat → va_E, ∃ w16 : Int32, stk = [.int w16] ∧ tp_T Ω κ τ ν ρ f18 ∧ tp_F τ [3, 20, 28] f f18 ∧ tp_fld (f18 h0) 12 = z7.toInt ∧ (0 ≤ w16.toInt ∧ w16.toInt ≤ 1) ∧ va_P (dC, dI) vwCl (va_pl L f18) H ∧ va_D A (va_pl L f18) ∧ va_S A s.heap H locs ∧ lv_has ls 3 [(0, .ref h0), (1, .int v)]) ?_ (fun hj17 => ?_)
    · intro H locs ls stk hI
      refine Exists.elim hI (fun f18 hE90 => Exists.elim hE90 (fun w16 hE91 => tn_9 hE91 (fun e90 hT hR hB rw16 hP hD hS hl => ?_)))
      clear hE91 hE90 hI; subst e90
      refine lv_istore_n (lv' := [(2, .int w16), (0, .ref h0), (1, .int v)]) hx hb dX2_readInBrackets_40 rfl hl (by decide) rfl (fun ls hl => ?_)
      refine lv_aload_n hx hb dX2_readInBrackets_41 rfl (lv_at hl 1 rfl) ?_
      refine lv_dup hx hb dX2_readInBrackets_42 rfl ?_
      refine tpk_3 hT ht_h0 (fun o19_x1 o19_x2 o19_x3 o19_x4 o19_x5 o19_x6 o19_x8 o19_x10 o19_x11 o19_x12 o19_x13 o19_x14 o19_x15 hf_o19 ro19_0 ro19_1 ro19_2 ro19_3 ro19_4 ro19_5 ro19_6 => ?_)
      have bo19 : o19_x12.toInt = z7.toInt := by have q9 := hB; rw [hf_o19] at q9; exact q9
      refine tpk_pos (tp_in hG ht_h0 (by decide)) hf_o19 (fun q20 eq20 => ?_)
      refine va_get (D := (dC, dI)) (ci := 2) (v := .int o19_x12) (C := RX2) (T := TX2) (N := 16) hx hb hts hfX2 hown hK hP q20 eq20 rfl 12 (by decide) (hts (.fieldLink RX2 41 "ColdShips$Reader" "brackets" "I") wa_799) (fun _ h9 => h9) rfl dX2_readInBrackets_43 ?_
      refine lv_iconst (v := 1) hx hb dX2_readInBrackets_46 (by decide) ?_
      refine lv_isub hx hb dX2_readInBrackets_47 ?_
      refine lv_topi (fun z21 ez21 => ?_)
      have iz21 : z21.toInt = o19_x12.toInt - 1 := zi_sub ez21 rfl rfl (by omega) (by omega)
      refine va_put (D := (dC, dI)) (ci := 2) (v := .int z21) (ty := .int) (C := RX2) (T := TX2) (N := 16) hx hb hts hfX2 tyX2 tyX2_ok nmX2 hown hK hP hD hS q20 eq20 rfl 12 (by decide) (hts (.fieldLink RX2 41 "ColdShips$Reader" "brackets" "I") wa_799) (fun _ h9 => h9) rfl (tyX2_ok 12 (by decide)) rfl rfl (Nat.le_of_ble_eq_true rfl) dX2_readInBrackets_48 (tp_k (.inr (2, [.ref (ρ h0 0), .int o19_x1, .int o19_x2, .int o19_x3, .int o19_x4, .int o19_x5, .int o19_x6, .ref (ρ h0 7), .int o19_x8, .ref (ρ h0 9), .int o19_x10, .int o19_x11, .int z21, .int o19_x13, .int o19_x14, .int o19_x15])) hD (tp_in hG ht_h0 (by decide)) eq20 (fun f22 H locs hP hD hS g24 k23 => ?_))
      have hT := hT.up ht_h0 g24 k23 ⟨_, _, _, _, _, _, _, _, _, _, _, _, _, rfl, ro19_0, ro19_1, ro19_2, ro19_3, ro19_4, ro19_5, ro19_6⟩
      have hR := hR.up ht_h0 (by decide) k23
      have hB : tp_fld (f22 h0) 12 = z21.toInt := by rw [g24]; show (z21).toInt = z21.toInt; rfl
      refine lv_iload_n hx hb dX2_readInBrackets_51 rfl (lv_at hl 0 rfl) ?_
      refine lv_if_eq (tgt := 77) hx hb dX2_readInBrackets_52 (by decide) (fun c25 => ?_) (fun c25 => ?_)
      · have ic25 : w16.toInt = 0 := zi_eq rfl rfl c25
        refine lv_iconst (v := 0) hx hb dX2_readInBrackets_77 (by decide) ?_
        exact W.zret (v := 0) hx hb hr rfl (fun t ht hW => ⟨⟨0, f22, rfl, ⟨hT, hR, (by first | decide | omega), (hB.trans (by omega))⟩, by rw [ht]; exact hP, va_K.moved hW.alike hK, hD⟩, hS.F ht⟩) hS.2.2 dX2_readInBrackets_78
      · have ic25 : w16.toInt ≠ 0 := zi_eqf rfl rfl c25
        refine lv_aload_n hx hb dX2_readInBrackets_55 rfl (lv_at hl 1 rfl) ?_
        refine lv_iload_n hx hb dX2_readInBrackets_56 rfl (lv_at hl 2 rfl) ?_
        refine lv_if_eq (tgt := 65) hx hb dX2_readInBrackets_57 (by decide) (fun c26 => ?_) (fun c26 => ?_)
        · have ic26 : v.toInt = 0 := zi_eq rfl rfl c26
          refine lv_bipush (v := 93) hx hb dX2_readInBrackets_65 (by decide) ?_
          refine tpk_pos (tp_in hG ht_h0 (by decide)) g24 (fun q27 eq27 => ?_)
          have hFc := tp_fr hD hS hA
          refine va_calli (va_runV (As := [.int 93]) (rest := []) ⟨hx, hb, hml, hown, hts⟩ (t_X2_passSign l dC dI _ Ω κ τ ν ρ L f22 hG hT h0 (93) z21.toInt ht_h0 hB) (cwV 1 hts gX2_readInBrackets_X2_passSign rfl rfl rfl ⟨rfl, pd_X2_passSign⟩ ⟨Nat.le_of_ble_eq_true rfl, Nat.le_of_ble_eq_true rfl⟩) ⟨pz_blind, va_recv hK hP (ci := 2) (q0 := q27) rfl eq27, pz_pre hP hK hD hN⟩ rfl rfl hl.1 rfl (lv_room (Nat.le_of_ble_eq_true rfl)) dX2_readInBrackets_67 ⟨Nat.le_of_ble_eq_true rfl, Nat.le_of_ble_eq_true rfl⟩) hS (fun q _ h => hFc q h) hFc (fun r28 f30 t H1 locs ht hvm hw29 hB hz1 hk1 hS => ?_)
          refine tn_4 hw29 (fun hT hF31 hw29r hw29p => ?_); clear hw29
          have hR := hR.then hF31 (by decide)
          have hP := hB.1; rw [ht] at hP; have hD := tp_ad f30 hD; clear hB hFc hz1 hk1; subst ht; generalize t.heap = H at hP hS ⊢
          have hB := hw29p
          refine lv_if_eq (tgt := 77) hx hb dX2_readInBrackets_70 (by decide) (fun c32 => ?_) (fun c32 => ?_)
          · have ic32 : r28.toInt = 0 := zi_eq rfl rfl c32
            refine lv_iconst (v := 0) hx hb dX2_readInBrackets_77 (by decide) ?_
            exact W.zret (v := 0) hx hb hr rfl (fun t ht hW => ⟨⟨0, f30, rfl, ⟨hT, hR, (by first | decide | omega), (hB.trans (by omega))⟩, by rw [ht]; exact hP, va_K.moved hW.alike hK, hD⟩, hS.F ht⟩) hS.2.2 dX2_readInBrackets_78
          · have ic32 : r28.toInt ≠ 0 := zi_eqf rfl rfl c32
            refine lv_iconst (v := 1) hx hb dX2_readInBrackets_73 (by decide) ?_
            refine lv_goto (tgt := 78) hx hb dX2_readInBrackets_74 (by decide) ?_
            exact W.zret (v := 1) hx hb hr rfl (fun t ht hW => ⟨⟨1, f30, rfl, ⟨hT, hR, (by first | decide | omega), (hB.trans (by omega))⟩, by rw [ht]; exact hP, va_K.moved hW.alike hK, hD⟩, hS.F ht⟩) hS.2.2 dX2_readInBrackets_78
        · have ic26 : v.toInt ≠ 0 := zi_eqf rfl rfl c26
          refine lv_bipush (v := 41) hx hb dX2_readInBrackets_60 (by decide) ?_
          refine lv_goto (tgt := 67) hx hb dX2_readInBrackets_62 (by decide) ?_
          refine tpk_pos (tp_in hG ht_h0 (by decide)) g24 (fun q33 eq33 => ?_)
          have hFc := tp_fr hD hS hA
          refine va_calli (va_runV (As := [.int 41]) (rest := []) ⟨hx, hb, hml, hown, hts⟩ (t_X2_passSign l dC dI _ Ω κ τ ν ρ L f22 hG hT h0 (41) z21.toInt ht_h0 hB) (cwV 1 hts gX2_readInBrackets_X2_passSign rfl rfl rfl ⟨rfl, pd_X2_passSign⟩ ⟨Nat.le_of_ble_eq_true rfl, Nat.le_of_ble_eq_true rfl⟩) ⟨pz_blind, va_recv hK hP (ci := 2) (q0 := q33) rfl eq33, pz_pre hP hK hD hN⟩ rfl rfl hl.1 rfl (lv_room (Nat.le_of_ble_eq_true rfl)) dX2_readInBrackets_67 ⟨Nat.le_of_ble_eq_true rfl, Nat.le_of_ble_eq_true rfl⟩) hS (fun q _ h => hFc q h) hFc (fun r34 f36 t H1 locs ht hvm hw35 hB hz1 hk1 hS => ?_)
          refine tn_4 hw35 (fun hT hF37 hw35r hw35p => ?_); clear hw35
          have hR := hR.then hF37 (by decide)
          have hP := hB.1; rw [ht] at hP; have hD := tp_ad f36 hD; clear hB hFc hz1 hk1; subst ht; generalize t.heap = H at hP hS ⊢
          have hB := hw35p
          refine lv_if_eq (tgt := 77) hx hb dX2_readInBrackets_70 (by decide) (fun c38 => ?_) (fun c38 => ?_)
          · have ic38 : r34.toInt = 0 := zi_eq rfl rfl c38
            refine lv_iconst (v := 0) hx hb dX2_readInBrackets_77 (by decide) ?_
            exact W.zret (v := 0) hx hb hr rfl (fun t ht hW => ⟨⟨0, f36, rfl, ⟨hT, hR, (by first | decide | omega), (hB.trans (by omega))⟩, by rw [ht]; exact hP, va_K.moved hW.alike hK, hD⟩, hS.F ht⟩) hS.2.2 dX2_readInBrackets_78
          · have ic38 : r34.toInt ≠ 0 := zi_eqf rfl rfl c38
            refine lv_iconst (v := 1) hx hb dX2_readInBrackets_73 (by decide) ?_
            refine lv_goto (tgt := 78) hx hb dX2_readInBrackets_74 (by decide) ?_
            exact W.zret (v := 1) hx hb hr rfl (fun t ht hW => ⟨⟨1, f36, rfl, ⟨hT, hR, (by first | decide | omega), (hB.trans (by omega))⟩, by rw [ht]; exact hP, va_K.moved hW.alike hK, hD⟩, hS.F ht⟩) hS.2.2 dX2_readInBrackets_78
    · refine lv_if_eq (tgt := 36) hx hb dX2_readInBrackets_26 (by decide) (fun c39 => ?_) (fun c39 => ?_)
      · have ic39 : v.toInt = 0 := zi_eq rfl rfl c39
        refine lv_aload_n hx hb dX2_readInBrackets_36 rfl (lv_at hl 0 rfl) ?_
        refine tpk_3 hT ht_h0 (fun o40_x1 o40_x2 o40_x3 o40_x4 o40_x5 o40_x6 o40_x8 o40_x10 o40_x11 o40_x12 o40_x13 o40_x14 o40_x15 hf_o40 ro40_0 ro40_1 ro40_2 ro40_3 ro40_4 ro40_5 ro40_6 => ?_)
        have bo40 : o40_x12.toInt = z7.toInt := by have q9 := hB; rw [hf_o40] at q9; exact q9
        refine tpk_pos (tp_in hG ht_h0 (by decide)) hf_o40 (fun q41 eq41 => ?_)
        have hFc := tp_fr hD hS hA
        refine va_calli (va_runV (As := []) (rest := []) ⟨hx, hb, hml, hown, hts⟩ (t_X2_readSum3 l dC dI _ Ω κ τ ν ρ L f14 hG hT adK adV zv h0 z7.toInt ht_h0 hB (by omega)) (cwV 0 hts gX2_readInBrackets_X2_readSum rfl rfl rfl ⟨rfl, pd_X2_readSum⟩ ⟨Nat.le_of_ble_eq_true rfl, Nat.le_of_ble_eq_true rfl⟩) ⟨pw_blindZ, va_recv hK hP (ci := 2) (q0 := q41) rfl eq41, pw_preZ hP hK hD hN hZ hS (tp_fr hD hS hA)⟩ rfl rfl hl.1 rfl (lv_room (Nat.le_of_ble_eq_true rfl)) dX2_readInBrackets_37 ⟨Nat.le_of_ble_eq_true rfl, Nat.le_of_ble_eq_true rfl⟩) hS (fun q _ h => hFc q h) hFc (fun r42 f44 t H1 locs ht hvm hw43 hB hz1 hk1 hS => ?_)
        refine tn_4 hw43 (fun hT hF45 hw43r hw43p => ?_); clear hw43
        have hR := hR.then hF45 (by decide)
        have hP := hB.1; rw [ht] at hP; have hD := tp_ad f44 hD; clear hB hFc hz1 hk1; subst ht; generalize t.heap = H at hP hS ⊢
        have hB := hw43p
        exact hj17 _ _ _ _ ⟨f44, r42, rfl, hT, hR, hB, (by omega), hP, hD, hS, lv_sub hl [0, 1] rfl⟩
      · have ic39 : v.toInt ≠ 0 := zi_eqf rfl rfl c39
        refine lv_aload_n hx hb dX2_readInBrackets_29 rfl (lv_at hl 0 rfl) ?_
        refine tpk_3 hT ht_h0 (fun o46_x1 o46_x2 o46_x3 o46_x4 o46_x5 o46_x6 o46_x8 o46_x10 o46_x11 o46_x12 o46_x13 o46_x14 o46_x15 hf_o46 ro46_0 ro46_1 ro46_2 ro46_3 ro46_4 ro46_5 ro46_6 => ?_)
        have bo46 : o46_x12.toInt = z7.toInt := by have q9 := hB; rw [hf_o46] at q9; exact q9
        refine tpk_pos (tp_in hG ht_h0 (by decide)) hf_o46 (fun q47 eq47 => ?_)
        have hFc := tp_fr hD hS hA
        refine va_calli (va_runV (As := []) (rest := []) ⟨hx, hb, hml, hown, hts⟩ (t_X2_readTest3 l dC dI _ Ω κ τ ν ρ L f14 hG hT adK adV zv h0 z7.toInt ht_h0 hB (by omega)) (cwV 0 hts gX2_readInBrackets_X2_readTest rfl rfl rfl ⟨rfl, pd_X2_readTest⟩ ⟨Nat.le_of_ble_eq_true rfl, Nat.le_of_ble_eq_true rfl⟩) ⟨pw_blindZ, va_recv hK hP (ci := 2) (q0 := q47) rfl eq47, pw_preZ hP hK hD hN hZ hS (tp_fr hD hS hA)⟩ rfl rfl hl.1 rfl (lv_room (Nat.le_of_ble_eq_true rfl)) dX2_readInBrackets_30 ⟨Nat.le_of_ble_eq_true rfl, Nat.le_of_ble_eq_true rfl⟩) hS (fun q _ h => hFc q h) hFc (fun r48 f50 t H1 locs ht hvm hw49 hB hz1 hk1 hS => ?_)
        refine tn_4 hw49 (fun hT hF51 hw49r hw49p => ?_); clear hw49
        have hR := hR.then hF51 (by decide)
        have hP := hB.1; rw [ht] at hP; have hD := tp_ad f50 hD; clear hB hFc hz1 hk1; subst ht; generalize t.heap = H at hP hS ⊢
        have hB := hw49p
        refine lv_goto (tgt := 40) hx hb dX2_readInBrackets_33 (by decide) ?_
        exact hj17 _ _ _ _ ⟨f50, r48, rfl, hT, hR, hB, (by omega), hP, hD, hS, lv_sub hl [0, 1] rfl⟩
  · have ic6 : o4_x12.toInt ≥ 8 := zi_ltf rfl rfl c6
    exfalso; omega
set_option maxHeartbeats 4000000 in
set_option maxRecDepth 100000 in
theorem t_X2_readPart2 (l : Launch) (dC : Nat → ClassId) (dI : Nat → Nat → Nat) (sz : Nat) (Ω : Nat → Nat → (Nat → Nat) → va_E → Prop) (κ : Nat → ClassId) (τ ν : Nat → Nat) (ρ : Nat → Nat → Nat) (L : List Nat) (f : Nat → va_E) (hG : tp_G τ ν ρ L) (hT : tp_T Ω κ τ ν ρ f) (adK adV : Nat → Nat) (zv : Option Nat) (h0 : Nat) (B0 : Int) (ht_h0 : τ h0 = 3) (hB : tp_fld (f h0) 12 = B0) (hBr : B0 = 2) : Met l yX2_readPart wqX2_readPart ({ frames := 57, cells := 0, slots := 0, locals := 22400 }) (va_Pc [.ref h0] (pw_BZ dC dI (tp_K κ) (va_pl L f) sz adK adV zv)) (va_Qi (fun (r : Int32) (f1 : Nat → va_E) => tp_T Ω κ τ ν ρ f1 ∧ tp_F τ [3, 20, 28] f f1 ∧ (0 ≤ r.toInt ∧ r.toInt ≤ 1) ∧ tp_fld (f1 h0) 12 = B0) (fun (f1 : Nat → va_E) (t : State) => pz_E dC dI (tp_K κ) (va_A (va_pl L f) sz) (va_pl L f1) t) (va_A (va_pl L f) sz)) 0 0 (va_A (va_pl L f) sz) := by
  refine Met.ofW (cc := cX2_readPart) (maxL := 2) (ret := some .boolean) (by decide) rfl ?_
  intro p e s m args below meth c s₁ B hml hv
  obtain ⟨rfl, ⟨hsz, hP, hK, hD0, hN⟩, hZ⟩ := hv
  have hx := B.exec
  have hb := B.bytes
  have hr := B.returns
  have hts := fun (w : Cond) (h : w ∈ WALL) => atoms_spec (ws := wqX2_readPart) B.pre w (List.mem_cons_of_mem _ h)
  have hown : s.vm.findClass RX2 = some m.cls := findClass_of_methodNamed B.named
  have hlocks := B.notSynchronized
  subst hsz
  have hD := hD0.self (sz := s.heap.size)
  generalize hAe : va_A (va_pl L f) s.heap.size = A at hD hZ ⊢
  have hA : ∀ q : Nat, s.heap.size ≤ q → A q := fun q h => by rw [← hAe]; exact Or.inr h
  have hS : va_S A s.heap s.heap [] := va_S.rf
  have hR : tp_F τ [3, 20, 28] f f := tp_F.rf
  have hl := lv_entry ([.ref h0]) (n := 2) (Nat.le_of_ble_eq_true rfl)
  rw [lg_entry_eq]
  generalize (lg_sl ([.ref h0]) ++ List.replicate (2 - (lg_sl ([.ref h0])).length) Slot.unset).toArray = ls at hl ⊢
  have hl : lv_has ls 2 [(0, .ref h0)] := hl
  refine lv_aload_n hx hb dX2_readPart_0 rfl (lv_at hl 0 rfl) ?_
  refine lv_bipush (v := 91) hx hb dX2_readPart_1 (by decide) ?_
  refine tgk_3 hG ht_h0 (fun y1 y1n y2 y2n y3 y3n => ?_)
  refine tpk_3 hT ht_h0 (fun o4_x1 o4_x2 o4_x3 o4_x4 o4_x5 o4_x6 o4_x8 o4_x10 o4_x11 o4_x12 o4_x13 o4_x14 o4_x15 hf_o4 ro4_0 ro4_1 ro4_2 ro4_3 ro4_4 ro4_5 ro4_6 => ?_)
  have bo4 : o4_x12.toInt = B0 := by have q9 := hB; rw [hf_o4] at q9; exact q9
  refine tpk_pos (tp_in hG ht_h0 (by decide)) hf_o4 (fun q5 eq5 => ?_)
  refine pz_calli (va_runV (As := [.int 91]) (rest := []) ⟨hx, hb, hml, hown, hts⟩ (t_X2_isSign l dC dI _ Ω κ τ ν ρ L f hG hT h0 (91) ht_h0) (cwV 1 hts gX2_readPart_X2_isSign rfl rfl rfl ⟨rfl, pd_X2_isSign⟩ ⟨Nat.le_of_ble_eq_true rfl, Nat.le_of_ble_eq_true rfl⟩) ⟨pz_blind, va_recv hK hP (ci := 2) (q0 := q5) rfl eq5, pz_pre hP hK hD hN⟩ rfl rfl hl.1 rfl (lv_room (Nat.le_of_ble_eq_true rfl)) dX2_readPart_3 ⟨Nat.le_of_ble_eq_true rfl, Nat.le_of_ble_eq_true rfl⟩) (fun r6 hw7 => ?_)
  obtain ⟨hw7r, hw7p⟩ := hw7
  refine lv_if_eq (tgt := 15) hx hb dX2_readPart_6 (by decide) (fun c8 => ?_) (fun c8 => ?_)
  · have ic8 : r6.toInt = 0 := zi_eq rfl rfl c8
    refine lv_aload_n hx hb dX2_readPart_15 rfl (lv_at hl 0 rfl) ?_
    refine pz_calli (va_runV (As := []) (rest := []) ⟨hx, hb, hml, hown, hts⟩ (t_X2_leafHere l dC dI _ Ω κ τ ν ρ L f hG hT adK adV zv h0 ht_h0) (cwV 0 hts gX2_readPart_X2_leafHere rfl rfl rfl ⟨rfl, pd_X2_leafHere⟩ ⟨Nat.le_of_ble_eq_true rfl, Nat.le_of_ble_eq_true rfl⟩) ⟨pw_blindZ, va_recv hK hP (ci := 2) (q0 := q5) rfl eq5, pw_preZ hP hK hD hN hZ hS (tp_fr hD hS hA)⟩ rfl rfl hl.1 rfl (lv_room (Nat.le_of_ble_eq_true rfl)) dX2_readPart_16 ⟨Nat.le_of_ble_eq_true rfl, Nat.le_of_ble_eq_true rfl⟩) (fun r9 hw10 => ?_)
    obtain ⟨hw10r, hw10p⟩ := hw10
    refine lv_istore_n (lv' := [(1, .int r9), (0, .ref h0)]) hx hb dX2_readPart_19 rfl hl (by decide) rfl (fun ls hl => ?_)
    refine lv_iload_n hx hb dX2_readPart_20 rfl (lv_at hl 0 rfl) ?_
    refine lv_sipush (v := (-1000)) hx hb dX2_readPart_21 (by decide) ?_
    refine lv_icmp_eq (tgt := 36) hx hb dX2_readPart_24 (by decide) (fun c11 => ?_) (fun c11 => ?_)
    · have ic11 : r9.toInt = (-1000) := zi_eq rfl rfl c11
      refine lv_iconst (v := 0) hx hb dX2_readPart_36 (by decide) ?_
      exact W.zret (v := 0) hx hb hr rfl (fun t ht hW => ⟨⟨0, f, rfl, ⟨hT, hR, (by first | decide | omega), hB⟩, by rw [ht]; exact hP, va_K.moved hW.alike hK, hD⟩, hS.F ht⟩) hS.2.2 dX2_readPart_37
    · have ic11 : r9.toInt ≠ (-1000) := zi_eqf rfl rfl c11
      refine lv_aload_n hx hb dX2_readPart_27 rfl (lv_at hl 1 rfl) ?_
      refine va_get (D := (dC, dI)) (ci := 2) (v := .int o4_x11) (C := RX2) (T := TX2) (N := 16) hx hb hts hfX2 hown hK hP q5 eq5 rfl 11 (by decide) (hts (.fieldLink RX2 38 "ColdShips$Reader" "leaves" "I") wa_798) (fun _ h9 => h9) rfl dX2_readPart_28 ?_
      refine lv_bipush (v := 50) hx hb dX2_readPart_31 (by decide) ?_
      refine lv_icmp_lt (tgt := 38) hx hb dX2_readPart_33 (by decide) (fun c12 => ?_) (fun c12 => ?_)
      · have ic12 : o4_x11.toInt < 50 := zi_lt rfl rfl c12
        refine lv_aload_n hx hb dX2_readPart_38 rfl (lv_at hl 1 rfl) ?_
        refine lv_dup hx hb dX2_readPart_39 rfl ?_
        refine va_get (D := (dC, dI)) (ci := 2) (v := .int o4_x11) (C := RX2) (T := TX2) (N := 16) hx hb hts hfX2 hown hK hP q5 eq5 rfl 11 (by decide) (hts (.fieldLink RX2 38 "ColdShips$Reader" "leaves" "I") wa_798) (fun _ h9 => h9) rfl dX2_readPart_40 ?_
        refine lv_iconst (v := 1) hx hb dX2_readPart_43 (by decide) ?_
        refine lv_iadd hx hb dX2_readPart_44 ?_
        refine lv_topi (fun z13 ez13 => ?_)
        have := zi_bd o4_x11
        have iz13 : z13.toInt = o4_x11.toInt + 1 := zi_add ez13 rfl rfl (by omega) (by omega)
        refine va_put (D := (dC, dI)) (ci := 2) (v := .int z13) (ty := .int) (C := RX2) (T := TX2) (N := 16) hx hb hts hfX2 tyX2 tyX2_ok nmX2 hown hK hP hD hS q5 eq5 rfl 11 (by decide) (hts (.fieldLink RX2 38 "ColdShips$Reader" "leaves" "I") wa_798) (fun _ h9 => h9) rfl (tyX2_ok 11 (by decide)) rfl rfl (Nat.le_of_ble_eq_true rfl) dX2_readPart_45 (tp_k (.inr (2, [.ref (ρ h0 0), .int o4_x1, .int o4_x2, .int o4_x3, .int o4_x4, .int o4_x5, .int o4_x6, .ref (ρ h0 7), .int o4_x8, .ref (ρ h0 9), .int o4_x10, .int z13, .int o4_x12, .int o4_x13, .int o4_x14, .int o4_x15])) hD (tp_in hG ht_h0 (by decide)) eq5 (fun f14 H locs hP hD hS g16 k15 => ?_))
        have hT := hT.up ht_h0 g16 k15 ⟨_, _, _, _, _, _, _, _, _, _, _, _, _, rfl, ro4_0, ro4_1, ro4_2, ro4_3, ro4_4, ro4_5, ro4_6⟩
        have hR := hR.up ht_h0 (by decide) k15
        have hB : tp_fld (f14 h0) 12 = B0 := by rw [g16]; show (o4_x12).toInt = B0; omega
        refine lv_aload_n hx hb dX2_readPart_48 rfl (lv_at hl 1 rfl) ?_
        refine lv_iload_n hx hb dX2_readPart_49 rfl (lv_at hl 0 rfl) ?_
        refine tpk_pos (tp_in hG ht_h0 (by decide)) g16 (fun q17 eq17 => ?_)
        have hFc := tp_fr hD hS hA
        refine va_callv (va_runV (As := [.int r9]) (rest := []) ⟨hx, hb, hml, hown, hts⟩ (t_X2_emit l dC dI _ Ω κ τ ν ρ L f14 hG hT h0 r9 B0 ht_h0 (by first | decide | omega) hB) (cwV 1 hts gX2_readPart_X2_emit rfl rfl rfl ⟨rfl, pd_X2_emit⟩ ⟨Nat.le_of_ble_eq_true rfl, Nat.le_of_ble_eq_true rfl⟩) ⟨pz_blind, va_recv hK hP (ci := 2) (q0 := q17) rfl eq17, pz_pre hP hK hD hN⟩ rfl rfl hl.1 rfl (lv_room (Nat.le_of_ble_eq_true rfl)) dX2_readPart_50 ⟨Nat.le_of_ble_eq_true rfl, Nat.le_of_ble_eq_true rfl⟩) hS (fun q _ h => hFc q h) hFc (fun f20 t H1 locs ht hvm hw19 hB hz1 hk1 hS => ?_)
        refine tn_3 hw19 (fun hT hF21 hw19p => ?_); clear hw19
        have hR := hR.then hF21 (by decide)
        have hP := hB.1; rw [ht] at hP; have hD := tp_ad f20 hD; clear hB hFc hz1 hk1; subst ht; generalize t.heap = H at hP hS ⊢
        have hB := hw19p
        refine lv_aload_n hx hb dX2_readPart_53 rfl (lv_at hl 1 rfl) ?_
        refine tpk_3 hT ht_h0 (fun o22_x1 o22_x2 o22_x3 o22_x4 o22_x5 o22_x6 o22_x8 o22_x10 o22_x11 o22_x12 o22_x13 o22_x14 o22_x15 hf_o22 ro22_0 ro22_1 ro22_2 ro22_3 ro22_4 ro22_5 ro22_6 => ?_)
        have bo22 : o22_x12.toInt = B0 := by have q9 := hB; rw [hf_o22] at q9; exact q9
        refine tpk_pos (tp_in hG ht_h0 (by decide)) hf_o22 (fun q23 eq23 => ?_)
        have hFc := tp_fr hD hS hA
        refine va_callv (va_runV (As := []) (rest := []) ⟨hx, hb, hml, hown, hts⟩ (t_X2_advance l dC dI _ Ω κ τ ν ρ L f20 hG hT h0 B0 ht_h0 hB) (cwV 0 hts gX2_readPart_X2_advance rfl rfl rfl ⟨rfl, pd_X2_advance⟩ ⟨Nat.le_of_ble_eq_true rfl, Nat.le_of_ble_eq_true rfl⟩) ⟨pz_blind, va_recv hK hP (ci := 2) (q0 := q23) rfl eq23, pz_pre hP hK hD hN⟩ rfl rfl hl.1 rfl (lv_room (Nat.le_of_ble_eq_true rfl)) dX2_readPart_54 ⟨Nat.le_of_ble_eq_true rfl, Nat.le_of_ble_eq_true rfl⟩) hS (fun q _ h => hFc q h) hFc (fun f26 t H1 locs ht hvm hw25 hB hz1 hk1 hS => ?_)
        refine tn_3 hw25 (fun hT hF27 hw25p => ?_); clear hw25
        have hR := hR.then hF27 (by decide)
        have hP := hB.1; rw [ht] at hP; have hD := tp_ad f26 hD; clear hB hFc hz1 hk1; subst ht; generalize t.heap = H at hP hS ⊢
        have hB := hw25p
        refine lv_iconst (v := 1) hx hb dX2_readPart_57 (by decide) ?_
        exact W.zret (v := 1) hx hb hr rfl (fun t ht hW => ⟨⟨1, f26, rfl, ⟨hT, hR, (by first | decide | omega), hB⟩, by rw [ht]; exact hP, va_K.moved hW.alike hK, hD⟩, hS.F ht⟩) hS.2.2 dX2_readPart_58
      · have ic12 : o4_x11.toInt ≥ 50 := zi_ltf rfl rfl c12
        refine lv_iconst (v := 0) hx hb dX2_readPart_36 (by decide) ?_
        exact W.zret (v := 0) hx hb hr rfl (fun t ht hW => ⟨⟨0, f, rfl, ⟨hT, hR, (by first | decide | omega), hB⟩, by rw [ht]; exact hP, va_K.moved hW.alike hK, hD⟩, hS.F ht⟩) hS.2.2 dX2_readPart_37
  · have ic8 : r6.toInt ≠ 0 := zi_eqf rfl rfl c8
    refine lv_aload_n hx hb dX2_readPart_9 rfl (lv_at hl 0 rfl) ?_
    refine lv_iconst (v := 0) hx hb dX2_readPart_10 (by decide) ?_
    have hFc := tp_fr hD hS hA
    refine va_calli (va_runV (As := [.int 0]) (rest := []) ⟨hx, hb, hml, hown, hts⟩ (t_X2_readInBrackets2 l dC dI _ Ω κ τ ν ρ L f hG hT adK adV zv h0 (0) B0 ht_h0 (by first | decide | omega) hB (by first | omega | (have : (0 : Int32).toInt = 0 := rfl; omega))) (cwV 1 hts gX2_readPart_X2_readInBrackets rfl rfl rfl ⟨rfl, pd_X2_readInBrackets⟩ ⟨Nat.le_of_ble_eq_true rfl, Nat.le_of_ble_eq_true rfl⟩) ⟨pw_blindZ, va_recv hK hP (ci := 2) (q0 := q5) rfl eq5, pw_preZ hP hK hD hN hZ hS (tp_fr hD hS hA)⟩ rfl rfl hl.1 rfl (lv_room (Nat.le_of_ble_eq_true rfl)) dX2_readPart_11 ⟨Nat.le_of_ble_eq_true rfl, Nat.le_of_ble_eq_true rfl⟩) hS (fun q _ h => hFc q h) hFc (fun r28 f30 t H1 locs ht hvm hw29 hB hz1 hk1 hS => ?_)
    refine tn_4 hw29 (fun hT hF31 hw29r hw29p => ?_); clear hw29
    have hR := hR.then hF31 (by decide)
    have hP := hB.1; rw [ht] at hP; have hD := tp_ad f30 hD; clear hB hFc hz1 hk1; subst ht; generalize t.heap = H at hP hS ⊢
    have hB := hw29p
    exact W.zret (v := r28) hx hb hr (zi_narZ (by omega) (by omega)) (fun t ht hW => ⟨⟨r28, f30, rfl, ⟨hT, hR, (by first | decide | omega), hB⟩, by rw [ht]; exact hP, va_K.moved hW.alike hK, hD⟩, hS.F ht⟩) hS.2.2 dX2_readPart_14
set_option maxHeartbeats 4000000 in
set_option maxRecDepth 100000 in
theorem t_X2_readTerm2 (l : Launch) (dC : Nat → ClassId) (dI : Nat → Nat → Nat) (sz : Nat) (Ω : Nat → Nat → (Nat → Nat) → va_E → Prop) (κ : Nat → ClassId) (τ ν : Nat → Nat) (ρ : Nat → Nat → Nat) (L : List Nat) (f : Nat → va_E) (hG : tp_G τ ν ρ L) (hT : tp_T Ω κ τ ν ρ f) (adK adV : Nat → Nat) (zv : Option Nat) (h0 : Nat) (B0 : Int) (ht_h0 : τ h0 = 3) (hB : tp_fld (f h0) 12 = B0) (hBr : B0 = 2) : Met l yX2_readTerm wqX2_readTerm ({ frames := 58, cells := 0, slots := 0, locals := 22800 }) (va_Pc [.ref h0] (pw_BZ dC dI (tp_K κ) (va_pl L f) sz adK adV zv)) (va_Qi (fun (r : Int32) (f1 : Nat → va_E) => tp_T Ω κ τ ν ρ f1 ∧ tp_F τ [3, 20, 28] f f1 ∧ (0 ≤ r.toInt ∧ r.toInt ≤ 1) ∧ tp_fld (f1 h0) 12 = B0) (fun (f1 : Nat → va_E) (t : State) => pz_E dC dI (tp_K κ) (va_A (va_pl L f) sz) (va_pl L f1) t) (va_A (va_pl L f) sz)) 0 0 (va_A (va_pl L f) sz) := by
  refine Met.ofW (cc := cX2_readTerm) (maxL := 3) (ret := some .boolean) (by decide) rfl ?_
  intro p e s m args below meth c s₁ B hml hv
  obtain ⟨rfl, ⟨hsz, hP, hK, hD0, hN⟩, hZ⟩ := hv
  have hx := B.exec
  have hb := B.bytes
  have hr := B.returns
  have hts := fun (w : Cond) (h : w ∈ WALL) => atoms_spec (ws := wqX2_readTerm) B.pre w (List.mem_cons_of_mem _ h)
  have hown : s.vm.findClass RX2 = some m.cls := findClass_of_methodNamed B.named
  have hlocks := B.notSynchronized
  subst hsz
  have hD := hD0.self (sz := s.heap.size)
  generalize hAe : va_A (va_pl L f) s.heap.size = A at hD hZ ⊢
  have hA : ∀ q : Nat, s.heap.size ≤ q → A q := fun q h => by rw [← hAe]; exact Or.inr h
  have hS : va_S A s.heap s.heap [] := va_S.rf
  have hR : tp_F τ [3, 20, 28] f f := tp_F.rf
  have hl := lv_entry ([.ref h0]) (n := 3) (Nat.le_of_ble_eq_true rfl)
  rw [lg_entry_eq]
  generalize (lg_sl ([.ref h0]) ++ List.replicate (3 - (lg_sl ([.ref h0])).length) Slot.unset).toArray = ls at hl ⊢
  have hl : lv_has ls 3 [(0, .ref h0)] := hl
  refine lv_aload_n hx hb dX2_readTerm_0 rfl (lv_at hl 0 rfl) ?_
  refine tgk_3 hG ht_h0 (fun y1 y1n y2 y2n y3 y3n => ?_)
  refine tpk_3 hT ht_h0 (fun o4_x1 o4_x2 o4_x3 o4_x4 o4_x5 o4_x6 o4_x8 o4_x10 o4_x11 o4_x12 o4_x13 o4_x14 o4_x15 hf_o4 ro4_0 ro4_1 ro4_2 ro4_3 ro4_4 ro4_5 ro4_6 => ?_)
  have bo4 : o4_x12.toInt = B0 := by have q9 := hB; rw [hf_o4] at q9; exact q9
  refine tpk_pos (tp_in hG ht_h0 (by decide)) hf_o4 (fun q5 eq5 => ?_)
  have hFc := tp_fr hD hS hA
  refine va_calli (va_runV (As := []) (rest := []) ⟨hx, hb, hml, hown, hts⟩ (t_X2_readPart2 l dC dI _ Ω κ τ ν ρ L f hG hT adK adV zv h0 B0 ht_h0 hB (by omega)) (cwV 0 hts gX2_readTerm_X2_readPart rfl rfl rfl ⟨rfl, pd_X2_readPart⟩ ⟨Nat.le_of_ble_eq_true rfl, Nat.le_of_ble_eq_true rfl⟩) ⟨pw_blindZ, va_recv hK hP (ci := 2) (q0 := q5) rfl eq5, pw_preZ hP hK hD hN hZ hS (tp_fr hD hS hA)⟩ rfl rfl hl.1 rfl (lv_room (Nat.le_of_ble_eq_true rfl)) dX2_readTerm_1 ⟨Nat.le_of_ble_eq_true rfl, Nat.le_of_ble_eq_true rfl⟩) hS (fun q _ h => hFc q h) hFc (fun r6 f8 t H1 locs ht hvm hw7 hB hz1 hk1 hS => ?_)
  refine tn_4 hw7 (fun hT hF9 hw7r hw7p => ?_); clear hw7
  have hR := hR.then hF9 (by decide)
  have hP := hB.1; rw [ht] at hP; have hD := tp_ad f8 hD; clear hB hFc hz1 hk1; subst ht; generalize t.heap = H at hP hS ⊢
  have hB := hw7p
  refine lv_if_ne (tgt := 9) hx hb dX2_readTerm_4 (by decide) (fun c10 => ?_) (fun c10 => ?_)
  · have ic10 : r6.toInt ≠ 0 := zi_ne rfl rfl c10
    refine lv_iconst (v := 0) hx hb dX2_readTerm_9 (by decide) ?_
    refine lv_istore_n (lv' := [(1, .int 0), (0, .ref h0)]) hx hb dX2_readTerm_10 rfl hl (by decide) rfl (fun ls hl => ?_)
    refine pz_loop (fun n0 H locs ls => ∃ f12 : Nat → va_E, ∃ w11 : Int32, n0 = (400 - (w11.toInt)).toNat ∧ tp_T Ω κ τ ν ρ f12 ∧ tp_F τ [3, 20, 28] f f12 ∧ tp_fld (f12 h0) 12 = B0 ∧ (0 ≤ w11.toInt ∧ w11.toInt ≤ 400) ∧ va_P (dC, dI) vwCl (va_pl L f12) H ∧ va_D A (va_pl L f12) ∧ va_S A s.heap H locs ∧ lv_has ls 3 [(1, .int w11), (0, .ref h0)]) ?_ _ _ _ _ ⟨f8, 0, rfl, hT, hR, hB, (by have : (0 : Int32).toInt = 0 := rfl; omega), hP, hD, hS, lv_sub hl [0, 1] rfl⟩
    intro n0 H locs ls hI ih13
    refine Exists.elim hI (fun f12 hE90 => Exists.elim hE90 (fun w11 hE91 => tn_9 hE91 (fun hn14 hT hR hB rw11 hP hD hS hl => ?_)))
    clear hE91 hE90 hI
    refine lv_iload_n hx hb dX2_readTerm_11 rfl (lv_at hl 0 rfl) ?_
    refine lv_sipush (v := 400) hx hb dX2_readTerm_12 (by decide) ?_
    refine lv_icmp_ge (tgt := 77) hx hb dX2_readTerm_15 (by decide) (fun c15 => ?_) (fun c15 => ?_)
    · have ic15 : w11.toInt ≥ 400 := zi_ge rfl rfl c15
      refine lv_iconst (v := 1) hx hb dX2_readTerm_77 (by decide) ?_
      exact W.zret (v := 1) hx hb hr rfl (fun t ht hW => ⟨⟨1, f12, rfl, ⟨hT, hR, (by first | decide | omega), hB⟩, by rw [ht]; exact hP, va_K.moved hW.alike hK, hD⟩, hS.F ht⟩) hS.2.2 dX2_readTerm_78
    · have ic15 : w11.toInt < 400 := zi_gef rfl rfl c15
      refine lv_aload_n hx hb dX2_readTerm_18 rfl (lv_at hl 1 rfl) ?_
      refine lv_bipush (v := 42) hx hb dX2_readTerm_19 (by decide) ?_
      refine tpk_3 hT ht_h0 (fun o16_x1 o16_x2 o16_x3 o16_x4 o16_x5 o16_x6 o16_x8 o16_x10 o16_x11 o16_x12 o16_x13 o16_x14 o16_x15 hf_o16 ro16_0 ro16_1 ro16_2 ro16_3 ro16_4 ro16_5 ro16_6 => ?_)
      have bo16 : o16_x12.toInt = B0 := by have q9 := hB; rw [hf_o16] at q9; exact q9
      refine tpk_pos (tp_in hG ht_h0 (by decide)) hf_o16 (fun q17 eq17 => ?_)
      refine pz_calli (va_runV (As := [.int 42]) (rest := []) ⟨hx, hb, hml, hown, hts⟩ (t_X2_isSign l dC dI _ Ω κ τ ν ρ L f12 hG hT h0 (42) ht_h0) (cwV 1 hts gX2_readTerm_X2_isSign rfl rfl rfl ⟨rfl, pd_X2_isSign⟩ ⟨Nat.le_of_ble_eq_true rfl, Nat.le_of_ble_eq_true rfl⟩) ⟨pz_blind, va_recv hK hP (ci := 2) (q0 := q17) rfl eq17, pz_pre hP hK hD hN⟩ rfl rfl hl.1 rfl (lv_room (Nat.le_of_ble_eq_true rfl)) dX2_readTerm_21 ⟨Nat.le_of_ble_eq_true rfl, Nat.le_of_ble_eq_true rfl⟩) (fun r18 hw19 => ?_)
      obtain ⟨hw19r, hw19p⟩ := hw19
      refine tp_join 36 (fun H locs ls stk => stk = [] ∧ va_P (dC, dI) vwCl (va_pl L f12) H ∧ va_D A (va_pl L f12) ∧ va_S A s.heap H locs ∧ lv_has ls 3 [(1, .int w11), (0, .ref h0)]) ?_ (fun hj20 => ?_)
      · intro H locs ls stk hI
        refine tn_5 hI (fun e90 hP hD hS hl => ?_)
        clear hI; subst e90
        refine lv_aload_n hx hb dX2_readTerm_36 rfl (lv_at hl 1 rfl) ?_
        refine lv_bipush (v := 42) hx hb dX2_readTerm_37 (by decide) ?_
        refine pz_calli (va_runV (As := [.int 42]) (rest := []) ⟨hx, hb, hml, hown, hts⟩ (t_X2_isSign l dC dI _ Ω κ τ ν ρ L f12 hG hT h0 (42) ht_h0) (cwV 1 hts gX2_readTerm_X2_isSign rfl rfl rfl ⟨rfl, pd_X2_isSign⟩ ⟨Nat.le_of_ble_eq_true rfl, Nat.le_of_ble_eq_true rfl⟩) ⟨pz_blind, va_recv hK hP (ci := 2) (q0 := q17) rfl eq17, pz_pre hP hK hD hN⟩ rfl rfl hl.1 rfl (lv_room (Nat.le_of_ble_eq_true rfl)) dX2_readTerm_39 ⟨Nat.le_of_ble_eq_true rfl, Nat.le_of_ble_eq_true rfl⟩) (fun r21 hw22 => ?_)
        obtain ⟨hw22r, hw22p⟩ := hw22
        refine tp_join 52 (fun H locs ls stk => ∃ w23 : Int32, stk = [.int w23] ∧ ((-14) ≤ w23.toInt ∧ w23.toInt ≤ (-13)) ∧ va_P (dC, dI) vwCl (va_pl L f12) H ∧ va_D A (va_pl L f12) ∧ va_S A s.heap H locs ∧ lv_has ls 3 [(1, .int w11), (0, .ref h0)]) ?_ (fun hj24 => ?_)
        · intro H locs ls stk hI
          refine Exists.elim hI (fun w23 hE90 => tn_6 hE90 (fun e90 rw23 hP hD hS hl => ?_))
          clear hE90 hI; subst e90
          refine lv_istore_n (lv' := [(2, .int w23), (1, .int w11), (0, .ref h0)]) hx hb dX2_readTerm_52 rfl hl (by decide) rfl (fun ls hl => ?_)
          refine lv_aload_n hx hb dX2_readTerm_53 rfl (lv_at hl 2 rfl) ?_
          have hFc := tp_fr hD hS hA
          refine va_callv (va_runV (As := []) (rest := []) ⟨hx, hb, hml, hown, hts⟩ (t_X2_advance l dC dI _ Ω κ τ ν ρ L f12 hG hT h0 B0 ht_h0 hB) (cwV 0 hts gX2_readTerm_X2_advance rfl rfl rfl ⟨rfl, pd_X2_advance⟩ ⟨Nat.le_of_ble_eq_true rfl, Nat.le_of_ble_eq_true rfl⟩) ⟨pz_blind, va_recv hK hP (ci := 2) (q0 := q17) rfl eq17, pz_pre hP hK hD hN⟩ rfl rfl hl.1 rfl (lv_room (Nat.le_of_ble_eq_true rfl)) dX2_readTerm_54 ⟨Nat.le_of_ble_eq_true rfl, Nat.le_of_ble_eq_true rfl⟩) hS (fun q _ h => hFc q h) hFc (fun f27 t H1 locs ht hvm hw26 hB hz1 hk1 hS => ?_)
          refine tn_3 hw26 (fun hT hF28 hw26p => ?_); clear hw26
          have hR := hR.then hF28 (by decide)
          have hP := hB.1; rw [ht] at hP; have hD := tp_ad f27 hD; clear hB hFc hz1 hk1; subst ht; generalize t.heap = H at hP hS ⊢
          have hB := hw26p
          refine lv_aload_n hx hb dX2_readTerm_57 rfl (lv_at hl 2 rfl) ?_
          refine tpk_3 hT ht_h0 (fun o29_x1 o29_x2 o29_x3 o29_x4 o29_x5 o29_x6 o29_x8 o29_x10 o29_x11 o29_x12 o29_x13 o29_x14 o29_x15 hf_o29 ro29_0 ro29_1 ro29_2 ro29_3 ro29_4 ro29_5 ro29_6 => ?_)
          have bo29 : o29_x12.toInt = B0 := by have q9 := hB; rw [hf_o29] at q9; exact q9
          refine tpk_pos (tp_in hG ht_h0 (by decide)) hf_o29 (fun q30 eq30 => ?_)
          have hFc := tp_fr hD hS hA
          refine va_calli (va_runV (As := []) (rest := []) ⟨hx, hb, hml, hown, hts⟩ (t_X2_readPart2 l dC dI _ Ω κ τ ν ρ L f27 hG hT adK adV zv h0 B0 ht_h0 hB (by omega)) (cwV 0 hts gX2_readTerm_X2_readPart rfl rfl rfl ⟨rfl, pd_X2_readPart⟩ ⟨Nat.le_of_ble_eq_true rfl, Nat.le_of_ble_eq_true rfl⟩) ⟨pw_blindZ, va_recv hK hP (ci := 2) (q0 := q30) rfl eq30, pw_preZ hP hK hD hN hZ hS (tp_fr hD hS hA)⟩ rfl rfl hl.1 rfl (lv_room (Nat.le_of_ble_eq_true rfl)) dX2_readTerm_58 ⟨Nat.le_of_ble_eq_true rfl, Nat.le_of_ble_eq_true rfl⟩) hS (fun q _ h => hFc q h) hFc (fun r31 f33 t H1 locs ht hvm hw32 hB hz1 hk1 hS => ?_)
          refine tn_4 hw32 (fun hT hF34 hw32r hw32p => ?_); clear hw32
          have hR := hR.then hF34 (by decide)
          have hP := hB.1; rw [ht] at hP; have hD := tp_ad f33 hD; clear hB hFc hz1 hk1; subst ht; generalize t.heap = H at hP hS ⊢
          have hB := hw32p
          refine lv_if_ne (tgt := 66) hx hb dX2_readTerm_61 (by decide) (fun c35 => ?_) (fun c35 => ?_)
          · have ic35 : r31.toInt ≠ 0 := zi_ne rfl rfl c35
            refine lv_aload_n hx hb dX2_readTerm_66 rfl (lv_at hl 2 rfl) ?_
            refine lv_iload_n hx hb dX2_readTerm_67 rfl (lv_at hl 0 rfl) ?_
            refine tpk_3 hT ht_h0 (fun o36_x1 o36_x2 o36_x3 o36_x4 o36_x5 o36_x6 o36_x8 o36_x10 o36_x11 o36_x12 o36_x13 o36_x14 o36_x15 hf_o36 ro36_0 ro36_1 ro36_2 ro36_3 ro36_4 ro36_5 ro36_6 => ?_)
            have bo36 : o36_x12.toInt = B0 := by have q9 := hB; rw [hf_o36] at q9; exact q9
            refine tpk_pos (tp_in hG ht_h0 (by decide)) hf_o36 (fun q37 eq37 => ?_)
            have hFc := tp_fr hD hS hA
            refine va_callv (va_runV (As := [.int w23]) (rest := []) ⟨hx, hb, hml, hown, hts⟩ (t_X2_emit l dC dI _ Ω κ τ ν ρ L f33 hG hT h0 w23 B0 ht_h0 (by first | decide | omega) hB) (cwV 1 hts gX2_readTerm_X2_emit rfl rfl rfl ⟨rfl, pd_X2_emit⟩ ⟨Nat.le_of_ble_eq_true rfl, Nat.le_of_ble_eq_true rfl⟩) ⟨pz_blind, va_recv hK hP (ci := 2) (q0 := q37) rfl eq37, pz_pre hP hK hD hN⟩ rfl rfl hl.1 rfl (lv_room (Nat.le_of_ble_eq_true rfl)) dX2_readTerm_68 ⟨Nat.le_of_ble_eq_true rfl, Nat.le_of_ble_eq_true rfl⟩) hS (fun q _ h => hFc q h) hFc (fun f40 t H1 locs ht hvm hw39 hB hz1 hk1 hS => ?_)
            refine tn_3 hw39 (fun hT hF41 hw39p => ?_); clear hw39
            have hR := hR.then hF41 (by decide)
            have hP := hB.1; rw [ht] at hP; have hD := tp_ad f40 hD; clear hB hFc hz1 hk1; subst ht; generalize t.heap = H at hP hS ⊢
            have hB := hw39p
            obtain ⟨z42, ez42⟩ : ∃ y : Int32, y = w11 + 1 := ⟨_, rfl⟩
            refine lv_iinc (v := z42) (lv' := [(1, .int z42), (2, .int w23), (0, .ref h0)]) hx hb dX2_readTerm_71 hl (k := 1) rfl (by rw [ez42]; rfl) (by decide) rfl (fun ls hl => ?_)
            have iz42 : z42.toInt = w11.toInt + 1 := zi_add ez42 rfl rfl (by omega) (by omega)
            refine lv_goto (tgt := 11) hx hb dX2_readTerm_74 (by decide) ?_
            exact ih13 _ _ _ _ (by rw [hn14]; omega) ⟨f40, z42, rfl, hT, hR, hB, (by omega), hP, hD, hS, lv_sub hl [0, 2] rfl⟩
          · have ic35 : r31.toInt = 0 := zi_nef rfl rfl c35
            refine lv_iconst (v := 0) hx hb dX2_readTerm_64 (by decide) ?_
            exact W.zret (v := 0) hx hb hr rfl (fun t ht hW => ⟨⟨0, f33, rfl, ⟨hT, hR, (by first | decide | omega), hB⟩, by rw [ht]; exact hP, va_K.moved hW.alike hK, hD⟩, hS.F ht⟩) hS.2.2 dX2_readTerm_65
        · refine lv_if_eq (tgt := 50) hx hb dX2_readTerm_42 (by decide) (fun c43 => ?_) (fun c43 => ?_)
          · have ic43 : r21.toInt = 0 := zi_eq rfl rfl c43
            refine lv_bipush (v := (-14)) hx hb dX2_readTerm_50 (by decide) ?_
            exact hj24 _ _ _ _ ⟨(-14), rfl, (by have : ((-14) : Int32).toInt = (-14) := rfl; omega), hP, hD, hS, lv_sub hl [0, 1] rfl⟩
          · have ic43 : r21.toInt ≠ 0 := zi_eqf rfl rfl c43
            refine lv_bipush (v := (-13)) hx hb dX2_readTerm_45 (by decide) ?_
            refine lv_goto (tgt := 52) hx hb dX2_readTerm_47 (by decide) ?_
            exact hj24 _ _ _ _ ⟨(-13), rfl, (by have : ((-13) : Int32).toInt = (-13) := rfl; omega), hP, hD, hS, lv_sub hl [0, 1] rfl⟩
      · refine lv_if_ne (tgt := 36) hx hb dX2_readTerm_24 (by decide) (fun c44 => ?_) (fun c44 => ?_)
        · have ic44 : r18.toInt ≠ 0 := zi_ne rfl rfl c44
          exact hj20 _ _ _ _ ⟨rfl, hP, hD, hS, lv_sub hl [0, 1] rfl⟩
        · have ic44 : r18.toInt = 0 := zi_nef rfl rfl c44
          refine lv_aload_n hx hb dX2_readTerm_27 rfl (lv_at hl 1 rfl) ?_
          refine lv_bipush (v := 47) hx hb dX2_readTerm_28 (by decide) ?_
          refine pz_calli (va_runV (As := [.int 47]) (rest := []) ⟨hx, hb, hml, hown, hts⟩ (t_X2_isSign l dC dI _ Ω κ τ ν ρ L f12 hG hT h0 (47) ht_h0) (cwV 1 hts gX2_readTerm_X2_isSign rfl rfl rfl ⟨rfl, pd_X2_isSign⟩ ⟨Nat.le_of_ble_eq_true rfl, Nat.le_of_ble_eq_true rfl⟩) ⟨pz_blind, va_recv hK hP (ci := 2) (q0 := q17) rfl eq17, pz_pre hP hK hD hN⟩ rfl rfl hl.1 rfl (lv_room (Nat.le_of_ble_eq_true rfl)) dX2_readTerm_30 ⟨Nat.le_of_ble_eq_true rfl, Nat.le_of_ble_eq_true rfl⟩) (fun r45 hw46 => ?_)
          obtain ⟨hw46r, hw46p⟩ := hw46
          refine lv_if_eq (tgt := 77) hx hb dX2_readTerm_33 (by decide) (fun c47 => ?_) (fun c47 => ?_)
          · have ic47 : r45.toInt = 0 := zi_eq rfl rfl c47
            refine lv_iconst (v := 1) hx hb dX2_readTerm_77 (by decide) ?_
            exact W.zret (v := 1) hx hb hr rfl (fun t ht hW => ⟨⟨1, f12, rfl, ⟨hT, hR, (by first | decide | omega), hB⟩, by rw [ht]; exact hP, va_K.moved hW.alike hK, hD⟩, hS.F ht⟩) hS.2.2 dX2_readTerm_78
          · have ic47 : r45.toInt ≠ 0 := zi_eqf rfl rfl c47
            exact hj20 _ _ _ _ ⟨rfl, hP, hD, hS, lv_sub hl [0, 1] rfl⟩
  · have ic10 : r6.toInt = 0 := zi_nef rfl rfl c10
    refine lv_iconst (v := 0) hx hb dX2_readTerm_7 (by decide) ?_
    exact W.zret (v := 0) hx hb hr rfl (fun t ht hW => ⟨⟨0, f8, rfl, ⟨hT, hR, (by first | decide | omega), hB⟩, by rw [ht]; exact hP, va_K.moved hW.alike hK, hD⟩, hS.F ht⟩) hS.2.2 dX2_readTerm_8
set_option maxHeartbeats 4000000 in
set_option maxRecDepth 100000 in
theorem t_X2_readSum2 (l : Launch) (dC : Nat → ClassId) (dI : Nat → Nat → Nat) (sz : Nat) (Ω : Nat → Nat → (Nat → Nat) → va_E → Prop) (κ : Nat → ClassId) (τ ν : Nat → Nat) (ρ : Nat → Nat → Nat) (L : List Nat) (f : Nat → va_E) (hG : tp_G τ ν ρ L) (hT : tp_T Ω κ τ ν ρ f) (adK adV : Nat → Nat) (zv : Option Nat) (h0 : Nat) (B0 : Int) (ht_h0 : τ h0 = 3) (hB : tp_fld (f h0) 12 = B0) (hBr : B0 = 2) : Met l yX2_readSum wqX2_readSum ({ frames := 59, cells := 0, slots := 0, locals := 23200 }) (va_Pc [.ref h0] (pw_BZ dC dI (tp_K κ) (va_pl L f) sz adK adV zv)) (va_Qi (fun (r : Int32) (f1 : Nat → va_E) => tp_T Ω κ τ ν ρ f1 ∧ tp_F τ [3, 20, 28] f f1 ∧ (0 ≤ r.toInt ∧ r.toInt ≤ 1) ∧ tp_fld (f1 h0) 12 = B0) (fun (f1 : Nat → va_E) (t : State) => pz_E dC dI (tp_K κ) (va_A (va_pl L f) sz) (va_pl L f1) t) (va_A (va_pl L f) sz)) 0 0 (va_A (va_pl L f) sz) := by
  refine Met.ofW (cc := cX2_readSum) (maxL := 3) (ret := some .boolean) (by decide) rfl ?_
  intro p e s m args below meth c s₁ B hml hv
  obtain ⟨rfl, ⟨hsz, hP, hK, hD0, hN⟩, hZ⟩ := hv
  have hx := B.exec
  have hb := B.bytes
  have hr := B.returns
  have hts := fun (w : Cond) (h : w ∈ WALL) => atoms_spec (ws := wqX2_readSum) B.pre w (List.mem_cons_of_mem _ h)
  have hown : s.vm.findClass RX2 = some m.cls := findClass_of_methodNamed B.named
  have hlocks := B.notSynchronized
  subst hsz
  have hD := hD0.self (sz := s.heap.size)
  generalize hAe : va_A (va_pl L f) s.heap.size = A at hD hZ ⊢
  have hA : ∀ q : Nat, s.heap.size ≤ q → A q := fun q h => by rw [← hAe]; exact Or.inr h
  have hS : va_S A s.heap s.heap [] := va_S.rf
  have hR : tp_F τ [3, 20, 28] f f := tp_F.rf
  have hl := lv_entry ([.ref h0]) (n := 3) (Nat.le_of_ble_eq_true rfl)
  rw [lg_entry_eq]
  generalize (lg_sl ([.ref h0]) ++ List.replicate (3 - (lg_sl ([.ref h0])).length) Slot.unset).toArray = ls at hl ⊢
  have hl : lv_has ls 3 [(0, .ref h0)] := hl
  refine lv_aload_n hx hb dX2_readSum_0 rfl (lv_at hl 0 rfl) ?_
  refine tgk_3 hG ht_h0 (fun y1 y1n y2 y2n y3 y3n => ?_)
  refine tpk_3 hT ht_h0 (fun o4_x1 o4_x2 o4_x3 o4_x4 o4_x5 o4_x6 o4_x8 o4_x10 o4_x11 o4_x12 o4_x13 o4_x14 o4_x15 hf_o4 ro4_0 ro4_1 ro4_2 ro4_3 ro4_4 ro4_5 ro4_6 => ?_)
  have bo4 : o4_x12.toInt = B0 := by have q9 := hB; rw [hf_o4] at q9; exact q9
  refine tpk_pos (tp_in hG ht_h0 (by decide)) hf_o4 (fun q5 eq5 => ?_)
  have hFc := tp_fr hD hS hA
  refine va_calli (va_runV (As := []) (rest := []) ⟨hx, hb, hml, hown, hts⟩ (t_X2_readTerm2 l dC dI _ Ω κ τ ν ρ L f hG hT adK adV zv h0 B0 ht_h0 hB (by omega)) (cwV 0 hts gX2_readSum_X2_readTerm rfl rfl rfl ⟨rfl, pd_X2_readTerm⟩ ⟨Nat.le_of_ble_eq_true rfl, Nat.le_of_ble_eq_true rfl⟩) ⟨pw_blindZ, va_recv hK hP (ci := 2) (q0 := q5) rfl eq5, pw_preZ hP hK hD hN hZ hS (tp_fr hD hS hA)⟩ rfl rfl hl.1 rfl (lv_room (Nat.le_of_ble_eq_true rfl)) dX2_readSum_1 ⟨Nat.le_of_ble_eq_true rfl, Nat.le_of_ble_eq_true rfl⟩) hS (fun q _ h => hFc q h) hFc (fun r6 f8 t H1 locs ht hvm hw7 hB hz1 hk1 hS => ?_)
  refine tn_4 hw7 (fun hT hF9 hw7r hw7p => ?_); clear hw7
  have hR := hR.then hF9 (by decide)
  have hP := hB.1; rw [ht] at hP; have hD := tp_ad f8 hD; clear hB hFc hz1 hk1; subst ht; generalize t.heap = H at hP hS ⊢
  have hB := hw7p
  refine lv_if_ne (tgt := 9) hx hb dX2_readSum_4 (by decide) (fun c10 => ?_) (fun c10 => ?_)
  · have ic10 : r6.toInt ≠ 0 := zi_ne rfl rfl c10
    refine lv_iconst (v := 0) hx hb dX2_readSum_9 (by decide) ?_
    refine lv_istore_n (lv' := [(1, .int 0), (0, .ref h0)]) hx hb dX2_readSum_10 rfl hl (by decide) rfl (fun ls hl => ?_)
    refine pz_loop (fun n0 H locs ls => ∃ f12 : Nat → va_E, ∃ w11 : Int32, n0 = (400 - (w11.toInt)).toNat ∧ tp_T Ω κ τ ν ρ f12 ∧ tp_F τ [3, 20, 28] f f12 ∧ tp_fld (f12 h0) 12 = B0 ∧ (0 ≤ w11.toInt ∧ w11.toInt ≤ 400) ∧ va_P (dC, dI) vwCl (va_pl L f12) H ∧ va_D A (va_pl L f12) ∧ va_S A s.heap H locs ∧ lv_has ls 3 [(1, .int w11), (0, .ref h0)]) ?_ _ _ _ _ ⟨f8, 0, rfl, hT, hR, hB, (by have : (0 : Int32).toInt = 0 := rfl; omega), hP, hD, hS, lv_sub hl [0, 1] rfl⟩
    intro n0 H locs ls hI ih13
    refine Exists.elim hI (fun f12 hE90 => Exists.elim hE90 (fun w11 hE91 => tn_9 hE91 (fun hn14 hT hR hB rw11 hP hD hS hl => ?_)))
    clear hE91 hE90 hI
    refine lv_iload_n hx hb dX2_readSum_11 rfl (lv_at hl 0 rfl) ?_
    refine lv_sipush (v := 400) hx hb dX2_readSum_12 (by decide) ?_
    refine lv_icmp_ge (tgt := 77) hx hb dX2_readSum_15 (by decide) (fun c15 => ?_) (fun c15 => ?_)
    · have ic15 : w11.toInt ≥ 400 := zi_ge rfl rfl c15
      refine lv_iconst (v := 1) hx hb dX2_readSum_77 (by decide) ?_
      exact W.zret (v := 1) hx hb hr rfl (fun t ht hW => ⟨⟨1, f12, rfl, ⟨hT, hR, (by first | decide | omega), hB⟩, by rw [ht]; exact hP, va_K.moved hW.alike hK, hD⟩, hS.F ht⟩) hS.2.2 dX2_readSum_78
    · have ic15 : w11.toInt < 400 := zi_gef rfl rfl c15
      refine lv_aload_n hx hb dX2_readSum_18 rfl (lv_at hl 1 rfl) ?_
      refine lv_bipush (v := 43) hx hb dX2_readSum_19 (by decide) ?_
      refine tpk_3 hT ht_h0 (fun o16_x1 o16_x2 o16_x3 o16_x4 o16_x5 o16_x6 o16_x8 o16_x10 o16_x11 o16_x12 o16_x13 o16_x14 o16_x15 hf_o16 ro16_0 ro16_1 ro16_2 ro16_3 ro16_4 ro16_5 ro16_6 => ?_)
      have bo16 : o16_x12.toInt = B0 := by have q9 := hB; rw [hf_o16] at q9; exact q9
      refine tpk_pos (tp_in hG ht_h0 (by decide)) hf_o16 (fun q17 eq17 => ?_)
      refine pz_calli (va_runV (As := [.int 43]) (rest := []) ⟨hx, hb, hml, hown, hts⟩ (t_X2_isSign l dC dI _ Ω κ τ ν ρ L f12 hG hT h0 (43) ht_h0) (cwV 1 hts gX2_readSum_X2_isSign rfl rfl rfl ⟨rfl, pd_X2_isSign⟩ ⟨Nat.le_of_ble_eq_true rfl, Nat.le_of_ble_eq_true rfl⟩) ⟨pz_blind, va_recv hK hP (ci := 2) (q0 := q17) rfl eq17, pz_pre hP hK hD hN⟩ rfl rfl hl.1 rfl (lv_room (Nat.le_of_ble_eq_true rfl)) dX2_readSum_21 ⟨Nat.le_of_ble_eq_true rfl, Nat.le_of_ble_eq_true rfl⟩) (fun r18 hw19 => ?_)
      obtain ⟨hw19r, hw19p⟩ := hw19
      refine tp_join 36 (fun H locs ls stk => stk = [] ∧ va_P (dC, dI) vwCl (va_pl L f12) H ∧ va_D A (va_pl L f12) ∧ va_S A s.heap H locs ∧ lv_has ls 3 [(1, .int w11), (0, .ref h0)]) ?_ (fun hj20 => ?_)
      · intro H locs ls stk hI
        refine tn_5 hI (fun e90 hP hD hS hl => ?_)
        clear hI; subst e90
        refine lv_aload_n hx hb dX2_readSum_36 rfl (lv_at hl 1 rfl) ?_
        refine lv_bipush (v := 43) hx hb dX2_readSum_37 (by decide) ?_
        refine pz_calli (va_runV (As := [.int 43]) (rest := []) ⟨hx, hb, hml, hown, hts⟩ (t_X2_isSign l dC dI _ Ω κ τ ν ρ L f12 hG hT h0 (43) ht_h0) (cwV 1 hts gX2_readSum_X2_isSign rfl rfl rfl ⟨rfl, pd_X2_isSign⟩ ⟨Nat.le_of_ble_eq_true rfl, Nat.le_of_ble_eq_true rfl⟩) ⟨pz_blind, va_recv hK hP (ci := 2) (q0 := q17) rfl eq17, pz_pre hP hK hD hN⟩ rfl rfl hl.1 rfl (lv_room (Nat.le_of_ble_eq_true rfl)) dX2_readSum_39 ⟨Nat.le_of_ble_eq_true rfl, Nat.le_of_ble_eq_true rfl⟩) (fun r21 hw22 => ?_)
        obtain ⟨hw22r, hw22p⟩ := hw22
        refine tp_join 52 (fun H locs ls stk => ∃ w23 : Int32, stk = [.int w23] ∧ ((-12) ≤ w23.toInt ∧ w23.toInt ≤ (-11)) ∧ va_P (dC, dI) vwCl (va_pl L f12) H ∧ va_D A (va_pl L f12) ∧ va_S A s.heap H locs ∧ lv_has ls 3 [(1, .int w11), (0, .ref h0)]) ?_ (fun hj24 => ?_)
        · intro H locs ls stk hI
          refine Exists.elim hI (fun w23 hE90 => tn_6 hE90 (fun e90 rw23 hP hD hS hl => ?_))
          clear hE90 hI; subst e90
          refine lv_istore_n (lv' := [(2, .int w23), (1, .int w11), (0, .ref h0)]) hx hb dX2_readSum_52 rfl hl (by decide) rfl (fun ls hl => ?_)
          refine lv_aload_n hx hb dX2_readSum_53 rfl (lv_at hl 2 rfl) ?_
          have hFc := tp_fr hD hS hA
          refine va_callv (va_runV (As := []) (rest := []) ⟨hx, hb, hml, hown, hts⟩ (t_X2_advance l dC dI _ Ω κ τ ν ρ L f12 hG hT h0 B0 ht_h0 hB) (cwV 0 hts gX2_readSum_X2_advance rfl rfl rfl ⟨rfl, pd_X2_advance⟩ ⟨Nat.le_of_ble_eq_true rfl, Nat.le_of_ble_eq_true rfl⟩) ⟨pz_blind, va_recv hK hP (ci := 2) (q0 := q17) rfl eq17, pz_pre hP hK hD hN⟩ rfl rfl hl.1 rfl (lv_room (Nat.le_of_ble_eq_true rfl)) dX2_readSum_54 ⟨Nat.le_of_ble_eq_true rfl, Nat.le_of_ble_eq_true rfl⟩) hS (fun q _ h => hFc q h) hFc (fun f27 t H1 locs ht hvm hw26 hB hz1 hk1 hS => ?_)
          refine tn_3 hw26 (fun hT hF28 hw26p => ?_); clear hw26
          have hR := hR.then hF28 (by decide)
          have hP := hB.1; rw [ht] at hP; have hD := tp_ad f27 hD; clear hB hFc hz1 hk1; subst ht; generalize t.heap = H at hP hS ⊢
          have hB := hw26p
          refine lv_aload_n hx hb dX2_readSum_57 rfl (lv_at hl 2 rfl) ?_
          refine tpk_3 hT ht_h0 (fun o29_x1 o29_x2 o29_x3 o29_x4 o29_x5 o29_x6 o29_x8 o29_x10 o29_x11 o29_x12 o29_x13 o29_x14 o29_x15 hf_o29 ro29_0 ro29_1 ro29_2 ro29_3 ro29_4 ro29_5 ro29_6 => ?_)
          have bo29 : o29_x12.toInt = B0 := by have q9 := hB; rw [hf_o29] at q9; exact q9
          refine tpk_pos (tp_in hG ht_h0 (by decide)) hf_o29 (fun q30 eq30 => ?_)
          have hFc := tp_fr hD hS hA
          refine va_calli (va_runV (As := []) (rest := []) ⟨hx, hb, hml, hown, hts⟩ (t_X2_readTerm2 l dC dI _ Ω κ τ ν ρ L f27 hG hT adK adV zv h0 B0 ht_h0 hB (by omega)) (cwV 0 hts gX2_readSum_X2_readTerm rfl rfl rfl ⟨rfl, pd_X2_readTerm⟩ ⟨Nat.le_of_ble_eq_true rfl, Nat.le_of_ble_eq_true rfl⟩) ⟨pw_blindZ, va_recv hK hP (ci := 2) (q0 := q30) rfl eq30, pw_preZ hP hK hD hN hZ hS (tp_fr hD hS hA)⟩ rfl rfl hl.1 rfl (lv_room (Nat.le_of_ble_eq_true rfl)) dX2_readSum_58 ⟨Nat.le_of_ble_eq_true rfl, Nat.le_of_ble_eq_true rfl⟩) hS (fun q _ h => hFc q h) hFc (fun r31 f33 t H1 locs ht hvm hw32 hB hz1 hk1 hS => ?_)
          refine tn_4 hw32 (fun hT hF34 hw32r hw32p => ?_); clear hw32
          have hR := hR.then hF34 (by decide)
          have hP := hB.1; rw [ht] at hP; have hD := tp_ad f33 hD; clear hB hFc hz1 hk1; subst ht; generalize t.heap = H at hP hS ⊢
          have hB := hw32p
          refine lv_if_ne (tgt := 66) hx hb dX2_readSum_61 (by decide) (fun c35 => ?_) (fun c35 => ?_)
          · have ic35 : r31.toInt ≠ 0 := zi_ne rfl rfl c35
            refine lv_aload_n hx hb dX2_readSum_66 rfl (lv_at hl 2 rfl) ?_
            refine lv_iload_n hx hb dX2_readSum_67 rfl (lv_at hl 0 rfl) ?_
            refine tpk_3 hT ht_h0 (fun o36_x1 o36_x2 o36_x3 o36_x4 o36_x5 o36_x6 o36_x8 o36_x10 o36_x11 o36_x12 o36_x13 o36_x14 o36_x15 hf_o36 ro36_0 ro36_1 ro36_2 ro36_3 ro36_4 ro36_5 ro36_6 => ?_)
            have bo36 : o36_x12.toInt = B0 := by have q9 := hB; rw [hf_o36] at q9; exact q9
            refine tpk_pos (tp_in hG ht_h0 (by decide)) hf_o36 (fun q37 eq37 => ?_)
            have hFc := tp_fr hD hS hA
            refine va_callv (va_runV (As := [.int w23]) (rest := []) ⟨hx, hb, hml, hown, hts⟩ (t_X2_emit l dC dI _ Ω κ τ ν ρ L f33 hG hT h0 w23 B0 ht_h0 (by first | decide | omega) hB) (cwV 1 hts gX2_readSum_X2_emit rfl rfl rfl ⟨rfl, pd_X2_emit⟩ ⟨Nat.le_of_ble_eq_true rfl, Nat.le_of_ble_eq_true rfl⟩) ⟨pz_blind, va_recv hK hP (ci := 2) (q0 := q37) rfl eq37, pz_pre hP hK hD hN⟩ rfl rfl hl.1 rfl (lv_room (Nat.le_of_ble_eq_true rfl)) dX2_readSum_68 ⟨Nat.le_of_ble_eq_true rfl, Nat.le_of_ble_eq_true rfl⟩) hS (fun q _ h => hFc q h) hFc (fun f40 t H1 locs ht hvm hw39 hB hz1 hk1 hS => ?_)
            refine tn_3 hw39 (fun hT hF41 hw39p => ?_); clear hw39
            have hR := hR.then hF41 (by decide)
            have hP := hB.1; rw [ht] at hP; have hD := tp_ad f40 hD; clear hB hFc hz1 hk1; subst ht; generalize t.heap = H at hP hS ⊢
            have hB := hw39p
            obtain ⟨z42, ez42⟩ : ∃ y : Int32, y = w11 + 1 := ⟨_, rfl⟩
            refine lv_iinc (v := z42) (lv' := [(1, .int z42), (2, .int w23), (0, .ref h0)]) hx hb dX2_readSum_71 hl (k := 1) rfl (by rw [ez42]; rfl) (by decide) rfl (fun ls hl => ?_)
            have iz42 : z42.toInt = w11.toInt + 1 := zi_add ez42 rfl rfl (by omega) (by omega)
            refine lv_goto (tgt := 11) hx hb dX2_readSum_74 (by decide) ?_
            exact ih13 _ _ _ _ (by rw [hn14]; omega) ⟨f40, z42, rfl, hT, hR, hB, (by omega), hP, hD, hS, lv_sub hl [0, 2] rfl⟩
          · have ic35 : r31.toInt = 0 := zi_nef rfl rfl c35
            refine lv_iconst (v := 0) hx hb dX2_readSum_64 (by decide) ?_
            exact W.zret (v := 0) hx hb hr rfl (fun t ht hW => ⟨⟨0, f33, rfl, ⟨hT, hR, (by first | decide | omega), hB⟩, by rw [ht]; exact hP, va_K.moved hW.alike hK, hD⟩, hS.F ht⟩) hS.2.2 dX2_readSum_65
        · refine lv_if_eq (tgt := 50) hx hb dX2_readSum_42 (by decide) (fun c43 => ?_) (fun c43 => ?_)
          · have ic43 : r21.toInt = 0 := zi_eq rfl rfl c43
            refine lv_bipush (v := (-12)) hx hb dX2_readSum_50 (by decide) ?_
            exact hj24 _ _ _ _ ⟨(-12), rfl, (by have : ((-12) : Int32).toInt = (-12) := rfl; omega), hP, hD, hS, lv_sub hl [0, 1] rfl⟩
          · have ic43 : r21.toInt ≠ 0 := zi_eqf rfl rfl c43
            refine lv_bipush (v := (-11)) hx hb dX2_readSum_45 (by decide) ?_
            refine lv_goto (tgt := 52) hx hb dX2_readSum_47 (by decide) ?_
            exact hj24 _ _ _ _ ⟨(-11), rfl, (by have : ((-11) : Int32).toInt = (-11) := rfl; omega), hP, hD, hS, lv_sub hl [0, 1] rfl⟩
      · refine lv_if_ne (tgt := 36) hx hb dX2_readSum_24 (by decide) (fun c44 => ?_) (fun c44 => ?_)
        · have ic44 : r18.toInt ≠ 0 := zi_ne rfl rfl c44
          exact hj20 _ _ _ _ ⟨rfl, hP, hD, hS, lv_sub hl [0, 1] rfl⟩
        · have ic44 : r18.toInt = 0 := zi_nef rfl rfl c44
          refine lv_aload_n hx hb dX2_readSum_27 rfl (lv_at hl 1 rfl) ?_
          refine lv_bipush (v := 45) hx hb dX2_readSum_28 (by decide) ?_
          refine pz_calli (va_runV (As := [.int 45]) (rest := []) ⟨hx, hb, hml, hown, hts⟩ (t_X2_isSign l dC dI _ Ω κ τ ν ρ L f12 hG hT h0 (45) ht_h0) (cwV 1 hts gX2_readSum_X2_isSign rfl rfl rfl ⟨rfl, pd_X2_isSign⟩ ⟨Nat.le_of_ble_eq_true rfl, Nat.le_of_ble_eq_true rfl⟩) ⟨pz_blind, va_recv hK hP (ci := 2) (q0 := q17) rfl eq17, pz_pre hP hK hD hN⟩ rfl rfl hl.1 rfl (lv_room (Nat.le_of_ble_eq_true rfl)) dX2_readSum_30 ⟨Nat.le_of_ble_eq_true rfl, Nat.le_of_ble_eq_true rfl⟩) (fun r45 hw46 => ?_)
          obtain ⟨hw46r, hw46p⟩ := hw46
          refine lv_if_eq (tgt := 77) hx hb dX2_readSum_33 (by decide) (fun c47 => ?_) (fun c47 => ?_)
          · have ic47 : r45.toInt = 0 := zi_eq rfl rfl c47
            refine lv_iconst (v := 1) hx hb dX2_readSum_77 (by decide) ?_
            exact W.zret (v := 1) hx hb hr rfl (fun t ht hW => ⟨⟨1, f12, rfl, ⟨hT, hR, (by first | decide | omega), hB⟩, by rw [ht]; exact hP, va_K.moved hW.alike hK, hD⟩, hS.F ht⟩) hS.2.2 dX2_readSum_78
          · have ic47 : r45.toInt ≠ 0 := zi_eqf rfl rfl c47
            exact hj20 _ _ _ _ ⟨rfl, hP, hD, hS, lv_sub hl [0, 1] rfl⟩
  · have ic10 : r6.toInt = 0 := zi_nef rfl rfl c10
    refine lv_iconst (v := 0) hx hb dX2_readSum_7 (by decide) ?_
    exact W.zret (v := 0) hx hb hr rfl (fun t ht hW => ⟨⟨0, f8, rfl, ⟨hT, hR, (by first | decide | omega), hB⟩, by rw [ht]; exact hP, va_K.moved hW.alike hK, hD⟩, hS.F ht⟩) hS.2.2 dX2_readSum_8
set_option maxHeartbeats 4000000 in
set_option maxRecDepth 100000 in
theorem t_X2_readCompared2 (l : Launch) (dC : Nat → ClassId) (dI : Nat → Nat → Nat) (sz : Nat) (Ω : Nat → Nat → (Nat → Nat) → va_E → Prop) (κ : Nat → ClassId) (τ ν : Nat → Nat) (ρ : Nat → Nat → Nat) (L : List Nat) (f : Nat → va_E) (hG : tp_G τ ν ρ L) (hT : tp_T Ω κ τ ν ρ f) (adK adV : Nat → Nat) (zv : Option Nat) (h0 : Nat) (B0 : Int) (ht_h0 : τ h0 = 3) (hB : tp_fld (f h0) 12 = B0) (hBr : B0 = 2) : Met l yX2_readCompared wqX2_readCompared ({ frames := 60, cells := 0, slots := 0, locals := 23600 }) (va_Pc [.ref h0] (pw_BZ dC dI (tp_K κ) (va_pl L f) sz adK adV zv)) (va_Qi (fun (r : Int32) (f1 : Nat → va_E) => tp_T Ω κ τ ν ρ f1 ∧ tp_F τ [3, 20, 28] f f1 ∧ (0 ≤ r.toInt ∧ r.toInt ≤ 1) ∧ tp_fld (f1 h0) 12 = B0) (fun (f1 : Nat → va_E) (t : State) => pz_E dC dI (tp_K κ) (va_A (va_pl L f) sz) (va_pl L f1) t) (va_A (va_pl L f) sz)) 0 0 (va_A (va_pl L f) sz) := by
  refine Met.ofW (cc := cX2_readCompared) (maxL := 2) (ret := some .boolean) (by decide) rfl ?_
  intro p e s m args below meth c s₁ B hml hv
  obtain ⟨rfl, ⟨hsz, hP, hK, hD0, hN⟩, hZ⟩ := hv
  have hx := B.exec
  have hb := B.bytes
  have hr := B.returns
  have hts := fun (w : Cond) (h : w ∈ WALL) => atoms_spec (ws := wqX2_readCompared) B.pre w (List.mem_cons_of_mem _ h)
  have hown : s.vm.findClass RX2 = some m.cls := findClass_of_methodNamed B.named
  have hlocks := B.notSynchronized
  subst hsz
  have hD := hD0.self (sz := s.heap.size)
  generalize hAe : va_A (va_pl L f) s.heap.size = A at hD hZ ⊢
  have hA : ∀ q : Nat, s.heap.size ≤ q → A q := fun q h => by rw [← hAe]; exact Or.inr h
  have hS : va_S A s.heap s.heap [] := va_S.rf
  have hR : tp_F τ [3, 20, 28] f f := tp_F.rf
  have hl := lv_entry ([.ref h0]) (n := 2) (Nat.le_of_ble_eq_true rfl)
  rw [lg_entry_eq]
  generalize (lg_sl ([.ref h0]) ++ List.replicate (2 - (lg_sl ([.ref h0])).length) Slot.unset).toArray = ls at hl ⊢
  have hl : lv_has ls 2 [(0, .ref h0)] := hl
  refine lv_aload_n hx hb dX2_readCompared_0 rfl (lv_at hl 0 rfl) ?_
  refine tgk_3 hG ht_h0 (fun y1 y1n y2 y2n y3 y3n => ?_)
  refine tpk_3 hT ht_h0 (fun o4_x1 o4_x2 o4_x3 o4_x4 o4_x5 o4_x6 o4_x8 o4_x10 o4_x11 o4_x12 o4_x13 o4_x14 o4_x15 hf_o4 ro4_0 ro4_1 ro4_2 ro4_3 ro4_4 ro4_5 ro4_6 => ?_)
  have bo4 : o4_x12.toInt = B0 := by have q9 := hB; rw [hf_o4] at q9; exact q9
  refine tpk_pos (tp_in hG ht_h0 (by decide)) hf_o4 (fun q5 eq5 => ?_)
  have hFc := tp_fr hD hS hA
  refine va_calli (va_runV (As := []) (rest := []) ⟨hx, hb, hml, hown, hts⟩ (t_X2_readSum2 l dC dI _ Ω κ τ ν ρ L f hG hT adK adV zv h0 B0 ht_h0 hB (by omega)) (cwV 0 hts gX2_readCompared_X2_readSum rfl rfl rfl ⟨rfl, pd_X2_readSum⟩ ⟨Nat.le_of_ble_eq_true rfl, Nat.le_of_ble_eq_true rfl⟩) ⟨pw_blindZ, va_recv hK hP (ci := 2) (q0 := q5) rfl eq5, pw_preZ hP hK hD hN hZ hS (tp_fr hD hS hA)⟩ rfl rfl hl.1 rfl (lv_room (Nat.le_of_ble_eq_true rfl)) dX2_readCompared_1 ⟨Nat.le_of_ble_eq_true rfl, Nat.le_of_ble_eq_true rfl⟩) hS (fun q _ h => hFc q h) hFc (fun r6 f8 t H1 locs ht hvm hw7 hB hz1 hk1 hS => ?_)
  refine tn_4 hw7 (fun hT hF9 hw7r hw7p => ?_); clear hw7
  have hR := hR.then hF9 (by decide)
  have hP := hB.1; rw [ht] at hP; have hD := tp_ad f8 hD; clear hB hFc hz1 hk1; subst ht; generalize t.heap = H at hP hS ⊢
  have hB := hw7p
  refine lv_if_ne (tgt := 9) hx hb dX2_readCompared_4 (by decide) (fun c10 => ?_) (fun c10 => ?_)
  · have ic10 : r6.toInt ≠ 0 := zi_ne rfl rfl c10
    refine lv_aload_n hx hb dX2_readCompared_9 rfl (lv_at hl 0 rfl) ?_
    refine lv_bipush (v := 60) hx hb dX2_readCompared_10 (by decide) ?_
    refine tpk_3 hT ht_h0 (fun o11_x1 o11_x2 o11_x3 o11_x4 o11_x5 o11_x6 o11_x8 o11_x10 o11_x11 o11_x12 o11_x13 o11_x14 o11_x15 hf_o11 ro11_0 ro11_1 ro11_2 ro11_3 ro11_4 ro11_5 ro11_6 => ?_)
    have bo11 : o11_x12.toInt = B0 := by have q9 := hB; rw [hf_o11] at q9; exact q9
    refine tpk_pos (tp_in hG ht_h0 (by decide)) hf_o11 (fun q12 eq12 => ?_)
    refine pz_calli (va_runV (As := [.int 60]) (rest := []) ⟨hx, hb, hml, hown, hts⟩ (t_X2_isSign l dC dI _ Ω κ τ ν ρ L f8 hG hT h0 (60) ht_h0) (cwV 1 hts gX2_readCompared_X2_isSign rfl rfl rfl ⟨rfl, pd_X2_isSign⟩ ⟨Nat.le_of_ble_eq_true rfl, Nat.le_of_ble_eq_true rfl⟩) ⟨pz_blind, va_recv hK hP (ci := 2) (q0 := q12) rfl eq12, pz_pre hP hK hD hN⟩ rfl rfl hl.1 rfl (lv_room (Nat.le_of_ble_eq_true rfl)) dX2_readCompared_12 ⟨Nat.le_of_ble_eq_true rfl, Nat.le_of_ble_eq_true rfl⟩) (fun r13 hw14 => ?_)
    obtain ⟨hw14r, hw14p⟩ := hw14
    refine tp_join 39 (fun H locs ls stk => ∃ w15 : Int32, stk = [.int w15] ∧ ((-17) ≤ w15.toInt ∧ w15.toInt ≤ (-15)) ∧ va_P (dC, dI) vwCl (va_pl L f8) H ∧ va_D A (va_pl L f8) ∧ va_S A s.heap H locs ∧ lv_has ls 2 [(0, .ref h0)]) ?_ (fun hj16 => ?_)
    · intro H locs ls stk hI
      refine Exists.elim hI (fun w15 hE90 => tn_6 hE90 (fun e90 rw15 hP hD hS hl => ?_))
      clear hE90 hI; subst e90
      refine lv_istore_n (lv' := [(1, .int w15), (0, .ref h0)]) hx hb dX2_readCompared_39 rfl hl (by decide) rfl (fun ls hl => ?_)
      refine lv_iload_n hx hb dX2_readCompared_40 rfl (lv_at hl 0 rfl) ?_
      refine lv_bipush (v := (-17)) hx hb dX2_readCompared_41 (by decide) ?_
      refine tp_join 57 (fun H locs ls stk => stk = [] ∧ va_P (dC, dI) vwCl (va_pl L f8) H ∧ va_D A (va_pl L f8) ∧ va_S A s.heap H locs ∧ lv_has ls 2 [(1, .int w15), (0, .ref h0)]) ?_ (fun hj17 => ?_)
      · intro H locs ls stk hI
        refine tn_5 hI (fun e90 hP hD hS hl => ?_)
        clear hI; subst e90
        refine lv_aload_n hx hb dX2_readCompared_57 rfl (lv_at hl 1 rfl) ?_
        have hFc := tp_fr hD hS hA
        refine va_callv (va_runV (As := []) (rest := []) ⟨hx, hb, hml, hown, hts⟩ (t_X2_advance l dC dI _ Ω κ τ ν ρ L f8 hG hT h0 B0 ht_h0 hB) (cwV 0 hts gX2_readCompared_X2_advance rfl rfl rfl ⟨rfl, pd_X2_advance⟩ ⟨Nat.le_of_ble_eq_true rfl, Nat.le_of_ble_eq_true rfl⟩) ⟨pz_blind, va_recv hK hP (ci := 2) (q0 := q12) rfl eq12, pz_pre hP hK hD hN⟩ rfl rfl hl.1 rfl (lv_room (Nat.le_of_ble_eq_true rfl)) dX2_readCompared_58 ⟨Nat.le_of_ble_eq_true rfl, Nat.le_of_ble_eq_true rfl⟩) hS (fun q _ h => hFc q h) hFc (fun f20 t H1 locs ht hvm hw19 hB hz1 hk1 hS => ?_)
        refine tn_3 hw19 (fun hT hF21 hw19p => ?_); clear hw19
        have hR := hR.then hF21 (by decide)
        have hP := hB.1; rw [ht] at hP; have hD := tp_ad f20 hD; clear hB hFc hz1 hk1; subst ht; generalize t.heap = H at hP hS ⊢
        have hB := hw19p
        refine lv_aload_n hx hb dX2_readCompared_61 rfl (lv_at hl 1 rfl) ?_
        refine tpk_3 hT ht_h0 (fun o22_x1 o22_x2 o22_x3 o22_x4 o22_x5 o22_x6 o22_x8 o22_x10 o22_x11 o22_x12 o22_x13 o22_x14 o22_x15 hf_o22 ro22_0 ro22_1 ro22_2 ro22_3 ro22_4 ro22_5 ro22_6 => ?_)
        have bo22 : o22_x12.toInt = B0 := by have q9 := hB; rw [hf_o22] at q9; exact q9
        refine tpk_pos (tp_in hG ht_h0 (by decide)) hf_o22 (fun q23 eq23 => ?_)
        have hFc := tp_fr hD hS hA
        refine va_calli (va_runV (As := []) (rest := []) ⟨hx, hb, hml, hown, hts⟩ (t_X2_readSum2 l dC dI _ Ω κ τ ν ρ L f20 hG hT adK adV zv h0 B0 ht_h0 hB (by omega)) (cwV 0 hts gX2_readCompared_X2_readSum rfl rfl rfl ⟨rfl, pd_X2_readSum⟩ ⟨Nat.le_of_ble_eq_true rfl, Nat.le_of_ble_eq_true rfl⟩) ⟨pw_blindZ, va_recv hK hP (ci := 2) (q0 := q23) rfl eq23, pw_preZ hP hK hD hN hZ hS (tp_fr hD hS hA)⟩ rfl rfl hl.1 rfl (lv_room (Nat.le_of_ble_eq_true rfl)) dX2_readCompared_62 ⟨Nat.le_of_ble_eq_true rfl, Nat.le_of_ble_eq_true rfl⟩) hS (fun q _ h => hFc q h) hFc (fun r24 f26 t H1 locs ht hvm hw25 hB hz1 hk1 hS => ?_)
        refine tn_4 hw25 (fun hT hF27 hw25r hw25p => ?_); clear hw25
        have hR := hR.then hF27 (by decide)
        have hP := hB.1; rw [ht] at hP; have hD := tp_ad f26 hD; clear hB hFc hz1 hk1; subst ht; generalize t.heap = H at hP hS ⊢
        have hB := hw25p
        refine lv_if_ne (tgt := 70) hx hb dX2_readCompared_65 (by decide) (fun c28 => ?_) (fun c28 => ?_)
        · have ic28 : r24.toInt ≠ 0 := zi_ne rfl rfl c28
          refine lv_aload_n hx hb dX2_readCompared_70 rfl (lv_at hl 1 rfl) ?_
          refine lv_iload_n hx hb dX2_readCompared_71 rfl (lv_at hl 0 rfl) ?_
          refine tpk_3 hT ht_h0 (fun o29_x1 o29_x2 o29_x3 o29_x4 o29_x5 o29_x6 o29_x8 o29_x10 o29_x11 o29_x12 o29_x13 o29_x14 o29_x15 hf_o29 ro29_0 ro29_1 ro29_2 ro29_3 ro29_4 ro29_5 ro29_6 => ?_)
          have bo29 : o29_x12.toInt = B0 := by have q9 := hB; rw [hf_o29] at q9; exact q9
          refine tpk_pos (tp_in hG ht_h0 (by decide)) hf_o29 (fun q30 eq30 => ?_)
          have hFc := tp_fr hD hS hA
          refine va_callv (va_runV (As := [.int w15]) (rest := []) ⟨hx, hb, hml, hown, hts⟩ (t_X2_emit l dC dI _ Ω κ τ ν ρ L f26 hG hT h0 w15 B0 ht_h0 (by first | decide | omega) hB) (cwV 1 hts gX2_readCompared_X2_emit rfl rfl rfl ⟨rfl, pd_X2_emit⟩ ⟨Nat.le_of_ble_eq_true rfl, Nat.le_of_ble_eq_true rfl⟩) ⟨pz_blind, va_recv hK hP (ci := 2) (q0 := q30) rfl eq30, pz_pre hP hK hD hN⟩ rfl rfl hl.1 rfl (lv_room (Nat.le_of_ble_eq_true rfl)) dX2_readCompared_72 ⟨Nat.le_of_ble_eq_true rfl, Nat.le_of_ble_eq_true rfl⟩) hS (fun q _ h => hFc q h) hFc (fun f33 t H1 locs ht hvm hw32 hB hz1 hk1 hS => ?_)
          refine tn_3 hw32 (fun hT hF34 hw32p => ?_); clear hw32
          have hR := hR.then hF34 (by decide)
          have hP := hB.1; rw [ht] at hP; have hD := tp_ad f33 hD; clear hB hFc hz1 hk1; subst ht; generalize t.heap = H at hP hS ⊢
          have hB := hw32p
          refine lv_iconst (v := 1) hx hb dX2_readCompared_75 (by decide) ?_
          exact W.zret (v := 1) hx hb hr rfl (fun t ht hW => ⟨⟨1, f33, rfl, ⟨hT, hR, (by first | decide | omega), hB⟩, by rw [ht]; exact hP, va_K.moved hW.alike hK, hD⟩, hS.F ht⟩) hS.2.2 dX2_readCompared_76
        · have ic28 : r24.toInt = 0 := zi_nef rfl rfl c28
          refine lv_iconst (v := 0) hx hb dX2_readCompared_68 (by decide) ?_
          exact W.zret (v := 0) hx hb hr rfl (fun t ht hW => ⟨⟨0, f26, rfl, ⟨hT, hR, (by first | decide | omega), hB⟩, by rw [ht]; exact hP, va_K.moved hW.alike hK, hD⟩, hS.F ht⟩) hS.2.2 dX2_readCompared_69
      · refine lv_icmp_ne (tgt := 57) hx hb dX2_readCompared_43 (by decide) (fun c35 => ?_) (fun c35 => ?_)
        · have ic35 : w15.toInt ≠ (-17) := zi_ne rfl rfl c35
          exact hj17 _ _ _ _ ⟨rfl, hP, hD, hS, lv_sub hl [0, 1] rfl⟩
        · have ic35 : w15.toInt = (-17) := zi_nef rfl rfl c35
          refine lv_aload_n hx hb dX2_readCompared_46 rfl (lv_at hl 1 rfl) ?_
          refine lv_bipush (v := 61) hx hb dX2_readCompared_47 (by decide) ?_
          refine pz_calli (va_runV (As := [.int 61]) (rest := []) ⟨hx, hb, hml, hown, hts⟩ (t_X2_isSign l dC dI _ Ω κ τ ν ρ L f8 hG hT h0 (61) ht_h0) (cwV 1 hts gX2_readCompared_X2_isSign rfl rfl rfl ⟨rfl, pd_X2_isSign⟩ ⟨Nat.le_of_ble_eq_true rfl, Nat.le_of_ble_eq_true rfl⟩) ⟨pz_blind, va_recv hK hP (ci := 2) (q0 := q12) rfl eq12, pz_pre hP hK hD hN⟩ rfl rfl hl.1 rfl (lv_room (Nat.le_of_ble_eq_true rfl)) dX2_readCompared_49 ⟨Nat.le_of_ble_eq_true rfl, Nat.le_of_ble_eq_true rfl⟩) (fun r36 hw37 => ?_)
          obtain ⟨hw37r, hw37p⟩ := hw37
          refine lv_if_ne (tgt := 57) hx hb dX2_readCompared_52 (by decide) (fun c38 => ?_) (fun c38 => ?_)
          · have ic38 : r36.toInt ≠ 0 := zi_ne rfl rfl c38
            exact hj17 _ _ _ _ ⟨rfl, hP, hD, hS, lv_sub hl [0, 1] rfl⟩
          · have ic38 : r36.toInt = 0 := zi_nef rfl rfl c38
            refine lv_iconst (v := 0) hx hb dX2_readCompared_55 (by decide) ?_
            exact W.zret (v := 0) hx hb hr rfl (fun t ht hW => ⟨⟨0, f8, rfl, ⟨hT, hR, (by first | decide | omega), hB⟩, by rw [ht]; exact hP, va_K.moved hW.alike hK, hD⟩, hS.F ht⟩) hS.2.2 dX2_readCompared_56
    · refine lv_if_eq (tgt := 23) hx hb dX2_readCompared_15 (by decide) (fun c39 => ?_) (fun c39 => ?_)
      · have ic39 : r13.toInt = 0 := zi_eq rfl rfl c39
        refine lv_aload_n hx hb dX2_readCompared_23 rfl (lv_at hl 0 rfl) ?_
        refine lv_bipush (v := 62) hx hb dX2_readCompared_24 (by decide) ?_
        refine pz_calli (va_runV (As := [.int 62]) (rest := []) ⟨hx, hb, hml, hown, hts⟩ (t_X2_isSign l dC dI _ Ω κ τ ν ρ L f8 hG hT h0 (62) ht_h0) (cwV 1 hts gX2_readCompared_X2_isSign rfl rfl rfl ⟨rfl, pd_X2_isSign⟩ ⟨Nat.le_of_ble_eq_true rfl, Nat.le_of_ble_eq_true rfl⟩) ⟨pz_blind, va_recv hK hP (ci := 2) (q0 := q12) rfl eq12, pz_pre hP hK hD hN⟩ rfl rfl hl.1 rfl (lv_room (Nat.le_of_ble_eq_true rfl)) dX2_readCompared_26 ⟨Nat.le_of_ble_eq_true rfl, Nat.le_of_ble_eq_true rfl⟩) (fun r40 hw41 => ?_)
        obtain ⟨hw41r, hw41p⟩ := hw41
        refine lv_if_eq (tgt := 37) hx hb dX2_readCompared_29 (by decide) (fun c42 => ?_) (fun c42 => ?_)
        · have ic42 : r40.toInt = 0 := zi_eq rfl rfl c42
          refine lv_bipush (v := (-17)) hx hb dX2_readCompared_37 (by decide) ?_
          exact hj16 _ _ _ _ ⟨(-17), rfl, (by have : ((-17) : Int32).toInt = (-17) := rfl; omega), hP, hD, hS, lv_sub hl [0] rfl⟩
        · have ic42 : r40.toInt ≠ 0 := zi_eqf rfl rfl c42
          refine lv_bipush (v := (-16)) hx hb dX2_readCompared_32 (by decide) ?_
          refine lv_goto (tgt := 39) hx hb dX2_readCompared_34 (by decide) ?_
          exact hj16 _ _ _ _ ⟨(-16), rfl, (by have : ((-16) : Int32).toInt = (-16) := rfl; omega), hP, hD, hS, lv_sub hl [0] rfl⟩
      · have ic39 : r13.toInt ≠ 0 := zi_eqf rfl rfl c39
        refine lv_bipush (v := (-15)) hx hb dX2_readCompared_18 (by decide) ?_
        refine lv_goto (tgt := 39) hx hb dX2_readCompared_20 (by decide) ?_
        exact hj16 _ _ _ _ ⟨(-15), rfl, (by have : ((-15) : Int32).toInt = (-15) := rfl; omega), hP, hD, hS, lv_sub hl [0] rfl⟩
  · have ic10 : r6.toInt = 0 := zi_nef rfl rfl c10
    refine lv_iconst (v := 0) hx hb dX2_readCompared_7 (by decide) ?_
    exact W.zret (v := 0) hx hb hr rfl (fun t ht hW => ⟨⟨0, f8, rfl, ⟨hT, hR, (by first | decide | omega), hB⟩, by rw [ht]; exact hP, va_K.moved hW.alike hK, hD⟩, hS.F ht⟩) hS.2.2 dX2_readCompared_8
set_option maxHeartbeats 4000000 in
set_option maxRecDepth 100000 in
theorem t_X2_readPlain2 (l : Launch) (dC : Nat → ClassId) (dI : Nat → Nat → Nat) (sz : Nat) (Ω : Nat → Nat → (Nat → Nat) → va_E → Prop) (κ : Nat → ClassId) (τ ν : Nat → Nat) (ρ : Nat → Nat → Nat) (L : List Nat) (f : Nat → va_E) (hG : tp_G τ ν ρ L) (hT : tp_T Ω κ τ ν ρ f) (adK adV : Nat → Nat) (zv : Option Nat) (h0 : Nat) (B0 : Int) (ht_h0 : τ h0 = 3) (hB : tp_fld (f h0) 12 = B0) (hBr : B0 = 2) : Met l yX2_readPlain wqX2_readPlain ({ frames := 61, cells := 0, slots := 0, locals := 24000 }) (va_Pc [.ref h0] (pw_BZ dC dI (tp_K κ) (va_pl L f) sz adK adV zv)) (va_Qi (fun (r : Int32) (f1 : Nat → va_E) => tp_T Ω κ τ ν ρ f1 ∧ tp_F τ [3, 20, 28] f f1 ∧ (0 ≤ r.toInt ∧ r.toInt ≤ 1) ∧ tp_fld (f1 h0) 12 = B0) (fun (f1 : Nat → va_E) (t : State) => pz_E dC dI (tp_K κ) (va_A (va_pl L f) sz) (va_pl L f1) t) (va_A (va_pl L f) sz)) 0 0 (va_A (va_pl L f) sz) := by
  refine Met.ofW (cc := cX2_readPlain) (maxL := 3) (ret := some .boolean) (by decide) rfl ?_
  intro p e s m args below meth c s₁ B hml hv
  obtain ⟨rfl, ⟨hsz, hP, hK, hD0, hN⟩, hZ⟩ := hv
  have hx := B.exec
  have hb := B.bytes
  have hr := B.returns
  have hts := fun (w : Cond) (h : w ∈ WALL) => atoms_spec (ws := wqX2_readPlain) B.pre w (List.mem_cons_of_mem _ h)
  have hown : s.vm.findClass RX2 = some m.cls := findClass_of_methodNamed B.named
  have hlocks := B.notSynchronized
  subst hsz
  have hD := hD0.self (sz := s.heap.size)
  generalize hAe : va_A (va_pl L f) s.heap.size = A at hD hZ ⊢
  have hA : ∀ q : Nat, s.heap.size ≤ q → A q := fun q h => by rw [← hAe]; exact Or.inr h
  have hS : va_S A s.heap s.heap [] := va_S.rf
  have hR : tp_F τ [3, 20, 28] f f := tp_F.rf
  have hl := lv_entry ([.ref h0]) (n := 3) (Nat.le_of_ble_eq_true rfl)
  rw [lg_entry_eq]
  generalize (lg_sl ([.ref h0]) ++ List.replicate (3 - (lg_sl ([.ref h0])).length) Slot.unset).toArray = ls at hl ⊢
  have hl : lv_has ls 3 [(0, .ref h0)] := hl
  refine lv_iconst (v := 0) hx hb dX2_readPlain_0 (by decide) ?_
  refine lv_istore_n (lv' := [(1, .int 0), (0, .ref h0)]) hx hb dX2_readPlain_1 rfl hl (by decide) rfl (fun ls hl => ?_)
  refine lv_iconst (v := 0) hx hb dX2_readPlain_2 (by decide) ?_
  refine lv_istore_n (lv' := [(2, .int 0), (1, .int 0), (0, .ref h0)]) hx hb dX2_readPlain_3 rfl hl (by decide) rfl (fun ls hl => ?_)
  refine pz_loop (fun n0 H locs ls => ∃ f3 : Nat → va_E, ∃ w1 : Int32, ∃ w2 : Int32, n0 = (400 - (w1.toInt)).toNat ∧ tp_T Ω κ τ ν ρ f3 ∧ tp_F τ [3, 20, 28] f f3 ∧ tp_fld (f3 h0) 12 = B0 ∧ (0 ≤ w1.toInt ∧ w1.toInt ≤ 400) ∧ (0 ≤ w2.toInt ∧ w2.toInt ≤ 1) ∧ va_P (dC, dI) vwCl (va_pl L f3) H ∧ va_D A (va_pl L f3) ∧ va_S A s.heap H locs ∧ lv_has ls 3 [(2, .int w1), (1, .int w2), (0, .ref h0)]) ?_ _ _ _ _ ⟨f, 0, 0, rfl, hT, hR, hB, (by have : (0 : Int32).toInt = 0 := rfl; have : (0 : Int32).toInt = 0 := rfl; omega), (by have : (0 : Int32).toInt = 0 := rfl; have : (0 : Int32).toInt = 0 := rfl; omega), hP, hD, hS, lv_sub hl [0, 1, 2] rfl⟩
  intro n0 H locs ls hI ih4
  refine Exists.elim hI (fun f3 hE90 => Exists.elim hE90 (fun w1 hE91 => Exists.elim hE91 (fun w2 hE92 => tn_10 hE92 (fun hn5 hT hR hB rw1 rw2 hP hD hS hl => ?_))))
  clear hE92 hE91 hE90 hI
  refine lv_iload_n hx hb dX2_readPlain_4 rfl (lv_at hl 0 rfl) ?_
  refine lv_sipush (v := 400) hx hb dX2_readPlain_5 (by decide) ?_
  refine tp_join 36 (fun H locs ls stk => ∃ f7 : Nat → va_E, stk = [] ∧ tp_T Ω κ τ ν ρ f7 ∧ tp_F τ [3, 20, 28] f f7 ∧ tp_fld (f7 h0) 12 = B0 ∧ va_P (dC, dI) vwCl (va_pl L f7) H ∧ va_D A (va_pl L f7) ∧ va_S A s.heap H locs ∧ lv_has ls 3 [(2, .int w1), (1, .int w2), (0, .ref h0)]) ?_ (fun hj6 => ?_)
  · intro H locs ls stk hI
    refine Exists.elim hI (fun f7 hE90 => tn_8 hE90 (fun e90 hT hR hB hP hD hS hl => ?_))
    clear hE90 hI; subst e90
    refine lv_aload_n hx hb dX2_readPlain_36 rfl (lv_at hl 2 rfl) ?_
    refine lv_bipush (v := 40) hx hb dX2_readPlain_37 (by decide) ?_
    refine tgk_3 hG ht_h0 (fun y8 y8n y9 y9n y10 y10n => ?_)
    refine tpk_3 hT ht_h0 (fun o11_x1 o11_x2 o11_x3 o11_x4 o11_x5 o11_x6 o11_x8 o11_x10 o11_x11 o11_x12 o11_x13 o11_x14 o11_x15 hf_o11 ro11_0 ro11_1 ro11_2 ro11_3 ro11_4 ro11_5 ro11_6 => ?_)
    have bo11 : o11_x12.toInt = B0 := by have q9 := hB; rw [hf_o11] at q9; exact q9
    refine tpk_pos (tp_in hG ht_h0 (by decide)) hf_o11 (fun q12 eq12 => ?_)
    refine pz_calli (va_runV (As := [.int 40]) (rest := []) ⟨hx, hb, hml, hown, hts⟩ (t_X2_isSign l dC dI _ Ω κ τ ν ρ L f7 hG hT h0 (40) ht_h0) (cwV 1 hts gX2_readPlain_X2_isSign rfl rfl rfl ⟨rfl, pd_X2_isSign⟩ ⟨Nat.le_of_ble_eq_true rfl, Nat.le_of_ble_eq_true rfl⟩) ⟨pz_blind, va_recv hK hP (ci := 2) (q0 := q12) rfl eq12, pz_pre hP hK hD hN⟩ rfl rfl hl.1 rfl (lv_room (Nat.le_of_ble_eq_true rfl)) dX2_readPlain_39 ⟨Nat.le_of_ble_eq_true rfl, Nat.le_of_ble_eq_true rfl⟩) (fun r13 hw14 => ?_)
    obtain ⟨hw14r, hw14p⟩ := hw14
    refine tp_join 57 (fun H locs ls stk => ∃ f17 : Nat → va_E, ∃ w15 : Int32, stk = [.int w15] ∧ tp_T Ω κ τ ν ρ f17 ∧ tp_F τ [3, 20, 28] f f17 ∧ tp_fld (f17 h0) 12 = B0 ∧ (0 ≤ w15.toInt ∧ w15.toInt ≤ 1) ∧ va_P (dC, dI) vwCl (va_pl L f17) H ∧ va_D A (va_pl L f17) ∧ va_S A s.heap H locs ∧ lv_has ls 3 [(2, .int w1), (1, .int w2), (0, .ref h0)]) ?_ (fun hj16 => ?_)
    · intro H locs ls stk hI
      refine Exists.elim hI (fun f17 hE90 => Exists.elim hE90 (fun w15 hE91 => tn_9 hE91 (fun e90 hT hR hB rw15 hP hD hS hl => ?_)))
      clear hE91 hE90 hI; subst e90
      refine lv_istore_n (lv' := [(2, .int w15), (1, .int w2), (0, .ref h0)]) hx hb dX2_readPlain_57 rfl hl (by decide) rfl (fun ls hl => ?_)
      refine lv_iload_n hx hb dX2_readPlain_58 rfl (lv_at hl 0 rfl) ?_
      refine lv_if_eq (tgt := 72) hx hb dX2_readPlain_59 (by decide) (fun c18 => ?_) (fun c18 => ?_)
      · have ic18 : w15.toInt = 0 := zi_eq rfl rfl c18
        refine lv_iload_n hx hb dX2_readPlain_72 rfl (lv_at hl 0 rfl) ?_
        exact W.zret (v := w15) hx hb hr (zi_narZ (by omega) (by omega)) (fun t ht hW => ⟨⟨w15, f17, rfl, ⟨hT, hR, (by first | decide | omega), hB⟩, by rw [ht]; exact hP, va_K.moved hW.alike hK, hD⟩, hS.F ht⟩) hS.2.2 dX2_readPlain_73
      · have ic18 : w15.toInt ≠ 0 := zi_eqf rfl rfl c18
        refine lv_iload_n hx hb dX2_readPlain_62 rfl (lv_at hl 1 rfl) ?_
        refine lv_if_eq (tgt := 72) hx hb dX2_readPlain_63 (by decide) (fun c19 => ?_) (fun c19 => ?_)
        · have ic19 : w2.toInt = 0 := zi_eq rfl rfl c19
          refine lv_iload_n hx hb dX2_readPlain_72 rfl (lv_at hl 0 rfl) ?_
          exact W.zret (v := w15) hx hb hr (zi_narZ (by omega) (by omega)) (fun t ht hW => ⟨⟨w15, f17, rfl, ⟨hT, hR, (by first | decide | omega), hB⟩, by rw [ht]; exact hP, va_K.moved hW.alike hK, hD⟩, hS.F ht⟩) hS.2.2 dX2_readPlain_73
        · have ic19 : w2.toInt ≠ 0 := zi_eqf rfl rfl c19
          refine lv_aload_n hx hb dX2_readPlain_66 rfl (lv_at hl 2 rfl) ?_
          refine lv_bipush (v := (-18)) hx hb dX2_readPlain_67 (by decide) ?_
          refine tpk_3 hT ht_h0 (fun o20_x1 o20_x2 o20_x3 o20_x4 o20_x5 o20_x6 o20_x8 o20_x10 o20_x11 o20_x12 o20_x13 o20_x14 o20_x15 hf_o20 ro20_0 ro20_1 ro20_2 ro20_3 ro20_4 ro20_5 ro20_6 => ?_)
          have bo20 : o20_x12.toInt = B0 := by have q9 := hB; rw [hf_o20] at q9; exact q9
          refine tpk_pos (tp_in hG ht_h0 (by decide)) hf_o20 (fun q21 eq21 => ?_)
          have hFc := tp_fr hD hS hA
          refine va_callv (va_runV (As := [.int (-18)]) (rest := []) ⟨hx, hb, hml, hown, hts⟩ (t_X2_emit l dC dI _ Ω κ τ ν ρ L f17 hG hT h0 ((-18)) B0 ht_h0 (by first | decide | omega) hB) (cwV 1 hts gX2_readPlain_X2_emit rfl rfl rfl ⟨rfl, pd_X2_emit⟩ ⟨Nat.le_of_ble_eq_true rfl, Nat.le_of_ble_eq_true rfl⟩) ⟨pz_blind, va_recv hK hP (ci := 2) (q0 := q21) rfl eq21, pz_pre hP hK hD hN⟩ rfl rfl hl.1 rfl (lv_room (Nat.le_of_ble_eq_true rfl)) dX2_readPlain_69 ⟨Nat.le_of_ble_eq_true rfl, Nat.le_of_ble_eq_true rfl⟩) hS (fun q _ h => hFc q h) hFc (fun f24 t H1 locs ht hvm hw23 hB hz1 hk1 hS => ?_)
          refine tn_3 hw23 (fun hT hF25 hw23p => ?_); clear hw23
          have hR := hR.then hF25 (by decide)
          have hP := hB.1; rw [ht] at hP; have hD := tp_ad f24 hD; clear hB hFc hz1 hk1; subst ht; generalize t.heap = H at hP hS ⊢
          have hB := hw23p
          refine lv_iload_n hx hb dX2_readPlain_72 rfl (lv_at hl 0 rfl) ?_
          exact W.zret (v := w15) hx hb hr (zi_narZ (by omega) (by omega)) (fun t ht hW => ⟨⟨w15, f24, rfl, ⟨hT, hR, (by first | decide | omega), hB⟩, by rw [ht]; exact hP, va_K.moved hW.alike hK, hD⟩, hS.F ht⟩) hS.2.2 dX2_readPlain_73
    · refine lv_if_eq (tgt := 53) hx hb dX2_readPlain_42 (by decide) (fun c26 => ?_) (fun c26 => ?_)
      · have ic26 : r13.toInt = 0 := zi_eq rfl rfl c26
        refine lv_aload_n hx hb dX2_readPlain_53 rfl (lv_at hl 2 rfl) ?_
        have hFc := tp_fr hD hS hA
        refine va_calli (va_runV (As := []) (rest := []) ⟨hx, hb, hml, hown, hts⟩ (t_X2_readCompared2 l dC dI _ Ω κ τ ν ρ L f7 hG hT adK adV zv h0 B0 ht_h0 hB (by omega)) (cwV 0 hts gX2_readPlain_X2_readCompared rfl rfl rfl ⟨rfl, pd_X2_readCompared⟩ ⟨Nat.le_of_ble_eq_true rfl, Nat.le_of_ble_eq_true rfl⟩) ⟨pw_blindZ, va_recv hK hP (ci := 2) (q0 := q12) rfl eq12, pw_preZ hP hK hD hN hZ hS (tp_fr hD hS hA)⟩ rfl rfl hl.1 rfl (lv_room (Nat.le_of_ble_eq_true rfl)) dX2_readPlain_54 ⟨Nat.le_of_ble_eq_true rfl, Nat.le_of_ble_eq_true rfl⟩) hS (fun q _ h => hFc q h) hFc (fun r27 f29 t H1 locs ht hvm hw28 hB hz1 hk1 hS => ?_)
        refine tn_4 hw28 (fun hT hF30 hw28r hw28p => ?_); clear hw28
        have hR := hR.then hF30 (by decide)
        have hP := hB.1; rw [ht] at hP; have hD := tp_ad f29 hD; clear hB hFc hz1 hk1; subst ht; generalize t.heap = H at hP hS ⊢
        have hB := hw28p
        exact hj16 _ _ _ _ ⟨f29, r27, rfl, hT, hR, hB, (by omega), hP, hD, hS, lv_sub hl [0, 1, 2] rfl⟩
      · have ic26 : r13.toInt ≠ 0 := zi_eqf rfl rfl c26
        refine lv_aload_n hx hb dX2_readPlain_45 rfl (lv_at hl 2 rfl) ?_
        refine lv_iconst (v := 1) hx hb dX2_readPlain_46 (by decide) ?_
        have hFc := tp_fr hD hS hA
        refine va_calli (va_runV (As := [.int 1]) (rest := []) ⟨hx, hb, hml, hown, hts⟩ (t_X2_readInBrackets2 l dC dI _ Ω κ τ ν ρ L f7 hG hT adK adV zv h0 (1) B0 ht_h0 (by first | decide | omega) hB (by first | omega | (have : (1 : Int32).toInt = 1 := rfl; omega))) (cwV 1 hts gX2_readPlain_X2_readInBrackets rfl rfl rfl ⟨rfl, pd_X2_readInBrackets⟩ ⟨Nat.le_of_ble_eq_true rfl, Nat.le_of_ble_eq_true rfl⟩) ⟨pw_blindZ, va_recv hK hP (ci := 2) (q0 := q12) rfl eq12, pw_preZ hP hK hD hN hZ hS (tp_fr hD hS hA)⟩ rfl rfl hl.1 rfl (lv_room (Nat.le_of_ble_eq_true rfl)) dX2_readPlain_47 ⟨Nat.le_of_ble_eq_true rfl, Nat.le_of_ble_eq_true rfl⟩) hS (fun q _ h => hFc q h) hFc (fun r31 f33 t H1 locs ht hvm hw32 hB hz1 hk1 hS => ?_)
        refine tn_4 hw32 (fun hT hF34 hw32r hw32p => ?_); clear hw32
        have hR := hR.then hF34 (by decide)
        have hP := hB.1; rw [ht] at hP; have hD := tp_ad f33 hD; clear hB hFc hz1 hk1; subst ht; generalize t.heap = H at hP hS ⊢
        have hB := hw32p
        refine lv_goto (tgt := 57) hx hb dX2_readPlain_50 (by decide) ?_
        exact hj16 _ _ _ _ ⟨f33, r31, rfl, hT, hR, hB, (by omega), hP, hD, hS, lv_sub hl [0, 1, 2] rfl⟩
  · refine lv_icmp_ge (tgt := 36) hx hb dX2_readPlain_8 (by decide) (fun c35 => ?_) (fun c35 => ?_)
    · have ic35 : w1.toInt ≥ 400 := zi_ge rfl rfl c35
      exact hj6 _ _ _ _ ⟨f3, rfl, hT, hR, hB, hP, hD, hS, lv_sub hl [0, 1, 2] rfl⟩
    · have ic35 : w1.toInt < 400 := zi_gef rfl rfl c35
      refine lv_aload_n hx hb dX2_readPlain_11 rfl (lv_at hl 2 rfl) ?_
      refine va_ldcS hx hb hown (show vk_R RX2 141 "not" (adK 8) s from hZ.2.2.2 8 (by decide)) dX2_readPlain_12 ?_
      refine tgk_3 hG ht_h0 (fun y36 y36n y37 y37n y38 y38n => ?_)
      refine tpk_3 hT ht_h0 (fun o39_x1 o39_x2 o39_x3 o39_x4 o39_x5 o39_x6 o39_x8 o39_x10 o39_x11 o39_x12 o39_x13 o39_x14 o39_x15 hf_o39 ro39_0 ro39_1 ro39_2 ro39_3 ro39_4 ro39_5 ro39_6 => ?_)
      have bo39 : o39_x12.toInt = B0 := by have q9 := hB; rw [hf_o39] at q9; exact q9
      refine tpk_pos (tp_in hG ht_h0 (by decide)) hf_o39 (fun q40 eq40 => ?_)
      have hFc := tp_fr hD hS hA
      refine va_calli (va_runV (As := [.ref (adK 8)]) (rest := []) ⟨hx, hb, hml, hown, hts⟩ (t_X2_passWord l dC dI _ Ω κ τ ν ρ L f3 hG hT adK adV zv h0 8 B0 ht_h0 (by decide) hB) (cwV 1 hts gX2_readPlain_X2_passWord rfl rfl rfl ⟨rfl, pd_X2_passWord⟩ ⟨Nat.le_of_ble_eq_true rfl, Nat.le_of_ble_eq_true rfl⟩) ⟨pw_blindZ, va_recv hK hP (ci := 2) (q0 := q40) rfl eq40, pw_preZ hP hK hD hN hZ hS (tp_fr hD hS hA)⟩ rfl rfl hl.1 rfl (lv_room (Nat.le_of_ble_eq_true rfl)) dX2_readPlain_14 ⟨Nat.le_of_ble_eq_true rfl, Nat.le_of_ble_eq_true rfl⟩) hS (fun q _ h => hFc q h) hFc (fun r41 f43 t H1 locs ht hvm hw42 hB hz1 hk1 hS => ?_)
      refine tn_4 hw42 (fun hT hF44 hw42r hw42p => ?_); clear hw42
      have hR := hR.then hF44 (by decide)
      have hP := hB.1; rw [ht] at hP; have hD := tp_ad f43 hD; clear hB hFc hz1 hk1; subst ht; generalize t.heap = H at hP hS ⊢
      have hB := hw42p
      refine lv_if_eq (tgt := 36) hx hb dX2_readPlain_17 (by decide) (fun c45 => ?_) (fun c45 => ?_)
      · have ic45 : r41.toInt = 0 := zi_eq rfl rfl c45
        exact hj6 _ _ _ _ ⟨f43, rfl, hT, hR, hB, hP, hD, hS, lv_sub hl [0, 1, 2] rfl⟩
      · have ic45 : r41.toInt ≠ 0 := zi_eqf rfl rfl c45
        refine lv_iload_n hx hb dX2_readPlain_20 rfl (lv_at hl 1 rfl) ?_
        refine lv_if_ne (tgt := 28) hx hb dX2_readPlain_21 (by decide) (fun c46 => ?_) (fun c46 => ?_)
        · have ic46 : w2.toInt ≠ 0 := zi_ne rfl rfl c46
          refine lv_iconst (v := 0) hx hb dX2_readPlain_28 (by decide) ?_
          refine lv_istore_n (lv' := [(1, .int 0), (2, .int w1), (0, .ref h0)]) hx hb dX2_readPlain_29 rfl hl (by decide) rfl (fun ls hl => ?_)
          obtain ⟨z47, ez47⟩ : ∃ y : Int32, y = w1 + 1 := ⟨_, rfl⟩
          refine lv_iinc (v := z47) (lv' := [(2, .int z47), (1, .int 0), (0, .ref h0)]) hx hb dX2_readPlain_30 hl (k := 1) rfl (by rw [ez47]; rfl) (by decide) rfl (fun ls hl => ?_)
          have iz47 : z47.toInt = w1.toInt + 1 := zi_add ez47 rfl rfl (by omega) (by omega)
          refine lv_goto (tgt := 4) hx hb dX2_readPlain_33 (by decide) ?_
          exact ih4 _ _ _ _ (by rw [hn5]; omega) ⟨f43, z47, 0, rfl, hT, hR, hB, (by have : (0 : Int32).toInt = 0 := rfl; omega), (by have : (0 : Int32).toInt = 0 := rfl; omega), hP, hD, hS, lv_sub hl [0, 1, 2] rfl⟩
        · have ic46 : w2.toInt = 0 := zi_nef rfl rfl c46
          refine lv_iconst (v := 1) hx hb dX2_readPlain_24 (by decide) ?_
          refine lv_goto (tgt := 29) hx hb dX2_readPlain_25 (by decide) ?_
          refine lv_istore_n (lv' := [(1, .int 1), (2, .int w1), (0, .ref h0)]) hx hb dX2_readPlain_29 rfl hl (by decide) rfl (fun ls hl => ?_)
          obtain ⟨z48, ez48⟩ : ∃ y : Int32, y = w1 + 1 := ⟨_, rfl⟩
          refine lv_iinc (v := z48) (lv' := [(2, .int z48), (1, .int 1), (0, .ref h0)]) hx hb dX2_readPlain_30 hl (k := 1) rfl (by rw [ez48]; rfl) (by decide) rfl (fun ls hl => ?_)
          have iz48 : z48.toInt = w1.toInt + 1 := zi_add ez48 rfl rfl (by omega) (by omega)
          refine lv_goto (tgt := 4) hx hb dX2_readPlain_33 (by decide) ?_
          exact ih4 _ _ _ _ (by rw [hn5]; omega) ⟨f43, z48, 1, rfl, hT, hR, hB, (by have : (1 : Int32).toInt = 1 := rfl; omega), (by have : (1 : Int32).toInt = 1 := rfl; omega), hP, hD, hS, lv_sub hl [0, 1, 2] rfl⟩
set_option maxHeartbeats 4000000 in
set_option maxRecDepth 100000 in
theorem t_X2_readBoth2 (l : Launch) (dC : Nat → ClassId) (dI : Nat → Nat → Nat) (sz : Nat) (Ω : Nat → Nat → (Nat → Nat) → va_E → Prop) (κ : Nat → ClassId) (τ ν : Nat → Nat) (ρ : Nat → Nat → Nat) (L : List Nat) (f : Nat → va_E) (hG : tp_G τ ν ρ L) (hT : tp_T Ω κ τ ν ρ f) (adK adV : Nat → Nat) (zv : Option Nat) (h0 : Nat) (B0 : Int) (ht_h0 : τ h0 = 3) (hB : tp_fld (f h0) 12 = B0) (hBr : B0 = 2) : Met l yX2_readBoth wqX2_readBoth ({ frames := 62, cells := 0, slots := 0, locals := 24400 }) (va_Pc [.ref h0] (pw_BZ dC dI (tp_K κ) (va_pl L f) sz adK adV zv)) (va_Qi (fun (r : Int32) (f1 : Nat → va_E) => tp_T Ω κ τ ν ρ f1 ∧ tp_F τ [3, 20, 28] f f1 ∧ (0 ≤ r.toInt ∧ r.toInt ≤ 1) ∧ tp_fld (f1 h0) 12 = B0) (fun (f1 : Nat → va_E) (t : State) => pz_E dC dI (tp_K κ) (va_A (va_pl L f) sz) (va_pl L f1) t) (va_A (va_pl L f) sz)) 0 0 (va_A (va_pl L f) sz) := by
  refine Met.ofW (cc := cX2_readBoth) (maxL := 3) (ret := some .boolean) (by decide) rfl ?_
  intro p e s m args below meth c s₁ B hml hv
  obtain ⟨rfl, ⟨hsz, hP, hK, hD0, hN⟩, hZ⟩ := hv
  have hx := B.exec
  have hb := B.bytes
  have hr := B.returns
  have hts := fun (w : Cond) (h : w ∈ WALL) => atoms_spec (ws := wqX2_readBoth) B.pre w (List.mem_cons_of_mem _ h)
  have hown : s.vm.findClass RX2 = some m.cls := findClass_of_methodNamed B.named
  have hlocks := B.notSynchronized
  subst hsz
  have hD := hD0.self (sz := s.heap.size)
  generalize hAe : va_A (va_pl L f) s.heap.size = A at hD hZ ⊢
  have hA : ∀ q : Nat, s.heap.size ≤ q → A q := fun q h => by rw [← hAe]; exact Or.inr h
  have hS : va_S A s.heap s.heap [] := va_S.rf
  have hR : tp_F τ [3, 20, 28] f f := tp_F.rf
  have hl := lv_entry ([.ref h0]) (n := 3) (Nat.le_of_ble_eq_true rfl)
  rw [lg_entry_eq]
  generalize (lg_sl ([.ref h0]) ++ List.replicate (3 - (lg_sl ([.ref h0])).length) Slot.unset).toArray = ls at hl ⊢
  have hl : lv_has ls 3 [(0, .ref h0)] := hl
  refine lv_aload_n hx hb dX2_readBoth_0 rfl (lv_at hl 0 rfl) ?_
  refine tgk_3 hG ht_h0 (fun y1 y1n y2 y2n y3 y3n => ?_)
  refine tpk_3 hT ht_h0 (fun o4_x1 o4_x2 o4_x3 o4_x4 o4_x5 o4_x6 o4_x8 o4_x10 o4_x11 o4_x12 o4_x13 o4_x14 o4_x15 hf_o4 ro4_0 ro4_1 ro4_2 ro4_3 ro4_4 ro4_5 ro4_6 => ?_)
  have bo4 : o4_x12.toInt = B0 := by have q9 := hB; rw [hf_o4] at q9; exact q9
  refine tpk_pos (tp_in hG ht_h0 (by decide)) hf_o4 (fun q5 eq5 => ?_)
  have hFc := tp_fr hD hS hA
  refine va_calli (va_runV (As := []) (rest := []) ⟨hx, hb, hml, hown, hts⟩ (t_X2_readPlain2 l dC dI _ Ω κ τ ν ρ L f hG hT adK adV zv h0 B0 ht_h0 hB (by omega)) (cwV 0 hts gX2_readBoth_X2_readPlain rfl rfl rfl ⟨rfl, pd_X2_readPlain⟩ ⟨Nat.le_of_ble_eq_true rfl, Nat.le_of_ble_eq_true rfl⟩) ⟨pw_blindZ, va_recv hK hP (ci := 2) (q0 := q5) rfl eq5, pw_preZ hP hK hD hN hZ hS (tp_fr hD hS hA)⟩ rfl rfl hl.1 rfl (lv_room (Nat.le_of_ble_eq_true rfl)) dX2_readBoth_1 ⟨Nat.le_of_ble_eq_true rfl, Nat.le_of_ble_eq_true rfl⟩) hS (fun q _ h => hFc q h) hFc (fun r6 f8 t H1 locs ht hvm hw7 hB hz1 hk1 hS => ?_)
  refine tn_4 hw7 (fun hT hF9 hw7r hw7p => ?_); clear hw7
  have hR := hR.then hF9 (by decide)
  have hP := hB.1; rw [ht] at hP; have hD := tp_ad f8 hD; clear hB hFc hz1 hk1; subst ht; generalize t.heap = H at hP hS ⊢
  have hB := hw7p
  refine lv_if_ne (tgt := 9) hx hb dX2_readBoth_4 (by decide) (fun c10 => ?_) (fun c10 => ?_)
  · have ic10 : r6.toInt ≠ 0 := zi_ne rfl rfl c10
    refine lv_iconst (v := 0) hx hb dX2_readBoth_9 (by decide) ?_
    refine lv_istore_n (lv' := [(1, .int 0), (0, .ref h0)]) hx hb dX2_readBoth_10 rfl hl (by decide) rfl (fun ls hl => ?_)
    refine pz_loop (fun n0 H locs ls => ∃ f12 : Nat → va_E, ∃ w11 : Int32, n0 = (400 - (w11.toInt)).toNat ∧ tp_T Ω κ τ ν ρ f12 ∧ tp_F τ [3, 20, 28] f f12 ∧ tp_fld (f12 h0) 12 = B0 ∧ (0 ≤ w11.toInt ∧ w11.toInt ≤ 400) ∧ va_P (dC, dI) vwCl (va_pl L f12) H ∧ va_D A (va_pl L f12) ∧ va_S A s.heap H locs ∧ lv_has ls 3 [(1, .int w11), (0, .ref h0)]) ?_ _ _ _ _ ⟨f8, 0, rfl, hT, hR, hB, (by have : (0 : Int32).toInt = 0 := rfl; omega), hP, hD, hS, lv_sub hl [0, 1] rfl⟩
    intro n0 H locs ls hI ih13
    refine Exists.elim hI (fun f12 hE90 => Exists.elim hE90 (fun w11 hE91 => tn_9 hE91 (fun hn14 hT hR hB rw11 hP hD hS hl => ?_)))
    clear hE91 hE90 hI
    refine lv_iload_n hx hb dX2_readBoth_11 rfl (lv_at hl 0 rfl) ?_
    refine lv_sipush (v := 400) hx hb dX2_readBoth_12 (by decide) ?_
    refine lv_icmp_ge (tgt := 54) hx hb dX2_readBoth_15 (by decide) (fun c15 => ?_) (fun c15 => ?_)
    · have ic15 : w11.toInt ≥ 400 := zi_ge rfl rfl c15
      refine lv_iconst (v := 1) hx hb dX2_readBoth_54 (by decide) ?_
      exact W.zret (v := 1) hx hb hr rfl (fun t ht hW => ⟨⟨1, f12, rfl, ⟨hT, hR, (by first | decide | omega), hB⟩, by rw [ht]; exact hP, va_K.moved hW.alike hK, hD⟩, hS.F ht⟩) hS.2.2 dX2_readBoth_55
    · have ic15 : w11.toInt < 400 := zi_gef rfl rfl c15
      refine lv_aload_n hx hb dX2_readBoth_18 rfl (lv_at hl 1 rfl) ?_
      refine va_ldcS hx hb hown (show vk_R RX2 139 "and" (adK 7) s from hZ.2.2.2 7 (by decide)) dX2_readBoth_19 ?_
      refine tpk_3 hT ht_h0 (fun o16_x1 o16_x2 o16_x3 o16_x4 o16_x5 o16_x6 o16_x8 o16_x10 o16_x11 o16_x12 o16_x13 o16_x14 o16_x15 hf_o16 ro16_0 ro16_1 ro16_2 ro16_3 ro16_4 ro16_5 ro16_6 => ?_)
      have bo16 : o16_x12.toInt = B0 := by have q9 := hB; rw [hf_o16] at q9; exact q9
      refine tpk_pos (tp_in hG ht_h0 (by decide)) hf_o16 (fun q17 eq17 => ?_)
      have hFc := tp_fr hD hS hA
      refine va_calli (va_runV (As := [.ref (adK 7)]) (rest := []) ⟨hx, hb, hml, hown, hts⟩ (t_X2_passWord l dC dI _ Ω κ τ ν ρ L f12 hG hT adK adV zv h0 7 B0 ht_h0 (by decide) hB) (cwV 1 hts gX2_readBoth_X2_passWord rfl rfl rfl ⟨rfl, pd_X2_passWord⟩ ⟨Nat.le_of_ble_eq_true rfl, Nat.le_of_ble_eq_true rfl⟩) ⟨pw_blindZ, va_recv hK hP (ci := 2) (q0 := q17) rfl eq17, pw_preZ hP hK hD hN hZ hS (tp_fr hD hS hA)⟩ rfl rfl hl.1 rfl (lv_room (Nat.le_of_ble_eq_true rfl)) dX2_readBoth_21 ⟨Nat.le_of_ble_eq_true rfl, Nat.le_of_ble_eq_true rfl⟩) hS (fun q _ h => hFc q h) hFc (fun r18 f20 t H1 locs ht hvm hw19 hB hz1 hk1 hS => ?_)
      refine tn_4 hw19 (fun hT hF21 hw19r hw19p => ?_); clear hw19
      have hR := hR.then hF21 (by decide)
      have hP := hB.1; rw [ht] at hP; have hD := tp_ad f20 hD; clear hB hFc hz1 hk1; subst ht; generalize t.heap = H at hP hS ⊢
      have hB := hw19p
      refine lv_if_eq (tgt := 54) hx hb dX2_readBoth_24 (by decide) (fun c22 => ?_) (fun c22 => ?_)
      · have ic22 : r18.toInt = 0 := zi_eq rfl rfl c22
        refine lv_iconst (v := 1) hx hb dX2_readBoth_54 (by decide) ?_
        exact W.zret (v := 1) hx hb hr rfl (fun t ht hW => ⟨⟨1, f20, rfl, ⟨hT, hR, (by first | decide | omega), hB⟩, by rw [ht]; exact hP, va_K.moved hW.alike hK, hD⟩, hS.F ht⟩) hS.2.2 dX2_readBoth_55
      · have ic22 : r18.toInt ≠ 0 := zi_eqf rfl rfl c22
        refine lv_aload_n hx hb dX2_readBoth_27 rfl (lv_at hl 1 rfl) ?_
        refine lv_bipush (v := (-20)) hx hb dX2_readBoth_28 (by decide) ?_
        refine tpk_3 hT ht_h0 (fun o23_x1 o23_x2 o23_x3 o23_x4 o23_x5 o23_x6 o23_x8 o23_x10 o23_x11 o23_x12 o23_x13 o23_x14 o23_x15 hf_o23 ro23_0 ro23_1 ro23_2 ro23_3 ro23_4 ro23_5 ro23_6 => ?_)
        have bo23 : o23_x12.toInt = B0 := by have q9 := hB; rw [hf_o23] at q9; exact q9
        refine tpk_pos (tp_in hG ht_h0 (by decide)) hf_o23 (fun q24 eq24 => ?_)
        have hFc := tp_fr hD hS hA
        refine va_calli (va_runV (As := [.int (-20)]) (rest := []) ⟨hx, hb, hml, hown, hts⟩ (t_X2_emitJump l dC dI _ Ω κ τ ν ρ L f20 hG hT h0 ((-20)) B0 ht_h0 (by first | decide | omega) hB) (cwV 1 hts gX2_readBoth_X2_emitJump rfl rfl rfl ⟨rfl, pd_X2_emitJump⟩ ⟨Nat.le_of_ble_eq_true rfl, Nat.le_of_ble_eq_true rfl⟩) ⟨pz_blind, va_recv hK hP (ci := 2) (q0 := q24) rfl eq24, pz_pre hP hK hD hN⟩ rfl rfl hl.1 rfl (lv_room (Nat.le_of_ble_eq_true rfl)) dX2_readBoth_30 ⟨Nat.le_of_ble_eq_true rfl, Nat.le_of_ble_eq_true rfl⟩) hS (fun q _ h => hFc q h) hFc (fun r25 f27 t H1 locs ht hvm hw26 hB hz1 hk1 hS => ?_)
        refine tn_4 hw26 (fun hT hF28 hw26r hw26p => ?_); clear hw26
        have hR := hR.then hF28 (by decide)
        have hP := hB.1; rw [ht] at hP; have hD := tp_ad f27 hD; clear hB hFc hz1 hk1; subst ht; generalize t.heap = H at hP hS ⊢
        have hB := hw26p
        refine lv_istore_n (lv' := [(2, .int r25), (1, .int w11), (0, .ref h0)]) hx hb dX2_readBoth_33 rfl hl (by decide) rfl (fun ls hl => ?_)
        refine lv_aload_n hx hb dX2_readBoth_34 rfl (lv_at hl 2 rfl) ?_
        refine tpk_3 hT ht_h0 (fun o29_x1 o29_x2 o29_x3 o29_x4 o29_x5 o29_x6 o29_x8 o29_x10 o29_x11 o29_x12 o29_x13 o29_x14 o29_x15 hf_o29 ro29_0 ro29_1 ro29_2 ro29_3 ro29_4 ro29_5 ro29_6 => ?_)
        have bo29 : o29_x12.toInt = B0 := by have q9 := hB; rw [hf_o29] at q9; exact q9
        refine tpk_pos (tp_in hG ht_h0 (by decide)) hf_o29 (fun q30 eq30 => ?_)
        have hFc := tp_fr hD hS hA
        refine va_calli (va_runV (As := []) (rest := []) ⟨hx, hb, hml, hown, hts⟩ (t_X2_readPlain2 l dC dI _ Ω κ τ ν ρ L f27 hG hT adK adV zv h0 B0 ht_h0 hB (by omega)) (cwV 0 hts gX2_readBoth_X2_readPlain rfl rfl rfl ⟨rfl, pd_X2_readPlain⟩ ⟨Nat.le_of_ble_eq_true rfl, Nat.le_of_ble_eq_true rfl⟩) ⟨pw_blindZ, va_recv hK hP (ci := 2) (q0 := q30) rfl eq30, pw_preZ hP hK hD hN hZ hS (tp_fr hD hS hA)⟩ rfl rfl hl.1 rfl (lv_room (Nat.le_of_ble_eq_true rfl)) dX2_readBoth_35 ⟨Nat.le_of_ble_eq_true rfl, Nat.le_of_ble_eq_true rfl⟩) hS (fun q _ h => hFc q h) hFc (fun r31 f33 t H1 locs ht hvm hw32 hB hz1 hk1 hS => ?_)
        refine tn_4 hw32 (fun hT hF34 hw32r hw32p => ?_); clear hw32
        have hR := hR.then hF34 (by decide)
        have hP := hB.1; rw [ht] at hP; have hD := tp_ad f33 hD; clear hB hFc hz1 hk1; subst ht; generalize t.heap = H at hP hS ⊢
        have hB := hw32p
        refine lv_if_ne (tgt := 43) hx hb dX2_readBoth_38 (by decide) (fun c35 => ?_) (fun c35 => ?_)
        · have ic35 : r31.toInt ≠ 0 := zi_ne rfl rfl c35
          refine lv_aload_n hx hb dX2_readBoth_43 rfl (lv_at hl 2 rfl) ?_
          refine lv_iload_n hx hb dX2_readBoth_44 rfl (lv_at hl 0 rfl) ?_
          refine tpk_3 hT ht_h0 (fun o36_x1 o36_x2 o36_x3 o36_x4 o36_x5 o36_x6 o36_x8 o36_x10 o36_x11 o36_x12 o36_x13 o36_x14 o36_x15 hf_o36 ro36_0 ro36_1 ro36_2 ro36_3 ro36_4 ro36_5 ro36_6 => ?_)
          have bo36 : o36_x12.toInt = B0 := by have q9 := hB; rw [hf_o36] at q9; exact q9
          refine tpk_pos (tp_in hG ht_h0 (by decide)) hf_o36 (fun q37 eq37 => ?_)
          have hFc := tp_fr hD hS hA
          refine va_callv (va_runV (As := [.int r25]) (rest := []) ⟨hx, hb, hml, hown, hts⟩ (t_X2_land l dC dI _ Ω κ τ ν ρ L f33 hG hT h0 r25 B0 ht_h0 hB) (cwV 1 hts gX2_readBoth_X2_land rfl rfl rfl ⟨rfl, pd_X2_land⟩ ⟨Nat.le_of_ble_eq_true rfl, Nat.le_of_ble_eq_true rfl⟩) ⟨pz_blind, va_recv hK hP (ci := 2) (q0 := q37) rfl eq37, pz_pre hP hK hD hN⟩ rfl rfl hl.1 rfl (lv_room (Nat.le_of_ble_eq_true rfl)) dX2_readBoth_45 ⟨Nat.le_of_ble_eq_true rfl, Nat.le_of_ble_eq_true rfl⟩) hS (fun q _ h => hFc q h) hFc (fun f40 t H1 locs ht hvm hw39 hB hz1 hk1 hS => ?_)
          refine tn_3 hw39 (fun hT hF41 hw39p => ?_); clear hw39
          have hR := hR.then hF41 (by decide)
          have hP := hB.1; rw [ht] at hP; have hD := tp_ad f40 hD; clear hB hFc hz1 hk1; subst ht; generalize t.heap = H at hP hS ⊢
          have hB := hw39p
          obtain ⟨z42, ez42⟩ : ∃ y : Int32, y = w11 + 1 := ⟨_, rfl⟩
          refine lv_iinc (v := z42) (lv' := [(1, .int z42), (2, .int r25), (0, .ref h0)]) hx hb dX2_readBoth_48 hl (k := 1) rfl (by rw [ez42]; rfl) (by decide) rfl (fun ls hl => ?_)
          have iz42 : z42.toInt = w11.toInt + 1 := zi_add ez42 rfl rfl (by omega) (by omega)
          refine lv_goto (tgt := 11) hx hb dX2_readBoth_51 (by decide) ?_
          exact ih13 _ _ _ _ (by rw [hn14]; omega) ⟨f40, z42, rfl, hT, hR, hB, (by omega), hP, hD, hS, lv_sub hl [0, 2] rfl⟩
        · have ic35 : r31.toInt = 0 := zi_nef rfl rfl c35
          refine lv_iconst (v := 0) hx hb dX2_readBoth_41 (by decide) ?_
          exact W.zret (v := 0) hx hb hr rfl (fun t ht hW => ⟨⟨0, f33, rfl, ⟨hT, hR, (by first | decide | omega), hB⟩, by rw [ht]; exact hP, va_K.moved hW.alike hK, hD⟩, hS.F ht⟩) hS.2.2 dX2_readBoth_42
  · have ic10 : r6.toInt = 0 := zi_nef rfl rfl c10
    refine lv_iconst (v := 0) hx hb dX2_readBoth_7 (by decide) ?_
    exact W.zret (v := 0) hx hb hr rfl (fun t ht hW => ⟨⟨0, f8, rfl, ⟨hT, hR, (by first | decide | omega), hB⟩, by rw [ht]; exact hP, va_K.moved hW.alike hK, hD⟩, hS.F ht⟩) hS.2.2 dX2_readBoth_8
set_option maxHeartbeats 4000000 in
set_option maxRecDepth 100000 in
theorem t_X2_readTest2 (l : Launch) (dC : Nat → ClassId) (dI : Nat → Nat → Nat) (sz : Nat) (Ω : Nat → Nat → (Nat → Nat) → va_E → Prop) (κ : Nat → ClassId) (τ ν : Nat → Nat) (ρ : Nat → Nat → Nat) (L : List Nat) (f : Nat → va_E) (hG : tp_G τ ν ρ L) (hT : tp_T Ω κ τ ν ρ f) (adK adV : Nat → Nat) (zv : Option Nat) (h0 : Nat) (B0 : Int) (ht_h0 : τ h0 = 3) (hB : tp_fld (f h0) 12 = B0) (hBr : B0 = 2) : Met l yX2_readTest wqX2_readTest ({ frames := 63, cells := 0, slots := 0, locals := 24800 }) (va_Pc [.ref h0] (pw_BZ dC dI (tp_K κ) (va_pl L f) sz adK adV zv)) (va_Qi (fun (r : Int32) (f1 : Nat → va_E) => tp_T Ω κ τ ν ρ f1 ∧ tp_F τ [3, 20, 28] f f1 ∧ (0 ≤ r.toInt ∧ r.toInt ≤ 1) ∧ tp_fld (f1 h0) 12 = B0) (fun (f1 : Nat → va_E) (t : State) => pz_E dC dI (tp_K κ) (va_A (va_pl L f) sz) (va_pl L f1) t) (va_A (va_pl L f) sz)) 0 0 (va_A (va_pl L f) sz) := by
  refine Met.ofW (cc := cX2_readTest) (maxL := 3) (ret := some .boolean) (by decide) rfl ?_
  intro p e s m args below meth c s₁ B hml hv
  obtain ⟨rfl, ⟨hsz, hP, hK, hD0, hN⟩, hZ⟩ := hv
  have hx := B.exec
  have hb := B.bytes
  have hr := B.returns
  have hts := fun (w : Cond) (h : w ∈ WALL) => atoms_spec (ws := wqX2_readTest) B.pre w (List.mem_cons_of_mem _ h)
  have hown : s.vm.findClass RX2 = some m.cls := findClass_of_methodNamed B.named
  have hlocks := B.notSynchronized
  subst hsz
  have hD := hD0.self (sz := s.heap.size)
  generalize hAe : va_A (va_pl L f) s.heap.size = A at hD hZ ⊢
  have hA : ∀ q : Nat, s.heap.size ≤ q → A q := fun q h => by rw [← hAe]; exact Or.inr h
  have hS : va_S A s.heap s.heap [] := va_S.rf
  have hR : tp_F τ [3, 20, 28] f f := tp_F.rf
  have hl := lv_entry ([.ref h0]) (n := 3) (Nat.le_of_ble_eq_true rfl)
  rw [lg_entry_eq]
  generalize (lg_sl ([.ref h0]) ++ List.replicate (3 - (lg_sl ([.ref h0])).length) Slot.unset).toArray = ls at hl ⊢
  have hl : lv_has ls 3 [(0, .ref h0)] := hl
  refine lv_aload_n hx hb dX2_readTest_0 rfl (lv_at hl 0 rfl) ?_
  refine tgk_3 hG ht_h0 (fun y1 y1n y2 y2n y3 y3n => ?_)
  refine tpk_3 hT ht_h0 (fun o4_x1 o4_x2 o4_x3 o4_x4 o4_x5 o4_x6 o4_x8 o4_x10 o4_x11 o4_x12 o4_x13 o4_x14 o4_x15 hf_o4 ro4_0 ro4_1 ro4_2 ro4_3 ro4_4 ro4_5 ro4_6 => ?_)
  have bo4 : o4_x12.toInt = B0 := by have q9 := hB; rw [hf_o4] at q9; exact q9
  refine tpk_pos (tp_in hG ht_h0 (by decide)) hf_o4 (fun q5 eq5 => ?_)
  have hFc := tp_fr hD hS hA
  refine va_calli (va_runV (As := []) (rest := []) ⟨hx, hb, hml, hown, hts⟩ (t_X2_readBoth2 l dC dI _ Ω κ τ ν ρ L f hG hT adK adV zv h0 B0 ht_h0 hB (by omega)) (cwV 0 hts gX2_readTest_X2_readBoth rfl rfl rfl ⟨rfl, pd_X2_readBoth⟩ ⟨Nat.le_of_ble_eq_true rfl, Nat.le_of_ble_eq_true rfl⟩) ⟨pw_blindZ, va_recv hK hP (ci := 2) (q0 := q5) rfl eq5, pw_preZ hP hK hD hN hZ hS (tp_fr hD hS hA)⟩ rfl rfl hl.1 rfl (lv_room (Nat.le_of_ble_eq_true rfl)) dX2_readTest_1 ⟨Nat.le_of_ble_eq_true rfl, Nat.le_of_ble_eq_true rfl⟩) hS (fun q _ h => hFc q h) hFc (fun r6 f8 t H1 locs ht hvm hw7 hB hz1 hk1 hS => ?_)
  refine tn_4 hw7 (fun hT hF9 hw7r hw7p => ?_); clear hw7
  have hR := hR.then hF9 (by decide)
  have hP := hB.1; rw [ht] at hP; have hD := tp_ad f8 hD; clear hB hFc hz1 hk1; subst ht; generalize t.heap = H at hP hS ⊢
  have hB := hw7p
  refine lv_if_ne (tgt := 9) hx hb dX2_readTest_4 (by decide) (fun c10 => ?_) (fun c10 => ?_)
  · have ic10 : r6.toInt ≠ 0 := zi_ne rfl rfl c10
    refine lv_iconst (v := 0) hx hb dX2_readTest_9 (by decide) ?_
    refine lv_istore_n (lv' := [(1, .int 0), (0, .ref h0)]) hx hb dX2_readTest_10 rfl hl (by decide) rfl (fun ls hl => ?_)
    refine pz_loop (fun n0 H locs ls => ∃ f12 : Nat → va_E, ∃ w11 : Int32, n0 = (400 - (w11.toInt)).toNat ∧ tp_T Ω κ τ ν ρ f12 ∧ tp_F τ [3, 20, 28] f f12 ∧ tp_fld (f12 h0) 12 = B0 ∧ (0 ≤ w11.toInt ∧ w11.toInt ≤ 400) ∧ va_P (dC, dI) vwCl (va_pl L f12) H ∧ va_D A (va_pl L f12) ∧ va_S A s.heap H locs ∧ lv_has ls 3 [(1, .int w11), (0, .ref h0)]) ?_ _ _ _ _ ⟨f8, 0, rfl, hT, hR, hB, (by have : (0 : Int32).toInt = 0 := rfl; omega), hP, hD, hS, lv_sub hl [0, 1] rfl⟩
    intro n0 H locs ls hI ih13
    refine Exists.elim hI (fun f12 hE90 => Exists.elim hE90 (fun w11 hE91 => tn_9 hE91 (fun hn14 hT hR hB rw11 hP hD hS hl => ?_)))
    clear hE91 hE90 hI
    refine lv_iload_n hx hb dX2_readTest_11 rfl (lv_at hl 0 rfl) ?_
    refine lv_sipush (v := 400) hx hb dX2_readTest_12 (by decide) ?_
    refine lv_icmp_ge (tgt := 54) hx hb dX2_readTest_15 (by decide) (fun c15 => ?_) (fun c15 => ?_)
    · have ic15 : w11.toInt ≥ 400 := zi_ge rfl rfl c15
      refine lv_iconst (v := 1) hx hb dX2_readTest_54 (by decide) ?_
      exact W.zret (v := 1) hx hb hr rfl (fun t ht hW => ⟨⟨1, f12, rfl, ⟨hT, hR, (by first | decide | omega), hB⟩, by rw [ht]; exact hP, va_K.moved hW.alike hK, hD⟩, hS.F ht⟩) hS.2.2 dX2_readTest_55
    · have ic15 : w11.toInt < 400 := zi_gef rfl rfl c15
      refine lv_aload_n hx hb dX2_readTest_18 rfl (lv_at hl 1 rfl) ?_
      refine va_ldcS hx hb hown (show vk_R RX2 127 "or" (adK 6) s from hZ.2.2.2 6 (by decide)) dX2_readTest_19 ?_
      refine tpk_3 hT ht_h0 (fun o16_x1 o16_x2 o16_x3 o16_x4 o16_x5 o16_x6 o16_x8 o16_x10 o16_x11 o16_x12 o16_x13 o16_x14 o16_x15 hf_o16 ro16_0 ro16_1 ro16_2 ro16_3 ro16_4 ro16_5 ro16_6 => ?_)
      have bo16 : o16_x12.toInt = B0 := by have q9 := hB; rw [hf_o16] at q9; exact q9
      refine tpk_pos (tp_in hG ht_h0 (by decide)) hf_o16 (fun q17 eq17 => ?_)
      have hFc := tp_fr hD hS hA
      refine va_calli (va_runV (As := [.ref (adK 6)]) (rest := []) ⟨hx, hb, hml, hown, hts⟩ (t_X2_passWord l dC dI _ Ω κ τ ν ρ L f12 hG hT adK adV zv h0 6 B0 ht_h0 (by decide) hB) (cwV 1 hts gX2_readTest_X2_passWord rfl rfl rfl ⟨rfl, pd_X2_passWord⟩ ⟨Nat.le_of_ble_eq_true rfl, Nat.le_of_ble_eq_true rfl⟩) ⟨pw_blindZ, va_recv hK hP (ci := 2) (q0 := q17) rfl eq17, pw_preZ hP hK hD hN hZ hS (tp_fr hD hS hA)⟩ rfl rfl hl.1 rfl (lv_room (Nat.le_of_ble_eq_true rfl)) dX2_readTest_21 ⟨Nat.le_of_ble_eq_true rfl, Nat.le_of_ble_eq_true rfl⟩) hS (fun q _ h => hFc q h) hFc (fun r18 f20 t H1 locs ht hvm hw19 hB hz1 hk1 hS => ?_)
      refine tn_4 hw19 (fun hT hF21 hw19r hw19p => ?_); clear hw19
      have hR := hR.then hF21 (by decide)
      have hP := hB.1; rw [ht] at hP; have hD := tp_ad f20 hD; clear hB hFc hz1 hk1; subst ht; generalize t.heap = H at hP hS ⊢
      have hB := hw19p
      refine lv_if_eq (tgt := 54) hx hb dX2_readTest_24 (by decide) (fun c22 => ?_) (fun c22 => ?_)
      · have ic22 : r18.toInt = 0 := zi_eq rfl rfl c22
        refine lv_iconst (v := 1) hx hb dX2_readTest_54 (by decide) ?_
        exact W.zret (v := 1) hx hb hr rfl (fun t ht hW => ⟨⟨1, f20, rfl, ⟨hT, hR, (by first | decide | omega), hB⟩, by rw [ht]; exact hP, va_K.moved hW.alike hK, hD⟩, hS.F ht⟩) hS.2.2 dX2_readTest_55
      · have ic22 : r18.toInt ≠ 0 := zi_eqf rfl rfl c22
        refine lv_aload_n hx hb dX2_readTest_27 rfl (lv_at hl 1 rfl) ?_
        refine lv_bipush (v := (-19)) hx hb dX2_readTest_28 (by decide) ?_
        refine tpk_3 hT ht_h0 (fun o23_x1 o23_x2 o23_x3 o23_x4 o23_x5 o23_x6 o23_x8 o23_x10 o23_x11 o23_x12 o23_x13 o23_x14 o23_x15 hf_o23 ro23_0 ro23_1 ro23_2 ro23_3 ro23_4 ro23_5 ro23_6 => ?_)
        have bo23 : o23_x12.toInt = B0 := by have q9 := hB; rw [hf_o23] at q9; exact q9
        refine tpk_pos (tp_in hG ht_h0 (by decide)) hf_o23 (fun q24 eq24 => ?_)
        have hFc := tp_fr hD hS hA
        refine va_calli (va_runV (As := [.int (-19)]) (rest := []) ⟨hx, hb, hml, hown, hts⟩ (t_X2_emitJump l dC dI _ Ω κ τ ν ρ L f20 hG hT h0 ((-19)) B0 ht_h0 (by first | decide | omega) hB) (cwV 1 hts gX2_readTest_X2_emitJump rfl rfl rfl ⟨rfl, pd_X2_emitJump⟩ ⟨Nat.le_of_ble_eq_true rfl, Nat.le_of_ble_eq_true rfl⟩) ⟨pz_blind, va_recv hK hP (ci := 2) (q0 := q24) rfl eq24, pz_pre hP hK hD hN⟩ rfl rfl hl.1 rfl (lv_room (Nat.le_of_ble_eq_true rfl)) dX2_readTest_30 ⟨Nat.le_of_ble_eq_true rfl, Nat.le_of_ble_eq_true rfl⟩) hS (fun q _ h => hFc q h) hFc (fun r25 f27 t H1 locs ht hvm hw26 hB hz1 hk1 hS => ?_)
        refine tn_4 hw26 (fun hT hF28 hw26r hw26p => ?_); clear hw26
        have hR := hR.then hF28 (by decide)
        have hP := hB.1; rw [ht] at hP; have hD := tp_ad f27 hD; clear hB hFc hz1 hk1; subst ht; generalize t.heap = H at hP hS ⊢
        have hB := hw26p
        refine lv_istore_n (lv' := [(2, .int r25), (1, .int w11), (0, .ref h0)]) hx hb dX2_readTest_33 rfl hl (by decide) rfl (fun ls hl => ?_)
        refine lv_aload_n hx hb dX2_readTest_34 rfl (lv_at hl 2 rfl) ?_
        refine tpk_3 hT ht_h0 (fun o29_x1 o29_x2 o29_x3 o29_x4 o29_x5 o29_x6 o29_x8 o29_x10 o29_x11 o29_x12 o29_x13 o29_x14 o29_x15 hf_o29 ro29_0 ro29_1 ro29_2 ro29_3 ro29_4 ro29_5 ro29_6 => ?_)
        have bo29 : o29_x12.toInt = B0 := by have q9 := hB; rw [hf_o29] at q9; exact q9
        refine tpk_pos (tp_in hG ht_h0 (by decide)) hf_o29 (fun q30 eq30 => ?_)
        have hFc := tp_fr hD hS hA
        refine va_calli (va_runV (As := []) (rest := []) ⟨hx, hb, hml, hown, hts⟩ (t_X2_readBoth2 l dC dI _ Ω κ τ ν ρ L f27 hG hT adK adV zv h0 B0 ht_h0 hB (by omega)) (cwV 0 hts gX2_readTest_X2_readBoth rfl rfl rfl ⟨rfl, pd_X2_readBoth⟩ ⟨Nat.le_of_ble_eq_true rfl, Nat.le_of_ble_eq_true rfl⟩) ⟨pw_blindZ, va_recv hK hP (ci := 2) (q0 := q30) rfl eq30, pw_preZ hP hK hD hN hZ hS (tp_fr hD hS hA)⟩ rfl rfl hl.1 rfl (lv_room (Nat.le_of_ble_eq_true rfl)) dX2_readTest_35 ⟨Nat.le_of_ble_eq_true rfl, Nat.le_of_ble_eq_true rfl⟩) hS (fun q _ h => hFc q h) hFc (fun r31 f33 t H1 locs ht hvm hw32 hB hz1 hk1 hS => ?_)
        refine tn_4 hw32 (fun hT hF34 hw32r hw32p => ?_); clear hw32
        have hR := hR.then hF34 (by decide)
        have hP := hB.1; rw [ht] at hP; have hD := tp_ad f33 hD; clear hB hFc hz1 hk1; subst ht; generalize t.heap = H at hP hS ⊢
        have hB := hw32p
        refine lv_if_ne (tgt := 43) hx hb dX2_readTest_38 (by decide) (fun c35 => ?_) (fun c35 => ?_)
        · have ic35 : r31.toInt ≠ 0 := zi_ne rfl rfl c35
          refine lv_aload_n hx hb dX2_readTest_43 rfl (lv_at hl 2 rfl) ?_
          refine lv_iload_n hx hb dX2_readTest_44 rfl (lv_at hl 0 rfl) ?_
          refine tpk_3 hT ht_h0 (fun o36_x1 o36_x2 o36_x3 o36_x4 o36_x5 o36_x6 o36_x8 o36_x10 o36_x11 o36_x12 o36_x13 o36_x14 o36_x15 hf_o36 ro36_0 ro36_1 ro36_2 ro36_3 ro36_4 ro36_5 ro36_6 => ?_)
          have bo36 : o36_x12.toInt = B0 := by have q9 := hB; rw [hf_o36] at q9; exact q9
          refine tpk_pos (tp_in hG ht_h0 (by decide)) hf_o36 (fun q37 eq37 => ?_)
          have hFc := tp_fr hD hS hA
          refine va_callv (va_runV (As := [.int r25]) (rest := []) ⟨hx, hb, hml, hown, hts⟩ (t_X2_land l dC dI _ Ω κ τ ν ρ L f33 hG hT h0 r25 B0 ht_h0 hB) (cwV 1 hts gX2_readTest_X2_land rfl rfl rfl ⟨rfl, pd_X2_land⟩ ⟨Nat.le_of_ble_eq_true rfl, Nat.le_of_ble_eq_true rfl⟩) ⟨pz_blind, va_recv hK hP (ci := 2) (q0 := q37) rfl eq37, pz_pre hP hK hD hN⟩ rfl rfl hl.1 rfl (lv_room (Nat.le_of_ble_eq_true rfl)) dX2_readTest_45 ⟨Nat.le_of_ble_eq_true rfl, Nat.le_of_ble_eq_true rfl⟩) hS (fun q _ h => hFc q h) hFc (fun f40 t H1 locs ht hvm hw39 hB hz1 hk1 hS => ?_)
          refine tn_3 hw39 (fun hT hF41 hw39p => ?_); clear hw39
          have hR := hR.then hF41 (by decide)
          have hP := hB.1; rw [ht] at hP; have hD := tp_ad f40 hD; clear hB hFc hz1 hk1; subst ht; generalize t.heap = H at hP hS ⊢
          have hB := hw39p
          obtain ⟨z42, ez42⟩ : ∃ y : Int32, y = w11 + 1 := ⟨_, rfl⟩
          refine lv_iinc (v := z42) (lv' := [(1, .int z42), (2, .int r25), (0, .ref h0)]) hx hb dX2_readTest_48 hl (k := 1) rfl (by rw [ez42]; rfl) (by decide) rfl (fun ls hl => ?_)
          have iz42 : z42.toInt = w11.toInt + 1 := zi_add ez42 rfl rfl (by omega) (by omega)
          refine lv_goto (tgt := 11) hx hb dX2_readTest_51 (by decide) ?_
          exact ih13 _ _ _ _ (by rw [hn14]; omega) ⟨f40, z42, rfl, hT, hR, hB, (by omega), hP, hD, hS, lv_sub hl [0, 2] rfl⟩
        · have ic35 : r31.toInt = 0 := zi_nef rfl rfl c35
          refine lv_iconst (v := 0) hx hb dX2_readTest_41 (by decide) ?_
          exact W.zret (v := 0) hx hb hr rfl (fun t ht hW => ⟨⟨0, f33, rfl, ⟨hT, hR, (by first | decide | omega), hB⟩, by rw [ht]; exact hP, va_K.moved hW.alike hK, hD⟩, hS.F ht⟩) hS.2.2 dX2_readTest_42
  · have ic10 : r6.toInt = 0 := zi_nef rfl rfl c10
    refine lv_iconst (v := 0) hx hb dX2_readTest_7 (by decide) ?_
    exact W.zret (v := 0) hx hb hr rfl (fun t ht hW => ⟨⟨0, f8, rfl, ⟨hT, hR, (by first | decide | omega), hB⟩, by rw [ht]; exact hP, va_K.moved hW.alike hK, hD⟩, hS.F ht⟩) hS.2.2 dX2_readTest_8
end
section
set_option maxHeartbeats 4000000 in
set_option maxRecDepth 100000 in
theorem t_X2_readInBrackets1 (l : Launch) (dC : Nat → ClassId) (dI : Nat → Nat → Nat) (sz : Nat) (Ω : Nat → Nat → (Nat → Nat) → va_E → Prop) (κ : Nat → ClassId) (τ ν : Nat → Nat) (ρ : Nat → Nat → Nat) (L : List Nat) (f : Nat → va_E) (hG : tp_G τ ν ρ L) (hT : tp_T Ω κ τ ν ρ f) (adK adV : Nat → Nat) (zv : Option Nat) (h0 : Nat) (v : Int32) (B0 : Int) (ht_h0 : τ h0 = 3) (hr_v : 0 ≤ v.toInt ∧ v.toInt ≤ 1) (hB : tp_fld (f h0) 12 = B0) (hBr : B0 = 1) : Met l yX2_readInBrackets wqX2_readInBrackets ({ frames := 64, cells := 0, slots := 0, locals := 25200 }) (va_Pc [.ref h0, .int v] (pw_BZ dC dI (tp_K κ) (va_pl L f) sz adK adV zv)) (va_Qi (fun (r : Int32) (f1 : Nat → va_E) => tp_T Ω κ τ ν ρ f1 ∧ tp_F τ [3, 20, 28] f f1 ∧ (0 ≤ r.toInt ∧ r.toInt ≤ 1) ∧ tp_fld (f1 h0) 12 = B0) (fun (f1 : Nat → va_E) (t : State) => pz_E dC dI (tp_K κ) (va_A (va_pl L f) sz) (va_pl L f1) t) (va_A (va_pl L f) sz)) 0 0 (va_A (va_pl L f) sz) := by
  refine Met.ofW (cc := cX2_readInBrackets) (maxL := 3) (ret := some .boolean) (by decide) rfl ?_
  intro p e s m args below meth c s₁ B hml hv
  obtain ⟨rfl, ⟨hsz, hP, hK, hD0, hN⟩, hZ⟩ := hv
  have hx := B.exec
  have hb := B.bytes
  have hr := B.returns
  have hts := fun (w : Cond) (h : w ∈ WALL) => atoms_spec (ws := wqX2_readInBrackets) B.pre w (List.mem_cons_of_mem _ h)
  have hown : s.vm.findClass RX2 = some m.cls := findClass_of_methodNamed B.named
  have hlocks := B.notSynchronized
  subst hsz
  have hD := hD0.self (sz := s.heap.size)
  generalize hAe : va_A (va_pl L f) s.heap.size = A at hD hZ ⊢
  have hA : ∀ q : Nat, s.heap.size ≤ q → A q := fun q h => by rw [← hAe]; exact Or.inr h
  have hS : va_S A s.heap s.heap [] := va_S.rf
  have hR : tp_F τ [3, 20, 28] f f := tp_F.rf
  have hl := lv_entry ([.ref h0, .int v]) (n := 3) (Nat.le_of_ble_eq_true rfl)
  rw [lg_entry_eq]
  generalize (lg_sl ([.ref h0, .int v]) ++ List.replicate (3 - (lg_sl ([.ref h0, .int v])).length) Slot.unset).toArray = ls at hl ⊢
  have hl : lv_has ls 3 [(0, .ref h0), (1, .int v)] := hl
  refine lv_aload_n hx hb dX2_readInBrackets_0 rfl (lv_at hl 0 rfl) ?_
  refine tgk_3 hG ht_h0 (fun y1 y1n y2 y2n y3 y3n => ?_)
  refine tpk_3 hT ht_h0 (fun o4_x1 o4_x2 o4_x3 o4_x4 o4_x5 o4_x6 o4_x8 o4_x10 o4_x11 o4_x12 o4_x13 o4_x14 o4_x15 hf_o4 ro4_0 ro4_1 ro4_2 ro4_3 ro4_4 ro4_5 ro4_6 => ?_)
  have bo4 : o4_x12.toInt = B0 := by have q9 := hB; rw [hf_o4] at q9; exact q9
  refine tpk_pos (tp_in hG ht_h0 (by decide)) hf_o4 (fun q5 eq5 => ?_)
  refine va_get (D := (dC, dI)) (ci := 2) (v := .int o4_x12) (C := RX2) (T := TX2) (N := 16) hx hb hts hfX2 hown hK hP q5 eq5 rfl 12 (by decide) (hts (.fieldLink RX2 41 "ColdShips$Reader" "brackets" "I") wa_799) (fun _ h9 => h9) rfl dX2_readInBrackets_1 ?_
  refine lv_bipush (v := 8) hx hb dX2_readInBrackets_4 (by decide) ?_
  refine lv_icmp_lt (tgt := 11) hx hb dX2_readInBrackets_6 (by decide) (fun c6 => ?_) (fun c6 => ?_)
  · have ic6 : o4_x12.toInt < 8 := zi_lt rfl rfl c6
    refine lv_aload_n hx hb dX2_readInBrackets_11 rfl (lv_at hl 0 rfl) ?_
    refine lv_dup hx hb dX2_readInBrackets_12 rfl ?_
    refine va_get (D := (dC, dI)) (ci := 2) (v := .int o4_x12) (C := RX2) (T := TX2) (N := 16) hx hb hts hfX2 hown hK hP q5 eq5 rfl 12 (by decide) (hts (.fieldLink RX2 41 "ColdShips$Reader" "brackets" "I") wa_799) (fun _ h9 => h9) rfl dX2_readInBrackets_13 ?_
    refine lv_iconst (v := 1) hx hb dX2_readInBrackets_16 (by decide) ?_
    refine lv_iadd hx hb dX2_readInBrackets_17 ?_
    refine lv_topi (fun z7 ez7 => ?_)
    have iz7 : z7.toInt = o4_x12.toInt + 1 := zi_add ez7 rfl rfl (by omega) (by omega)
    refine va_put (D := (dC, dI)) (ci := 2) (v := .int z7) (ty := .int) (C := RX2) (T := TX2) (N := 16) hx hb hts hfX2 tyX2 tyX2_ok nmX2 hown hK hP hD hS q5 eq5 rfl 12 (by decide) (hts (.fieldLink RX2 41 "ColdShips$Reader" "brackets" "I") wa_799) (fun _ h9 => h9) rfl (tyX2_ok 12 (by decide)) rfl rfl (Nat.le_of_ble_eq_true rfl) dX2_readInBrackets_18 (tp_k (.inr (2, [.ref (ρ h0 0), .int o4_x1, .int o4_x2, .int o4_x3, .int o4_x4, .int o4_x5, .int o4_x6, .ref (ρ h0 7), .int o4_x8, .ref (ρ h0 9), .int o4_x10, .int o4_x11, .int z7, .int o4_x13, .int o4_x14, .int o4_x15])) hD (tp_in hG ht_h0 (by decide)) eq5 (fun f8 H locs hP hD hS g10 k9 => ?_))
    have hT := hT.up ht_h0 g10 k9 ⟨_, _, _, _, _, _, _, _, _, _, _, _, _, rfl, ro4_0, ro4_1, ro4_2, ro4_3, ro4_4, ro4_5, ro4_6⟩
    have hR := hR.up ht_h0 (by decide) k9
    have hB : tp_fld (f8 h0) 12 = z7.toInt := by rw [g10]; show (z7).toInt = z7.toInt; rfl
    refine lv_aload_n hx hb dX2_readInBrackets_21 rfl (lv_at hl 0 rfl) ?_
    refine tpk_pos (tp_in hG ht_h0 (by decide)) g10 (fun q11 eq11 => ?_)
    have hFc := tp_fr hD hS hA
    refine va_callv (va_runV (As := []) (rest := []) ⟨hx, hb, hml, hown, hts⟩ (t_X2_advance l dC dI _ Ω κ τ ν ρ L f8 hG hT h0 z7.toInt ht_h0 hB) (cwV 0 hts gX2_readInBrackets_X2_advance rfl rfl rfl ⟨rfl, pd_X2_advance⟩ ⟨Nat.le_of_ble_eq_true rfl, Nat.le_of_ble_eq_true rfl⟩) ⟨pz_blind, va_recv hK hP (ci := 2) (q0 := q11) rfl eq11, pz_pre hP hK hD hN⟩ rfl rfl hl.1 rfl (lv_room (Nat.le_of_ble_eq_true rfl)) dX2_readInBrackets_22 ⟨Nat.le_of_ble_eq_true rfl, Nat.le_of_ble_eq_true rfl⟩) hS (fun q _ h => hFc q h) hFc (fun f14 t H1 locs ht hvm hw13 hB hz1 hk1 hS => ?_)
    refine tn_3 hw13 (fun hT hF15 hw13p => ?_); clear hw13
    have hR := hR.then hF15 (by decide)
    have hP := hB.1; rw [ht] at hP; have hD := tp_ad f14 hD; clear hB hFc hz1 hk1; subst ht; generalize t.heap = H at hP hS ⊢
    have hB := hw13p
    refine lv_iload_n hx hb dX2_readInBrackets_25 rfl (lv_at hl 1 rfl) ?_
    refine tp_join 40 (fun H locs ls stk => ∃ f18 : Nat → va_E, ∃ w16 : Int32, stk = [.int w16] ∧ tp_T Ω κ τ ν ρ f18 ∧ tp_F τ [3, 20, 28] f f18 ∧ tp_fld (f18 h0) 12 = z7.toInt ∧ (0 ≤ w16.toInt ∧ w16.toInt ≤ 1) ∧ va_P (dC, dI) vwCl (va_pl L f18) H ∧ va_D A (va_pl L f18) ∧ va_S A s.heap H locs ∧ lv_has ls 3 [(0, .ref h0), (1, .int v)]) ?_ (fun hj17 => ?_)
    · intro H locs ls stk hI
      refine Exists.elim hI (fun f18 hE90 => Exists.elim hE90 (fun w16 hE91 => tn_9 hE91 (fun e90 hT hR hB rw16 hP hD hS hl => ?_)))
      clear hE91 hE90 hI; subst e90
      refine lv_istore_n (lv' := [(2, .int w16), (0, .ref h0), (1, .int v)]) hx hb dX2_readInBrackets_40 rfl hl (by decide) rfl (fun ls hl => ?_)
      refine lv_aload_n hx hb dX2_readInBrackets_41 rfl (lv_at hl 1 rfl) ?_
      refine lv_dup hx hb dX2_readInBrackets_42 rfl ?_
      refine tpk_3 hT ht_h0 (fun o19_x1 o19_x2 o19_x3 o19_x4 o19_x5 o19_x6 o19_x8 o19_x10 o19_x11 o19_x12 o19_x13 o19_x14 o19_x15 hf_o19 ro19_0 ro19_1 ro19_2 ro19_3 ro19_4 ro19_5 ro19_6 => ?_)
      have bo19 : o19_x12.toInt = z7.toInt := by have q9 := hB; rw [hf_o19] at q9; exact q9
      refine tpk_pos (tp_in hG ht_h0 (by decide)) hf_o19 (fun q20 eq20 => ?_)
      refine va_get (D := (dC, dI)) (ci := 2) (v := .int o19_x12) (C := RX2) (T := TX2) (N := 16) hx hb hts hfX2 hown hK hP q20 eq20 rfl 12 (by decide) (hts (.fieldLink RX2 41 "ColdShips$Reader" "brackets" "I") wa_799) (fun _ h9 => h9) rfl dX2_readInBrackets_43 ?_
      refine lv_iconst (v := 1) hx hb dX2_readInBrackets_46 (by decide) ?_
      refine lv_isub hx hb dX2_readInBrackets_47 ?_
      refine lv_topi (fun z21 ez21 => ?_)
      have iz21 : z21.toInt = o19_x12.toInt - 1 := zi_sub ez21 rfl rfl (by omega) (by omega)
      refine va_put (D := (dC, dI)) (ci := 2) (v := .int z21) (ty := .int) (C := RX2) (T := TX2) (N := 16) hx hb hts hfX2 tyX2 tyX2_ok nmX2 hown hK hP hD hS q20 eq20 rfl 12 (by decide) (hts (.fieldLink RX2 41 "ColdShips$Reader" "brackets" "I") wa_799) (fun _ h9 => h9) rfl (tyX2_ok 12 (by decide)) rfl rfl (Nat.le_of_ble_eq_true rfl) dX2_readInBrackets_48 (tp_k (.inr (2, [.ref (ρ h0 0), .int o19_x1, .int o19_x2, .int o19_x3, .int o19_x4, .int o19_x5, .int o19_x6, .ref (ρ h0 7), .int o19_x8, .ref (ρ h0 9), .int o19_x10, .int o19_x11, .int z21, .int o19_x13, .int o19_x14, .int o19_x15])) hD (tp_in hG ht_h0 (by decide)) eq20 (fun f22 H locs hP hD hS g24 k23 => ?_))
      have hT := hT.up ht_h0 g24 k23 ⟨_, _, _, _, _, _, _, _, _, _, _, _, _, rfl, ro19_0, ro19_1, ro19_2, ro19_3, ro19_4, ro19_5, ro19_6⟩
      have hR := hR.up ht_h0 (by decide) k23
      have hB : tp_fld (f22 h0) 12 = z21.toInt := by rw [g24]; show (z21).toInt = z21.toInt; rfl
      refine lv_iload_n hx hb dX2_readInBrackets_51 rfl (lv_at hl 0 rfl) ?_
      refine lv_if_eq (tgt := 77) hx hb dX2_readInBrackets_52 (by decide) (fun c25 => ?_) (fun c25 => ?_)
      · have ic25 : w16.toInt = 0 := zi_eq rfl rfl c25
        refine lv_iconst (v := 0) hx hb dX2_readInBrackets_77 (by decide) ?_
        exact W.zret (v := 0) hx hb hr rfl (fun t ht hW => ⟨⟨0, f22, rfl, ⟨hT, hR, (by first | decide | omega), (hB.trans (by omega))⟩, by rw [ht]; exact hP, va_K.moved hW.alike hK, hD⟩, hS.F ht⟩) hS.2.2 dX2_readInBrackets_78
      · have ic25 : w16.toInt ≠ 0 := zi_eqf rfl rfl c25
        refine lv_aload_n hx hb dX2_readInBrackets_55 rfl (lv_at hl 1 rfl) ?_
        refine lv_iload_n hx hb dX2_readInBrackets_56 rfl (lv_at hl 2 rfl) ?_
        refine lv_if_eq (tgt := 65) hx hb dX2_readInBrackets_57 (by decide) (fun c26 => ?_) (fun c26 => ?_)
        · have ic26 : v.toInt = 0 := zi_eq rfl rfl c26
          refine lv_bipush (v := 93) hx hb dX2_readInBrackets_65 (by decide) ?_
          refine tpk_pos (tp_in hG ht_h0 (by decide)) g24 (fun q27 eq27 => ?_)
          have hFc := tp_fr hD hS hA
          refine va_calli (va_runV (As := [.int 93]) (rest := []) ⟨hx, hb, hml, hown, hts⟩ (t_X2_passSign l dC dI _ Ω κ τ ν ρ L f22 hG hT h0 (93) z21.toInt ht_h0 hB) (cwV 1 hts gX2_readInBrackets_X2_passSign rfl rfl rfl ⟨rfl, pd_X2_passSign⟩ ⟨Nat.le_of_ble_eq_true rfl, Nat.le_of_ble_eq_true rfl⟩) ⟨pz_blind, va_recv hK hP (ci := 2) (q0 := q27) rfl eq27, pz_pre hP hK hD hN⟩ rfl rfl hl.1 rfl (lv_room (Nat.le_of_ble_eq_true rfl)) dX2_readInBrackets_67 ⟨Nat.le_of_ble_eq_true rfl, Nat.le_of_ble_eq_true rfl⟩) hS (fun q _ h => hFc q h) hFc (fun r28 f30 t H1 locs ht hvm hw29 hB hz1 hk1 hS => ?_)
          refine tn_4 hw29 (fun hT hF31 hw29r hw29p => ?_); clear hw29
          have hR := hR.then hF31 (by decide)
          have hP := hB.1; rw [ht] at hP; have hD := tp_ad f30 hD; clear hB hFc hz1 hk1; subst ht; generalize t.heap = H at hP hS ⊢
          have hB := hw29p
          refine lv_if_eq (tgt := 77) hx hb dX2_readInBrackets_70 (by decide) (fun c32 => ?_) (fun c32 => ?_)
          · have ic32 : r28.toInt = 0 := zi_eq rfl rfl c32
            refine lv_iconst (v := 0) hx hb dX2_readInBrackets_77 (by decide) ?_
            exact W.zret (v := 0) hx hb hr rfl (fun t ht hW => ⟨⟨0, f30, rfl, ⟨hT, hR, (by first | decide | omega), (hB.trans (by omega))⟩, by rw [ht]; exact hP, va_K.moved hW.alike hK, hD⟩, hS.F ht⟩) hS.2.2 dX2_readInBrackets_78
          · have ic32 : r28.toInt ≠ 0 := zi_eqf rfl rfl c32
            refine lv_iconst (v := 1) hx hb dX2_readInBrackets_73 (by decide) ?_
            refine lv_goto (tgt := 78) hx hb dX2_readInBrackets_74 (by decide) ?_
            exact W.zret (v := 1) hx hb hr rfl (fun t ht hW => ⟨⟨1, f30, rfl, ⟨hT, hR, (by first | decide | omega), (hB.trans (by omega))⟩, by rw [ht]; exact hP, va_K.moved hW.alike hK, hD⟩, hS.F ht⟩) hS.2.2 dX2_readInBrackets_78
        · have ic26 : v.toInt ≠ 0 := zi_eqf rfl rfl c26
          refine lv_bipush (v := 41) hx hb dX2_readInBrackets_60 (by decide) ?_
          refine lv_goto (tgt := 67) hx hb dX2_readInBrackets_62 (by decide) ?_
          refine tpk_pos (tp_in hG ht_h0 (by decide)) g24 (fun q33 eq33 => ?_)
          have hFc := tp_fr hD hS hA
          refine va_calli (va_runV (As := [.int 41]) (rest := []) ⟨hx, hb, hml, hown, hts⟩ (t_X2_passSign l dC dI _ Ω κ τ ν ρ L f22 hG hT h0 (41) z21.toInt ht_h0 hB) (cwV 1 hts gX2_readInBrackets_X2_passSign rfl rfl rfl ⟨rfl, pd_X2_passSign⟩ ⟨Nat.le_of_ble_eq_true rfl, Nat.le_of_ble_eq_true rfl⟩) ⟨pz_blind, va_recv hK hP (ci := 2) (q0 := q33) rfl eq33, pz_pre hP hK hD hN⟩ rfl rfl hl.1 rfl (lv_room (Nat.le_of_ble_eq_true rfl)) dX2_readInBrackets_67 ⟨Nat.le_of_ble_eq_true rfl, Nat.le_of_ble_eq_true rfl⟩) hS (fun q _ h => hFc q h) hFc (fun r34 f36 t H1 locs ht hvm hw35 hB hz1 hk1 hS => ?_)
          refine tn_4 hw35 (fun hT hF37 hw35r hw35p => ?_); clear hw35
          have hR := hR.then hF37 (by decide)
          have hP := hB.1; rw [ht] at hP; have hD := tp_ad f36 hD; clear hB hFc hz1 hk1; subst ht; generalize t.heap = H at hP hS ⊢
          have hB := hw35p
          refine lv_if_eq (tgt := 77) hx hb dX2_readInBrackets_70 (by decide) (fun c38 => ?_) (fun c38 => ?_)
          · have ic38 : r34.toInt = 0 := zi_eq rfl rfl c38
            refine lv_iconst (v := 0) hx hb dX2_readInBrackets_77 (by decide) ?_
            exact W.zret (v := 0) hx hb hr rfl (fun t ht hW => ⟨⟨0, f36, rfl, ⟨hT, hR, (by first | decide | omega), (hB.trans (by omega))⟩, by rw [ht]; exact hP, va_K.moved hW.alike hK, hD⟩, hS.F ht⟩) hS.2.2 dX2_readInBrackets_78
          · have ic38 : r34.toInt ≠ 0 := zi_eqf rfl rfl c38
            refine lv_iconst (v := 1) hx hb dX2_readInBrackets_73 (by decide) ?_
            refine lv_goto (tgt := 78) hx hb dX2_readInBrackets_74 (by decide) ?_
            exact W.zret (v := 1) hx hb hr rfl (fun t ht hW => ⟨⟨1, f36, rfl, ⟨hT, hR, (by first | decide | omega), (hB.trans (by omega))⟩, by rw [ht]; exact hP, va_K.moved hW.alike hK, hD⟩, hS.F ht⟩) hS.2.2 dX2_readInBrackets_78
    · refine lv_if_eq (tgt := 36) hx hb dX2_readInBrackets_26 (by decide) (fun c39 => ?_) (fun c39 => ?_)
      · have ic39 : v.toInt = 0 := zi_eq rfl rfl c39
        refine lv_aload_n hx hb dX2_readInBrackets_36 rfl (lv_at hl 0 rfl) ?_
        refine tpk_3 hT ht_h0 (fun o40_x1 o40_x2 o40_x3 o40_x4 o40_x5 o40_x6 o40_x8 o40_x10 o40_x11 o40_x12 o40_x13 o40_x14 o40_x15 hf_o40 ro40_0 ro40_1 ro40_2 ro40_3 ro40_4 ro40_5 ro40_6 => ?_)
        have bo40 : o40_x12.toInt = z7.toInt := by have q9 := hB; rw [hf_o40] at q9; exact q9
        refine tpk_pos (tp_in hG ht_h0 (by decide)) hf_o40 (fun q41 eq41 => ?_)
        have hFc := tp_fr hD hS hA
        refine va_calli (va_runV (As := []) (rest := []) ⟨hx, hb, hml, hown, hts⟩ (t_X2_readSum2 l dC dI _ Ω κ τ ν ρ L f14 hG hT adK adV zv h0 z7.toInt ht_h0 hB (by omega)) (cwV 0 hts gX2_readInBrackets_X2_readSum rfl rfl rfl ⟨rfl, pd_X2_readSum⟩ ⟨Nat.le_of_ble_eq_true rfl, Nat.le_of_ble_eq_true rfl⟩) ⟨pw_blindZ, va_recv hK hP (ci := 2) (q0 := q41) rfl eq41, pw_preZ hP hK hD hN hZ hS (tp_fr hD hS hA)⟩ rfl rfl hl.1 rfl (lv_room (Nat.le_of_ble_eq_true rfl)) dX2_readInBrackets_37 ⟨Nat.le_of_ble_eq_true rfl, Nat.le_of_ble_eq_true rfl⟩) hS (fun q _ h => hFc q h) hFc (fun r42 f44 t H1 locs ht hvm hw43 hB hz1 hk1 hS => ?_)
        refine tn_4 hw43 (fun hT hF45 hw43r hw43p => ?_); clear hw43
        have hR := hR.then hF45 (by decide)
        have hP := hB.1; rw [ht] at hP; have hD := tp_ad f44 hD; clear hB hFc hz1 hk1; subst ht; generalize t.heap = H at hP hS ⊢
        have hB := hw43p
        exact hj17 _ _ _ _ ⟨f44, r42, rfl, hT, hR, hB, (by omega), hP, hD, hS, lv_sub hl [0, 1] rfl⟩
      · have ic39 : v.toInt ≠ 0 := zi_eqf rfl rfl c39
        refine lv_aload_n hx hb dX2_readInBrackets_29 rfl (lv_at hl 0 rfl) ?_
        refine tpk_3 hT ht_h0 (fun o46_x1 o46_x2 o46_x3 o46_x4 o46_x5 o46_x6 o46_x8 o46_x10 o46_x11 o46_x12 o46_x13 o46_x14 o46_x15 hf_o46 ro46_0 ro46_1 ro46_2 ro46_3 ro46_4 ro46_5 ro46_6 => ?_)
        have bo46 : o46_x12.toInt = z7.toInt := by have q9 := hB; rw [hf_o46] at q9; exact q9
        refine tpk_pos (tp_in hG ht_h0 (by decide)) hf_o46 (fun q47 eq47 => ?_)
        have hFc := tp_fr hD hS hA
        refine va_calli (va_runV (As := []) (rest := []) ⟨hx, hb, hml, hown, hts⟩ (t_X2_readTest2 l dC dI _ Ω κ τ ν ρ L f14 hG hT adK adV zv h0 z7.toInt ht_h0 hB (by omega)) (cwV 0 hts gX2_readInBrackets_X2_readTest rfl rfl rfl ⟨rfl, pd_X2_readTest⟩ ⟨Nat.le_of_ble_eq_true rfl, Nat.le_of_ble_eq_true rfl⟩) ⟨pw_blindZ, va_recv hK hP (ci := 2) (q0 := q47) rfl eq47, pw_preZ hP hK hD hN hZ hS (tp_fr hD hS hA)⟩ rfl rfl hl.1 rfl (lv_room (Nat.le_of_ble_eq_true rfl)) dX2_readInBrackets_30 ⟨Nat.le_of_ble_eq_true rfl, Nat.le_of_ble_eq_true rfl⟩) hS (fun q _ h => hFc q h) hFc (fun r48 f50 t H1 locs ht hvm hw49 hB hz1 hk1 hS => ?_)
        refine tn_4 hw49 (fun hT hF51 hw49r hw49p => ?_); clear hw49
        have hR := hR.then hF51 (by decide)
        have hP := hB.1; rw [ht] at hP; have hD := tp_ad f50 hD; clear hB hFc hz1 hk1; subst ht; generalize t.heap = H at hP hS ⊢
        have hB := hw49p
        refine lv_goto (tgt := 40) hx hb dX2_readInBrackets_33 (by decide) ?_
        exact hj17 _ _ _ _ ⟨f50, r48, rfl, hT, hR, hB, (by omega), hP, hD, hS, lv_sub hl [0, 1] rfl⟩
  · have ic6 : o4_x12.toInt ≥ 8 := zi_ltf rfl rfl c6
    exfalso; omega
set_option maxHeartbeats 4000000 in
set_option maxRecDepth 100000 in
theorem t_X2_readPart1 (l : Launch) (dC : Nat → ClassId) (dI : Nat → Nat → Nat) (sz : Nat) (Ω : Nat → Nat → (Nat → Nat) → va_E → Prop) (κ : Nat → ClassId) (τ ν : Nat → Nat) (ρ : Nat → Nat → Nat) (L : List Nat) (f : Nat → va_E) (hG : tp_G τ ν ρ L) (hT : tp_T Ω κ τ ν ρ f) (adK adV : Nat → Nat) (zv : Option Nat) (h0 : Nat) (B0 : Int) (ht_h0 : τ h0 = 3) (hB : tp_fld (f h0) 12 = B0) (hBr : B0 = 1) : Met l yX2_readPart wqX2_readPart ({ frames := 65, cells := 0, slots := 0, locals := 25600 }) (va_Pc [.ref h0] (pw_BZ dC dI (tp_K κ) (va_pl L f) sz adK adV zv)) (va_Qi (fun (r : Int32) (f1 : Nat → va_E) => tp_T Ω κ τ ν ρ f1 ∧ tp_F τ [3, 20, 28] f f1 ∧ (0 ≤ r.toInt ∧ r.toInt ≤ 1) ∧ tp_fld (f1 h0) 12 = B0) (fun (f1 : Nat → va_E) (t : State) => pz_E dC dI (tp_K κ) (va_A (va_pl L f) sz) (va_pl L f1) t) (va_A (va_pl L f) sz)) 0 0 (va_A (va_pl L f) sz) := by
  refine Met.ofW (cc := cX2_readPart) (maxL := 2) (ret := some .boolean) (by decide) rfl ?_
  intro p e s m args below meth c s₁ B hml hv
  obtain ⟨rfl, ⟨hsz, hP, hK, hD0, hN⟩, hZ⟩ := hv
  have hx := B.exec
  have hb := B.bytes
  have hr := B.returns
  have hts := fun (w : Cond) (h : w ∈ WALL) => atoms_spec (ws := wqX2_readPart) B.pre w (List.mem_cons_of_mem _ h)
  have hown : s.vm.findClass RX2 = some m.cls := findClass_of_methodNamed B.named
  have hlocks := B.notSynchronized
  subst hsz
  have hD := hD0.self (sz := s.heap.size)
  generalize hAe : va_A (va_pl L f) s.heap.size = A at hD hZ ⊢
  have hA : ∀ q : Nat, s.heap.size ≤ q → A q := fun q h => by rw [← hAe]; exact Or.inr h
  have hS : va_S A s.heap s.heap [] := va_S.rf
  have hR : tp_F τ [3, 20, 28] f f := tp_F.rf
  have hl := lv_entry ([.ref h0]) (n := 2) (Nat.le_of_ble_eq_true rfl)
  rw [lg_entry_eq]
  generalize (lg_sl ([.ref h0]) ++ List.replicate (2 - (lg_sl ([.ref h0])).length) Slot.unset).toArray = ls at hl ⊢
  have hl : lv_has ls 2 [(0, .ref h0)] := hl
  refine lv_aload_n hx hb dX2_readPart_0 rfl (lv_at hl 0 rfl) ?_
  refine lv_bipush (v := 91) hx hb dX2_readPart_1 (by decide) ?_
  refine tgk_3 hG ht_h0 (fun y1 y1n y2 y2n y3 y3n => ?_)
  refine tpk_3 hT ht_h0 (fun o4_x1 o4_x2 o4_x3 o4_x4 o4_x5 o4_x6 o4_x8 o4_x10 o4_x11 o4_x12 o4_x13 o4_x14 o4_x15 hf_o4 ro4_0 ro4_1 ro4_2 ro4_3 ro4_4 ro4_5 ro4_6 => ?_)
  have bo4 : o4_x12.toInt = B0 := by have q9 := hB; rw [hf_o4] at q9; exact q9
  refine tpk_pos (tp_in hG ht_h0 (by decide)) hf_o4 (fun q5 eq5 => ?_)
  refine pz_calli (va_runV (As := [.int 91]) (rest := []) ⟨hx, hb, hml, hown, hts⟩ (t_X2_isSign l dC dI _ Ω κ τ ν ρ L f hG hT h0 (91) ht_h0) (cwV 1 hts gX2_readPart_X2_isSign rfl rfl rfl ⟨rfl, pd_X2_isSign⟩ ⟨Nat.le_of_ble_eq_true rfl, Nat.le_of_ble_eq_true rfl⟩) ⟨pz_blind, va_recv hK hP (ci := 2) (q0 := q5) rfl eq5, pz_pre hP hK hD hN⟩ rfl rfl hl.1 rfl (lv_room (Nat.le_of_ble_eq_true rfl)) dX2_readPart_3 ⟨Nat.le_of_ble_eq_true rfl, Nat.le_of_ble_eq_true rfl⟩) (fun r6 hw7 => ?_)
  obtain ⟨hw7r, hw7p⟩ := hw7
  refine lv_if_eq (tgt := 15) hx hb dX2_readPart_6 (by decide) (fun c8 => ?_) (fun c8 => ?_)
  · have ic8 : r6.toInt = 0 := zi_eq rfl rfl c8
    refine lv_aload_n hx hb dX2_readPart_15 rfl (lv_at hl 0 rfl) ?_
    refine pz_calli (va_runV (As := []) (rest := []) ⟨hx, hb, hml, hown, hts⟩ (t_X2_leafHere l dC dI _ Ω κ τ ν ρ L f hG hT adK adV zv h0 ht_h0) (cwV 0 hts gX2_readPart_X2_leafHere rfl rfl rfl ⟨rfl, pd_X2_leafHere⟩ ⟨Nat.le_of_ble_eq_true rfl, Nat.le_of_ble_eq_true rfl⟩) ⟨pw_blindZ, va_recv hK hP (ci := 2) (q0 := q5) rfl eq5, pw_preZ hP hK hD hN hZ hS (tp_fr hD hS hA)⟩ rfl rfl hl.1 rfl (lv_room (Nat.le_of_ble_eq_true rfl)) dX2_readPart_16 ⟨Nat.le_of_ble_eq_true rfl, Nat.le_of_ble_eq_true rfl⟩) (fun r9 hw10 => ?_)
    obtain ⟨hw10r, hw10p⟩ := hw10
    refine lv_istore_n (lv' := [(1, .int r9), (0, .ref h0)]) hx hb dX2_readPart_19 rfl hl (by decide) rfl (fun ls hl => ?_)
    refine lv_iload_n hx hb dX2_readPart_20 rfl (lv_at hl 0 rfl) ?_
    refine lv_sipush (v := (-1000)) hx hb dX2_readPart_21 (by decide) ?_
    refine lv_icmp_eq (tgt := 36) hx hb dX2_readPart_24 (by decide) (fun c11 => ?_) (fun c11 => ?_)
    · have ic11 : r9.toInt = (-1000) := zi_eq rfl rfl c11
      refine lv_iconst (v := 0) hx hb dX2_readPart_36 (by decide) ?_
      exact W.zret (v := 0) hx hb hr rfl (fun t ht hW => ⟨⟨0, f, rfl, ⟨hT, hR, (by first | decide | omega), hB⟩, by rw [ht]; exact hP, va_K.moved hW.alike hK, hD⟩, hS.F ht⟩) hS.2.2 dX2_readPart_37
    · have ic11 : r9.toInt ≠ (-1000) := zi_eqf rfl rfl c11
      refine lv_aload_n hx hb dX2_readPart_27 rfl (lv_at hl 1 rfl) ?_
      refine va_get (D := (dC, dI)) (ci := 2) (v := .int o4_x11) (C := RX2) (T := TX2) (N := 16) hx hb hts hfX2 hown hK hP q5 eq5 rfl 11 (by decide) (hts (.fieldLink RX2 38 "ColdShips$Reader" "leaves" "I") wa_798) (fun _ h9 => h9) rfl dX2_readPart_28 ?_
      refine lv_bipush (v := 50) hx hb dX2_readPart_31 (by decide) ?_
      refine lv_icmp_lt (tgt := 38) hx hb dX2_readPart_33 (by decide) (fun c12 => ?_) (fun c12 => ?_)
      · have ic12 : o4_x11.toInt < 50 := zi_lt rfl rfl c12
        refine lv_aload_n hx hb dX2_readPart_38 rfl (lv_at hl 1 rfl) ?_
        refine lv_dup hx hb dX2_readPart_39 rfl ?_
        refine va_get (D := (dC, dI)) (ci := 2) (v := .int o4_x11) (C := RX2) (T := TX2) (N := 16) hx hb hts hfX2 hown hK hP q5 eq5 rfl 11 (by decide) (hts (.fieldLink RX2 38 "ColdShips$Reader" "leaves" "I") wa_798) (fun _ h9 => h9) rfl dX2_readPart_40 ?_
        refine lv_iconst (v := 1) hx hb dX2_readPart_43 (by decide) ?_
        refine lv_iadd hx hb dX2_readPart_44 ?_
        refine lv_topi (fun z13 ez13 => ?_)
        have := zi_bd o4_x11
        have iz13 : z13.toInt = o4_x11.toInt + 1 := zi_add ez13 rfl rfl (by omega) (by omega)
        refine va_put (D := (dC, dI)) (ci := 2) (v := .int z13) (ty := .int) (C := RX2) (T := TX2) (N := 16) hx hb hts hfX2 tyX2 tyX2_ok nmX2 hown hK hP hD hS q5 eq5 rfl 11 (by decide) (hts (.fieldLink RX2 38 "ColdShips$Reader" "leaves" "I") wa_798) (fun _ h9 => h9) rfl (tyX2_ok 11 (by decide)) rfl rfl (Nat.le_of_ble_eq_true rfl) dX2_readPart_45 (tp_k (.inr (2, [.ref (ρ h0 0), .int o4_x1, .int o4_x2, .int o4_x3, .int o4_x4, .int o4_x5, .int o4_x6, .ref (ρ h0 7), .int o4_x8, .ref (ρ h0 9), .int o4_x10, .int z13, .int o4_x12, .int o4_x13, .int o4_x14, .int o4_x15])) hD (tp_in hG ht_h0 (by decide)) eq5 (fun f14 H locs hP hD hS g16 k15 => ?_))
        have hT := hT.up ht_h0 g16 k15 ⟨_, _, _, _, _, _, _, _, _, _, _, _, _, rfl, ro4_0, ro4_1, ro4_2, ro4_3, ro4_4, ro4_5, ro4_6⟩
        have hR := hR.up ht_h0 (by decide) k15
        have hB : tp_fld (f14 h0) 12 = B0 := by rw [g16]; show (o4_x12).toInt = B0; omega
        refine lv_aload_n hx hb dX2_readPart_48 rfl (lv_at hl 1 rfl) ?_
        refine lv_iload_n hx hb dX2_readPart_49 rfl (lv_at hl 0 rfl) ?_
        refine tpk_pos (tp_in hG ht_h0 (by decide)) g16 (fun q17 eq17 => ?_)
        have hFc := tp_fr hD hS hA
        refine va_callv (va_runV (As := [.int r9]) (rest := []) ⟨hx, hb, hml, hown, hts⟩ (t_X2_emit l dC dI _ Ω κ τ ν ρ L f14 hG hT h0 r9 B0 ht_h0 (by first | decide | omega) hB) (cwV 1 hts gX2_readPart_X2_emit rfl rfl rfl ⟨rfl, pd_X2_emit⟩ ⟨Nat.le_of_ble_eq_true rfl, Nat.le_of_ble_eq_true rfl⟩) ⟨pz_blind, va_recv hK hP (ci := 2) (q0 := q17) rfl eq17, pz_pre hP hK hD hN⟩ rfl rfl hl.1 rfl (lv_room (Nat.le_of_ble_eq_true rfl)) dX2_readPart_50 ⟨Nat.le_of_ble_eq_true rfl, Nat.le_of_ble_eq_true rfl⟩) hS (fun q _ h => hFc q h) hFc (fun f20 t H1 locs ht hvm hw19 hB hz1 hk1 hS => ?_)
        refine tn_3 hw19 (fun hT hF21 hw19p => ?_); clear hw19
        have hR := hR.then hF21 (by decide)
        have hP := hB.1; rw [ht] at hP; have hD := tp_ad f20 hD; clear hB hFc hz1 hk1; subst ht; generalize t.heap = H at hP hS ⊢
        have hB := hw19p
        refine lv_aload_n hx hb dX2_readPart_53 rfl (lv_at hl 1 rfl) ?_
        refine tpk_3 hT ht_h0 (fun o22_x1 o22_x2 o22_x3 o22_x4 o22_x5 o22_x6 o22_x8 o22_x10 o22_x11 o22_x12 o22_x13 o22_x14 o22_x15 hf_o22 ro22_0 ro22_1 ro22_2 ro22_3 ro22_4 ro22_5 ro22_6 => ?_)
        have bo22 : o22_x12.toInt = B0 := by have q9 := hB; rw [hf_o22] at q9; exact q9
        refine tpk_pos (tp_in hG ht_h0 (by decide)) hf_o22 (fun q23 eq23 => ?_)
        have hFc := tp_fr hD hS hA
        refine va_callv (va_runV (As := []) (rest := []) ⟨hx, hb, hml, hown, hts⟩ (t_X2_advance l dC dI _ Ω κ τ ν ρ L f20 hG hT h0 B0 ht_h0 hB) (cwV 0 hts gX2_readPart_X2_advance rfl rfl rfl ⟨rfl, pd_X2_advance⟩ ⟨Nat.le_of_ble_eq_true rfl, Nat.le_of_ble_eq_true rfl⟩) ⟨pz_blind, va_recv hK hP (ci := 2) (q0 := q23) rfl eq23, pz_pre hP hK hD hN⟩ rfl rfl hl.1 rfl (lv_room (Nat.le_of_ble_eq_true rfl)) dX2_readPart_54 ⟨Nat.le_of_ble_eq_true rfl, Nat.le_of_ble_eq_true rfl⟩) hS (fun q _ h => hFc q h) hFc (fun f26 t H1 locs ht hvm hw25 hB hz1 hk1 hS => ?_)
        refine tn_3 hw25 (fun hT hF27 hw25p => ?_); clear hw25
        have hR := hR.then hF27 (by decide)
        have hP := hB.1; rw [ht] at hP; have hD := tp_ad f26 hD; clear hB hFc hz1 hk1; subst ht; generalize t.heap = H at hP hS ⊢
        have hB := hw25p
        refine lv_iconst (v := 1) hx hb dX2_readPart_57 (by decide) ?_
        exact W.zret (v := 1) hx hb hr rfl (fun t ht hW => ⟨⟨1, f26, rfl, ⟨hT, hR, (by first | decide | omega), hB⟩, by rw [ht]; exact hP, va_K.moved hW.alike hK, hD⟩, hS.F ht⟩) hS.2.2 dX2_readPart_58
      · have ic12 : o4_x11.toInt ≥ 50 := zi_ltf rfl rfl c12
        refine lv_iconst (v := 0) hx hb dX2_readPart_36 (by decide) ?_
        exact W.zret (v := 0) hx hb hr rfl (fun t ht hW => ⟨⟨0, f, rfl, ⟨hT, hR, (by first | decide | omega), hB⟩, by rw [ht]; exact hP, va_K.moved hW.alike hK, hD⟩, hS.F ht⟩) hS.2.2 dX2_readPart_37
  · have ic8 : r6.toInt ≠ 0 := zi_eqf rfl rfl c8
    refine lv_aload_n hx hb dX2_readPart_9 rfl (lv_at hl 0 rfl) ?_
    refine lv_iconst (v := 0) hx hb dX2_readPart_10 (by decide) ?_
    have hFc := tp_fr hD hS hA
    refine va_calli (va_runV (As := [.int 0]) (rest := []) ⟨hx, hb, hml, hown, hts⟩ (t_X2_readInBrackets1 l dC dI _ Ω κ τ ν ρ L f hG hT adK adV zv h0 (0) B0 ht_h0 (by first | decide | omega) hB (by first | omega | (have : (0 : Int32).toInt = 0 := rfl; omega))) (cwV 1 hts gX2_readPart_X2_readInBrackets rfl rfl rfl ⟨rfl, pd_X2_readInBrackets⟩ ⟨Nat.le_of_ble_eq_true rfl, Nat.le_of_ble_eq_true rfl⟩) ⟨pw_blindZ, va_recv hK hP (ci := 2) (q0 := q5) rfl eq5, pw_preZ hP hK hD hN hZ hS (tp_fr hD hS hA)⟩ rfl rfl hl.1 rfl (lv_room (Nat.le_of_ble_eq_true rfl)) dX2_readPart_11 ⟨Nat.le_of_ble_eq_true rfl, Nat.le_of_ble_eq_true rfl⟩) hS (fun q _ h => hFc q h) hFc (fun r28 f30 t H1 locs ht hvm hw29 hB hz1 hk1 hS => ?_)
    refine tn_4 hw29 (fun hT hF31 hw29r hw29p => ?_); clear hw29
    have hR := hR.then hF31 (by decide)
    have hP := hB.1; rw [ht] at hP; have hD := tp_ad f30 hD; clear hB hFc hz1 hk1; subst ht; generalize t.heap = H at hP hS ⊢
    have hB := hw29p
    exact W.zret (v := r28) hx hb hr (zi_narZ (by omega) (by omega)) (fun t ht hW => ⟨⟨r28, f30, rfl, ⟨hT, hR, (by first | decide | omega), hB⟩, by rw [ht]; exact hP, va_K.moved hW.alike hK, hD⟩, hS.F ht⟩) hS.2.2 dX2_readPart_14
set_option maxHeartbeats 4000000 in
set_option maxRecDepth 100000 in
theorem t_X2_readTerm1 (l : Launch) (dC : Nat → ClassId) (dI : Nat → Nat → Nat) (sz : Nat) (Ω : Nat → Nat → (Nat → Nat) → va_E → Prop) (κ : Nat → ClassId) (τ ν : Nat → Nat) (ρ : Nat → Nat → Nat) (L : List Nat) (f : Nat → va_E) (hG : tp_G τ ν ρ L) (hT : tp_T Ω κ τ ν ρ f) (adK adV : Nat → Nat) (zv : Option Nat) (h0 : Nat) (B0 : Int) (ht_h0 : τ h0 = 3) (hB : tp_fld (f h0) 12 = B0) (hBr : B0 = 1) : Met l yX2_readTerm wqX2_readTerm ({ frames := 66, cells := 0, slots := 0, locals := 26000 }) (va_Pc [.ref h0] (pw_BZ dC dI (tp_K κ) (va_pl L f) sz adK adV zv)) (va_Qi (fun (r : Int32) (f1 : Nat → va_E) => tp_T Ω κ τ ν ρ f1 ∧ tp_F τ [3, 20, 28] f f1 ∧ (0 ≤ r.toInt ∧ r.toInt ≤ 1) ∧ tp_fld (f1 h0) 12 = B0) (fun (f1 : Nat → va_E) (t : State) => pz_E dC dI (tp_K κ) (va_A (va_pl L f) sz) (va_pl L f1) t) (va_A (va_pl L f) sz)) 0 0 (va_A (va_pl L f) sz) := by
  refine Met.ofW (cc := cX2_readTerm) (maxL := 3) (ret := some .boolean) (by decide) rfl ?_
  intro p e s m args below meth c s₁ B hml hv
  obtain ⟨rfl, ⟨hsz, hP, hK, hD0, hN⟩, hZ⟩ := hv
  have hx := B.exec
  have hb := B.bytes
  have hr := B.returns
  have hts := fun (w : Cond) (h : w ∈ WALL) => atoms_spec (ws := wqX2_readTerm) B.pre w (List.mem_cons_of_mem _ h)
  have hown : s.vm.findClass RX2 = some m.cls := findClass_of_methodNamed B.named
  have hlocks := B.notSynchronized
  subst hsz
  have hD := hD0.self (sz := s.heap.size)
  generalize hAe : va_A (va_pl L f) s.heap.size = A at hD hZ ⊢
  have hA : ∀ q : Nat, s.heap.size ≤ q → A q := fun q h => by rw [← hAe]; exact Or.inr h
  have hS : va_S A s.heap s.heap [] := va_S.rf
  have hR : tp_F τ [3, 20, 28] f f := tp_F.rf
  have hl := lv_entry ([.ref h0]) (n := 3) (Nat.le_of_ble_eq_true rfl)
  rw [lg_entry_eq]
  generalize (lg_sl ([.ref h0]) ++ List.replicate (3 - (lg_sl ([.ref h0])).length) Slot.unset).toArray = ls at hl ⊢
  have hl : lv_has ls 3 [(0, .ref h0)] := hl
  refine lv_aload_n hx hb dX2_readTerm_0 rfl (lv_at hl 0 rfl) ?_
  refine tgk_3 hG ht_h0 (fun y1 y1n y2 y2n y3 y3n => ?_)
  refine tpk_3 hT ht_h0 (fun o4_x1 o4_x2 o4_x3 o4_x4 o4_x5 o4_x6 o4_x8 o4_x10 o4_x11 o4_x12 o4_x13 o4_x14 o4_x15 hf_o4 ro4_0 ro4_1 ro4_2 ro4_3 ro4_4 ro4_5 ro4_6 => ?_)
  have bo4 : o4_x12.toInt = B0 := by have q9 := hB; rw [hf_o4] at q9; exact q9
  refine tpk_pos (tp_in hG ht_h0 (by decide)) hf_o4 (fun q5 eq5 => ?_)
  have hFc := tp_fr hD hS hA
  refine va_calli (va_runV (As := []) (rest := []) ⟨hx, hb, hml, hown, hts⟩ (t_X2_readPart1 l dC dI _ Ω κ τ ν ρ L f hG hT adK adV zv h0 B0 ht_h0 hB (by omega)) (cwV 0 hts gX2_readTerm_X2_readPart rfl rfl rfl ⟨rfl, pd_X2_readPart⟩ ⟨Nat.le_of_ble_eq_true rfl, Nat.le_of_ble_eq_true rfl⟩) ⟨pw_blindZ, va_recv hK hP (ci := 2) (q0 := q5) rfl eq5, pw_preZ hP hK hD hN hZ hS (tp_fr hD hS hA)⟩ rfl rfl hl.1 rfl (lv_room (Nat.le_of_ble_eq_true rfl)) dX2_readTerm_1 ⟨Nat.le_of_ble_eq_true rfl, Nat.le_of_ble_eq_true rfl⟩) hS (fun q _ h => hFc q h) hFc (fun r6 f8 t H1 locs ht hvm hw7 hB hz1 hk1 hS => ?_)
  refine tn_4 hw7 (fun hT hF9 hw7r hw7p => ?_); clear hw7
  have hR := hR.then hF9 (by decide)
  have hP := hB.1; rw [ht] at hP; have hD := tp_ad f8 hD; clear hB hFc hz1 hk1; subst ht; generalize t.heap = H at hP hS ⊢
  have hB := hw7p
  refine lv_if_ne (tgt := 9) hx hb dX2_readTerm_4 (by decide) (fun c10 => ?_) (fun c10 => ?_)
  · have ic10 : r6.toInt ≠ 0 := zi_ne rfl rfl c10
    refine lv_iconst (v := 0) hx hb dX2_readTerm_9 (by decide) ?_
    refine lv_istore_n (lv' := [(1, .int 0), (0, .ref h0)]) hx hb dX2_readTerm_10 rfl hl (by decide) rfl (fun ls hl => ?_)
    refine pz_loop (fun n0 H locs ls => ∃ f12 : Nat → va_E, ∃ w11 : Int32, n0 = (400 - (w11.toInt)).toNat ∧ tp_T Ω κ τ ν ρ f12 ∧ tp_F τ [3, 20, 28] f f12 ∧ tp_fld (f12 h0) 12 = B0 ∧ (0 ≤ w11.toInt ∧ w11.toInt ≤ 400) ∧ va_P (dC, dI) vwCl (va_pl L f12) H ∧ va_D A (va_pl L f12) ∧ va_S A s.heap H locs ∧ lv_has ls 3 [(1, .int w11), (0, .ref h0)]) ?_ _ _ _ _ ⟨f8, 0, rfl, hT, hR, hB, (by have : (0 : Int32).toInt = 0 := rfl; omega), hP, hD, hS, lv_sub hl [0, 1] rfl⟩
    intro n0 H locs ls hI ih13
    refine Exists.elim hI (fun f12 hE90 => Exists.elim hE90 (fun w11 hE91 => tn_9 hE91 (fun hn14 hT hR hB rw11 hP hD hS hl => ?_)))
    clear hE91 hE90 hI
    refine lv_iload_n hx hb dX2_readTerm_11 rfl (lv_at hl 0 rfl) ?_
    refine lv_sipush (v := 400) hx hb dX2_readTerm_12 (by decide) ?_
    refine lv_icmp_ge (tgt := 77) hx hb dX2_readTerm_15 (by decide) (fun c15 => ?_) (fun c15 => ?_)
    · have ic15 : w11.toInt ≥ 400 := zi_ge rfl rfl c15
      refine lv_iconst (v := 1) hx hb dX2_readTerm_77 (by decide) ?_
      exact W.zret (v := 1) hx hb hr rfl (fun t ht hW => ⟨⟨1, f12, rfl, ⟨hT, hR, (by first | decide | omega), hB⟩, by rw [ht]; exact hP, va_K.moved hW.alike hK, hD⟩, hS.F ht⟩) hS.2.2 dX2_readTerm_78
    · have ic15 : w11.toInt < 400 := zi_gef rfl rfl c15
      refine lv_aload_n hx hb dX2_readTerm_18 rfl (lv_at hl 1 rfl) ?_
      refine lv_bipush (v := 42) hx hb dX2_readTerm_19 (by decide) ?_
      refine tpk_3 hT ht_h0 (fun o16_x1 o16_x2 o16_x3 o16_x4 o16_x5 o16_x6 o16_x8 o16_x10 o16_x11 o16_x12 o16_x13 o16_x14 o16_x15 hf_o16 ro16_0 ro16_1 ro16_2 ro16_3 ro16_4 ro16_5 ro16_6 => ?_)
      have bo16 : o16_x12.toInt = B0 := by have q9 := hB; rw [hf_o16] at q9; exact q9
      refine tpk_pos (tp_in hG ht_h0 (by decide)) hf_o16 (fun q17 eq17 => ?_)
      refine pz_calli (va_runV (As := [.int 42]) (rest := []) ⟨hx, hb, hml, hown, hts⟩ (t_X2_isSign l dC dI _ Ω κ τ ν ρ L f12 hG hT h0 (42) ht_h0) (cwV 1 hts gX2_readTerm_X2_isSign rfl rfl rfl ⟨rfl, pd_X2_isSign⟩ ⟨Nat.le_of_ble_eq_true rfl, Nat.le_of_ble_eq_true rfl⟩) ⟨pz_blind, va_recv hK hP (ci := 2) (q0 := q17) rfl eq17, pz_pre hP hK hD hN⟩ rfl rfl hl.1 rfl (lv_room (Nat.le_of_ble_eq_true rfl)) dX2_readTerm_21 ⟨Nat.le_of_ble_eq_true rfl, Nat.le_of_ble_eq_true rfl⟩) (fun r18 hw19 => ?_)
      obtain ⟨hw19r, hw19p⟩ := hw19
      refine tp_join 36 (fun H locs ls stk => stk = [] ∧ va_P (dC, dI) vwCl (va_pl L f12) H ∧ va_D A (va_pl L f12) ∧ va_S A s.heap H locs ∧ lv_has ls 3 [(1, .int w11), (0, .ref h0)]) ?_ (fun hj20 => ?_)
      · intro H locs ls stk hI
        refine tn_5 hI (fun e90 hP hD hS hl => ?_)
        clear hI; subst e90
        refine lv_aload_n hx hb dX2_readTerm_36 rfl (lv_at hl 1 rfl) ?_
        refine lv_bipush (v := 42) hx hb dX2_readTerm_37 (by decide) ?_
        refine pz_calli (va_runV (As := [.int 42]) (rest := []) ⟨hx, hb, hml, hown, hts⟩ (t_X2_isSign l dC dI _ Ω κ τ ν ρ L f12 hG hT h0 (42) ht_h0) (cwV 1 hts gX2_readTerm_X2_isSign rfl rfl rfl ⟨rfl, pd_X2_isSign⟩ ⟨Nat.le_of_ble_eq_true rfl, Nat.le_of_ble_eq_true rfl⟩) ⟨pz_blind, va_recv hK hP (ci := 2) (q0 := q17) rfl eq17, pz_pre hP hK hD hN⟩ rfl rfl hl.1 rfl (lv_room (Nat.le_of_ble_eq_true rfl)) dX2_readTerm_39 ⟨Nat.le_of_ble_eq_true rfl, Nat.le_of_ble_eq_true rfl⟩) (fun r21 hw22 => ?_)
        obtain ⟨hw22r, hw22p⟩ := hw22
        refine tp_join 52 (fun H locs ls stk => ∃ w23 : Int32, stk = [.int w23] ∧ ((-14) ≤ w23.toInt ∧ w23.toInt ≤ (-13)) ∧ va_P (dC, dI) vwCl (va_pl L f12) H ∧ va_D A (va_pl L f12) ∧ va_S A s.heap H locs ∧ lv_has ls 3 [(1, .int w11), (0, .ref h0)]) ?_ (fun hj24 => ?_)
        · intro H locs ls stk hI
          refine Exists.elim hI (fun w23 hE90 => tn_6 hE90 (fun e90 rw23 hP hD hS hl => ?_))
          clear hE90 hI; subst e90
          refine lv_istore_n (lv' := [(2, .int w23), (1, .int w11), (0, .ref h0)]) hx hb dX2_readTerm_52 rfl hl (by decide) rfl (fun ls hl => ?_)
          refine lv_aload_n hx hb dX2_readTerm_53 rfl (lv_at hl 2 rfl) ?_
          have hFc := tp_fr hD hS hA
          refine va_callv (va_runV (As := []) (rest := []) ⟨hx, hb, hml, hown, hts⟩ (t_X2_advance l dC dI _ Ω κ τ ν ρ L f12 hG hT h0 B0 ht_h0 hB) (cwV 0 hts gX2_readTerm_X2_advance rfl rfl rfl ⟨rfl, pd_X2_advance⟩ ⟨Nat.le_of_ble_eq_true rfl, Nat.le_of_ble_eq_true rfl⟩) ⟨pz_blind, va_recv hK hP (ci := 2) (q0 := q17) rfl eq17, pz_pre hP hK hD hN⟩ rfl rfl hl.1 rfl (lv_room (Nat.le_of_ble_eq_true rfl)) dX2_readTerm_54 ⟨Nat.le_of_ble_eq_true rfl, Nat.le_of_ble_eq_true rfl⟩) hS (fun q _ h => hFc q h) hFc (fun f27 t H1 locs ht hvm hw26 hB hz1 hk1 hS => ?_)
          refine tn_3 hw26 (fun hT hF28 hw26p => ?_); clear hw26
          have hR := hR.then hF28 (by decide)
          have hP := hB.1; rw [ht] at hP; have hD := tp_ad f27 hD; clear hB hFc hz1 hk1; subst ht; generalize t.heap = H at hP hS ⊢
          have hB := hw26p
          refine lv_aload_n hx hb dX2_readTerm_57 rfl (lv_at hl 2 rfl) ?_
          refine tpk_3 hT ht_h0 (fun o29_x1 o29_x2 o29_x3 o29_x4 o29_x5 o29_x6 o29_x8 o29_x10 o29_x11 o29_x12 o29_x13 o29_x14 o29_x15 hf_o29 ro29_0 ro29_1 ro29_2 ro29_3 ro29_4 ro29_5 ro29_6 => ?_)
          have bo29 : o29_x12.toInt = B0 := by have q9 := hB; rw [hf_o29] at q9; exact q9
          refine tpk_pos (tp_in hG ht_h0 (by decide)) hf_o29 (fun q30 eq30 => ?_)
          have hFc := tp_fr hD hS hA
          refine va_calli (va_runV (As := []) (rest := []) ⟨hx, hb, hml, hown, hts⟩ (t_X2_readPart1 l dC dI _ Ω κ τ ν ρ L f27 hG hT adK adV zv h0 B0 ht_h0 hB (by omega)) (cwV 0 hts gX2_readTerm_X2_readPart rfl rfl rfl ⟨rfl, pd_X2_readPart⟩ ⟨Nat.le_of_ble_eq_true rfl, Nat.le_of_ble_eq_true rfl⟩) ⟨pw_blindZ, va_recv hK hP (ci := 2) (q0 := q30) rfl eq30, pw_preZ hP hK hD hN hZ hS (tp_fr hD hS hA)⟩ rfl rfl hl.1 rfl (lv_room (Nat.le_of_ble_eq_true rfl)) dX2_readTerm_58 ⟨Nat.le_of_ble_eq_true rfl, Nat.le_of_ble_eq_true rfl⟩) hS (fun q _ h => hFc q h) hFc (fun r31 f33 t H1 locs ht hvm hw32 hB hz1 hk1 hS => ?_)
          refine tn_4 hw32 (fun hT hF34 hw32r hw32p => ?_); clear hw32
          have hR := hR.then hF34 (by decide)
          have hP := hB.1; rw [ht] at hP; have hD := tp_ad f33 hD; clear hB hFc hz1 hk1; subst ht; generalize t.heap = H at hP hS ⊢
          have hB := hw32p
          refine lv_if_ne (tgt := 66) hx hb dX2_readTerm_61 (by decide) (fun c35 => ?_) (fun c35 => ?_)
          · have ic35 : r31.toInt ≠ 0 := zi_ne rfl rfl c35
            refine lv_aload_n hx hb dX2_readTerm_66 rfl (lv_at hl 2 rfl) ?_
            refine lv_iload_n hx hb dX2_readTerm_67 rfl (lv_at hl 0 rfl) ?_
            refine tpk_3 hT ht_h0 (fun o36_x1 o36_x2 o36_x3 o36_x4 o36_x5 o36_x6 o36_x8 o36_x10 o36_x11 o36_x12 o36_x13 o36_x14 o36_x15 hf_o36 ro36_0 ro36_1 ro36_2 ro36_3 ro36_4 ro36_5 ro36_6 => ?_)
            have bo36 : o36_x12.toInt = B0 := by have q9 := hB; rw [hf_o36] at q9; exact q9
            refine tpk_pos (tp_in hG ht_h0 (by decide)) hf_o36 (fun q37 eq37 => ?_)
            have hFc := tp_fr hD hS hA
            refine va_callv (va_runV (As := [.int w23]) (rest := []) ⟨hx, hb, hml, hown, hts⟩ (t_X2_emit l dC dI _ Ω κ τ ν ρ L f33 hG hT h0 w23 B0 ht_h0 (by first | decide | omega) hB) (cwV 1 hts gX2_readTerm_X2_emit rfl rfl rfl ⟨rfl, pd_X2_emit⟩ ⟨Nat.le_of_ble_eq_true rfl, Nat.le_of_ble_eq_true rfl⟩) ⟨pz_blind, va_recv hK hP (ci := 2) (q0 := q37) rfl eq37, pz_pre hP hK hD hN⟩ rfl rfl hl.1 rfl (lv_room (Nat.le_of_ble_eq_true rfl)) dX2_readTerm_68 ⟨Nat.le_of_ble_eq_true rfl, Nat.le_of_ble_eq_true rfl⟩) hS (fun q _ h => hFc q h) hFc (fun f40 t H1 locs ht hvm hw39 hB hz1 hk1 hS => ?_)
            refine tn_3 hw39 (fun hT hF41 hw39p => ?_); clear hw39
            have hR := hR.then hF41 (by decide)
            have hP := hB.1; rw [ht] at hP; have hD := tp_ad f40 hD; clear hB hFc hz1 hk1; subst ht; generalize t.heap = H at hP hS ⊢
            have hB := hw39p
            obtain ⟨z42, ez42⟩ : ∃ y : Int32, y = w11 + 1 := ⟨_, rfl⟩
            refine lv_iinc (v := z42) (lv' := [(1, .int z42), (2, .int w23), (0, .ref h0)]) hx hb dX2_readTerm_71 hl (k := 1) rfl (by rw [ez42]; rfl) (by decide) rfl (fun ls hl => ?_)
            have iz42 : z42.toInt = w11.toInt + 1 := zi_add ez42 rfl rfl (by omega) (by omega)
            refine lv_goto (tgt := 11) hx hb dX2_readTerm_74 (by decide) ?_
            exact ih13 _ _ _ _ (by rw [hn14]; omega) ⟨f40, z42, rfl, hT, hR, hB, (by omega), hP, hD, hS, lv_sub hl [0, 2] rfl⟩
          · have ic35 : r31.toInt = 0 := zi_nef rfl rfl c35
            refine lv_iconst (v := 0) hx hb dX2_readTerm_64 (by decide) ?_
            exact W.zret (v := 0) hx hb hr rfl (fun t ht hW => ⟨⟨0, f33, rfl, ⟨hT, hR, (by first | decide | omega), hB⟩, by rw [ht]; exact hP, va_K.moved hW.alike hK, hD⟩, hS.F ht⟩) hS.2.2 dX2_readTerm_65
        · refine lv_if_eq (tgt := 50) hx hb dX2_readTerm_42 (by decide) (fun c43 => ?_) (fun c43 => ?_)
          · have ic43 : r21.toInt = 0 := zi_eq rfl rfl c43
            refine lv_bipush (v := (-14)) hx hb dX2_readTerm_50 (by decide) ?_
            exact hj24 _ _ _ _ ⟨(-14), rfl, (by have : ((-14) : Int32).toInt = (-14) := rfl; omega), hP, hD, hS, lv_sub hl [0, 1] rfl⟩
          · have ic43 : r21.toInt ≠ 0 := zi_eqf rfl rfl c43
            refine lv_bipush (v := (-13)) hx hb dX2_readTerm_45 (by decide) ?_
            refine lv_goto (tgt := 52) hx hb dX2_readTerm_47 (by decide) ?_
            exact hj24 _ _ _ _ ⟨(-13), rfl, (by have : ((-13) : Int32).toInt = (-13) := rfl; omega), hP, hD, hS, lv_sub hl [0, 1] rfl⟩
      · refine lv_if_ne (tgt := 36) hx hb dX2_readTerm_24 (by decide) (fun c44 => ?_) (fun c44 => ?_)
        · have ic44 : r18.toInt ≠ 0 := zi_ne rfl rfl c44
          exact hj20 _ _ _ _ ⟨rfl, hP, hD, hS, lv_sub hl [0, 1] rfl⟩
        · have ic44 : r18.toInt = 0 := zi_nef rfl rfl c44
          refine lv_aload_n hx hb dX2_readTerm_27 rfl (lv_at hl 1 rfl) ?_
          refine lv_bipush (v := 47) hx hb dX2_readTerm_28 (by decide) ?_
          refine pz_calli (va_runV (As := [.int 47]) (rest := []) ⟨hx, hb, hml, hown, hts⟩ (t_X2_isSign l dC dI _ Ω κ τ ν ρ L f12 hG hT h0 (47) ht_h0) (cwV 1 hts gX2_readTerm_X2_isSign rfl rfl rfl ⟨rfl, pd_X2_isSign⟩ ⟨Nat.le_of_ble_eq_true rfl, Nat.le_of_ble_eq_true rfl⟩) ⟨pz_blind, va_recv hK hP (ci := 2) (q0 := q17) rfl eq17, pz_pre hP hK hD hN⟩ rfl rfl hl.1 rfl (lv_room (Nat.le_of_ble_eq_true rfl)) dX2_readTerm_30 ⟨Nat.le_of_ble_eq_true rfl, Nat.le_of_ble_eq_true rfl⟩) (fun r45 hw46 => ?_)
          obtain ⟨hw46r, hw46p⟩ := hw46
          refine lv_if_eq (tgt := 77) hx hb dX2_readTerm_33 (by decide) (fun c47 => ?_) (fun c47 => ?_)
          · have ic47 : r45.toInt = 0 := zi_eq rfl rfl c47
            refine lv_iconst (v := 1) hx hb dX2_readTerm_77 (by decide) ?_
            exact W.zret (v := 1) hx hb hr rfl (fun t ht hW => ⟨⟨1, f12, rfl, ⟨hT, hR, (by first | decide | omega), hB⟩, by rw [ht]; exact hP, va_K.moved hW.alike hK, hD⟩, hS.F ht⟩) hS.2.2 dX2_readTerm_78
          · have ic47 : r45.toInt ≠ 0 := zi_eqf rfl rfl c47
            exact hj20 _ _ _ _ ⟨rfl, hP, hD, hS, lv_sub hl [0, 1] rfl⟩
  · have ic10 : r6.toInt = 0 := zi_nef rfl rfl c10
    refine lv_iconst (v := 0) hx hb dX2_readTerm_7 (by decide) ?_
    exact W.zret (v := 0) hx hb hr rfl (fun t ht hW => ⟨⟨0, f8, rfl, ⟨hT, hR, (by first | decide | omega), hB⟩, by rw [ht]; exact hP, va_K.moved hW.alike hK, hD⟩, hS.F ht⟩) hS.2.2 dX2_readTerm_8
set_option maxHeartbeats 4000000 in
set_option maxRecDepth 100000 in
theorem t_X2_readSum1 (l : Launch) (dC : Nat → ClassId) (dI : Nat → Nat → Nat) (sz : Nat) (Ω : Nat → Nat → (Nat → Nat) → va_E → Prop) (κ : Nat → ClassId) (τ ν : Nat → Nat) (ρ : Nat → Nat → Nat) (L : List Nat) (f : Nat → va_E) (hG : tp_G τ ν ρ L) (hT : tp_T Ω κ τ ν ρ f) (adK adV : Nat → Nat) (zv : Option Nat) (h0 : Nat) (B0 : Int) (ht_h0 : τ h0 = 3) (hB : tp_fld (f h0) 12 = B0) (hBr : B0 = 1) : Met l yX2_readSum wqX2_readSum ({ frames := 67, cells := 0, slots := 0, locals := 26400 }) (va_Pc [.ref h0] (pw_BZ dC dI (tp_K κ) (va_pl L f) sz adK adV zv)) (va_Qi (fun (r : Int32) (f1 : Nat → va_E) => tp_T Ω κ τ ν ρ f1 ∧ tp_F τ [3, 20, 28] f f1 ∧ (0 ≤ r.toInt ∧ r.toInt ≤ 1) ∧ tp_fld (f1 h0) 12 = B0) (fun (f1 : Nat → va_E) (t : State) => pz_E dC dI (tp_K κ) (va_A (va_pl L f) sz) (va_pl L f1) t) (va_A (va_pl L f) sz)) 0 0 (va_A (va_pl L f) sz) := by
  refine Met.ofW (cc := cX2_readSum) (maxL := 3) (ret := some .boolean) (by decide) rfl ?_
  intro p e s m args below meth c s₁ B hml hv
  obtain ⟨rfl, ⟨hsz, hP, hK, hD0, hN⟩, hZ⟩ := hv
  have hx := B.exec
  have hb := B.bytes
  have hr := B.returns
  have hts := fun (w : Cond) (h : w ∈ WALL) => atoms_spec (ws := wqX2_readSum) B.pre w (List.mem_cons_of_mem _ h)
  have hown : s.vm.findClass RX2 = some m.cls := findClass_of_methodNamed B.named
  have hlocks := B.notSynchronized
  subst hsz
  have hD := hD0.self (sz := s.heap.size)
  generalize hAe : va_A (va_pl L f) s.heap.size = A at hD hZ ⊢
  have hA : ∀ q : Nat, s.heap.size ≤ q → A q := fun q h => by rw [← hAe]; exact Or.inr h
  have hS : va_S A s.heap s.heap [] := va_S.rf
  have hR : tp_F τ [3, 20, 28] f f := tp_F.rf
  have hl := lv_entry ([.ref h0]) (n := 3) (Nat.le_of_ble_eq_true rfl)
  rw [lg_entry_eq]
  generalize (lg_sl ([.ref h0]) ++ List.replicate (3 - (lg_sl ([.ref h0])).length) Slot.unset).toArray = ls at hl ⊢
  have hl : lv_has ls 3 [(0, .ref h0)] := hl
  refine lv_aload_n hx hb dX2_readSum_0 rfl (lv_at hl 0 rfl) ?_
  refine tgk_3 hG ht_h0 (fun y1 y1n y2 y2n y3 y3n => ?_)
  refine tpk_3 hT ht_h0 (fun o4_x1 o4_x2 o4_x3 o4_x4 o4_x5 o4_x6 o4_x8 o4_x10 o4_x11 o4_x12 o4_x13 o4_x14 o4_x15 hf_o4 ro4_0 ro4_1 ro4_2 ro4_3 ro4_4 ro4_5 ro4_6 => ?_)
  have bo4 : o4_x12.toInt = B0 := by have q9 := hB; rw [hf_o4] at q9; exact q9
  refine tpk_pos (tp_in hG ht_h0 (by decide)) hf_o4 (fun q5 eq5 => ?_)
  have hFc := tp_fr hD hS hA
  refine va_calli (va_runV (As := []) (rest := []) ⟨hx, hb, hml, hown, hts⟩ (t_X2_readTerm1 l dC dI _ Ω κ τ ν ρ L f hG hT adK adV zv h0 B0 ht_h0 hB (by omega)) (cwV 0 hts gX2_readSum_X2_readTerm rfl rfl rfl ⟨rfl, pd_X2_readTerm⟩ ⟨Nat.le_of_ble_eq_true rfl, Nat.le_of_ble_eq_true rfl⟩) ⟨pw_blindZ, va_recv hK hP (ci := 2) (q0 := q5) rfl eq5, pw_preZ hP hK hD hN hZ hS (tp_fr hD hS hA)⟩ rfl rfl hl.1 rfl (lv_room (Nat.le_of_ble_eq_true rfl)) dX2_readSum_1 ⟨Nat.le_of_ble_eq_true rfl, Nat.le_of_ble_eq_true rfl⟩) hS (fun q _ h => hFc q h) hFc (fun r6 f8 t H1 locs ht hvm hw7 hB hz1 hk1 hS => ?_)
  refine tn_4 hw7 (fun hT hF9 hw7r hw7p => ?_); clear hw7
  have hR := hR.then hF9 (by decide)
  have hP := hB.1; rw [ht] at hP; have hD := tp_ad f8 hD; clear hB hFc hz1 hk1; subst ht; generalize t.heap = H at hP hS ⊢
  have hB := hw7p
  refine lv_if_ne (tgt := 9) hx hb dX2_readSum_4 (by decide) (fun c10 => ?_) (fun c10 => ?_)
  · have ic10 : r6.toInt ≠ 0 := zi_ne rfl rfl c10
    refine lv_iconst (v := 0) hx hb dX2_readSum_9 (by decide) ?_
    refine lv_istore_n (lv' := [(1, .int 0), (0, .ref h0)]) hx hb dX2_readSum_10 rfl hl (by decide) rfl (fun ls hl => ?_)
    refine pz_loop (fun n0 H locs ls => ∃ f12 : Nat → va_E, ∃ w11 : Int32, n0 = (400 - (w11.toInt)).toNat ∧ tp_T Ω κ τ ν ρ f12 ∧ tp_F τ [3, 20, 28] f f12 ∧ tp_fld (f12 h0) 12 = B0 ∧ (0 ≤ w11.toInt ∧ w11.toInt ≤ 400) ∧ va_P (dC, dI) vwCl (va_pl L f12) H ∧ va_D A (va_pl L f12) ∧ va_S A s.heap H locs ∧ lv_has ls 3 [(1, .int w11), (0, .ref h0)]) ?_ _ _ _ _ ⟨f8, 0, rfl, hT, hR, hB, (by have : (0 : Int32).toInt = 0 := rfl; omega), hP, hD, hS, lv_sub hl [0, 1] rfl⟩
    intro n0 H locs ls hI ih13
    refine Exists.elim hI (fun f12 hE90 => Exists.elim hE90 (fun w11 hE91 => tn_9 hE91 (fun hn14 hT hR hB rw11 hP hD hS hl => ?_)))
    clear hE91 hE90 hI
    refine lv_iload_n hx hb dX2_readSum_11 rfl (lv_at hl 0 rfl) ?_
    refine lv_sipush (v := 400) hx hb dX2_readSum_12 (by decide) ?_
    refine lv_icmp_ge (tgt := 77) hx hb dX2_readSum_15 (by decide) (fun c15 => ?_) (fun c15 => ?_)
    · have ic15 : w11.toInt ≥ 400 := zi_ge rfl rfl c15
      refine lv_iconst (v := 1) hx hb dX2_readSum_77 (by decide) ?_
      exact W.zret (v := 1) hx hb hr rfl (fun t ht hW => ⟨⟨1, f12, rfl, ⟨hT, hR, (by first | decide | omega), hB⟩, by rw [ht]; exact hP, va_K.moved hW.alike hK, hD⟩, hS.F ht⟩) hS.2.2 dX2_readSum_78
    · have ic15 : w11.toInt < 400 := zi_gef rfl rfl c15
      refine lv_aload_n hx hb dX2_readSum_18 rfl (lv_at hl 1 rfl) ?_
      refine lv_bipush (v := 43) hx hb dX2_readSum_19 (by decide) ?_
      refine tpk_3 hT ht_h0 (fun o16_x1 o16_x2 o16_x3 o16_x4 o16_x5 o16_x6 o16_x8 o16_x10 o16_x11 o16_x12 o16_x13 o16_x14 o16_x15 hf_o16 ro16_0 ro16_1 ro16_2 ro16_3 ro16_4 ro16_5 ro16_6 => ?_)
      have bo16 : o16_x12.toInt = B0 := by have q9 := hB; rw [hf_o16] at q9; exact q9
      refine tpk_pos (tp_in hG ht_h0 (by decide)) hf_o16 (fun q17 eq17 => ?_)
      refine pz_calli (va_runV (As := [.int 43]) (rest := []) ⟨hx, hb, hml, hown, hts⟩ (t_X2_isSign l dC dI _ Ω κ τ ν ρ L f12 hG hT h0 (43) ht_h0) (cwV 1 hts gX2_readSum_X2_isSign rfl rfl rfl ⟨rfl, pd_X2_isSign⟩ ⟨Nat.le_of_ble_eq_true rfl, Nat.le_of_ble_eq_true rfl⟩) ⟨pz_blind, va_recv hK hP (ci := 2) (q0 := q17) rfl eq17, pz_pre hP hK hD hN⟩ rfl rfl hl.1 rfl (lv_room (Nat.le_of_ble_eq_true rfl)) dX2_readSum_21 ⟨Nat.le_of_ble_eq_true rfl, Nat.le_of_ble_eq_true rfl⟩) (fun r18 hw19 => ?_)
      obtain ⟨hw19r, hw19p⟩ := hw19
      refine tp_join 36 (fun H locs ls stk => stk = [] ∧ va_P (dC, dI) vwCl (va_pl L f12) H ∧ va_D A (va_pl L f12) ∧ va_S A s.heap H locs ∧ lv_has ls 3 [(1, .int w11), (0, .ref h0)]) ?_ (fun hj20 => ?_)
      · intro H locs ls stk hI
        refine tn_5 hI (fun e90 hP hD hS hl => ?_)
        clear hI; subst e90
        refine lv_aload_n hx hb dX2_readSum_36 rfl (lv_at hl 1 rfl) ?_
        refine lv_bipush (v := 43) hx hb dX2_readSum_37 (by decide) ?_
        refine pz_calli (va_runV (As := [.int 43]) (rest := []) ⟨hx, hb, hml, hown, hts⟩ (t_X2_isSign l dC dI _ Ω κ τ ν ρ L f12 hG hT h0 (43) ht_h0) (cwV 1 hts gX2_readSum_X2_isSign rfl rfl rfl ⟨rfl, pd_X2_isSign⟩ ⟨Nat.le_of_ble_eq_true rfl, Nat.le_of_ble_eq_true rfl⟩) ⟨pz_blind, va_recv hK hP (ci := 2) (q0 := q17) rfl eq17, pz_pre hP hK hD hN⟩ rfl rfl hl.1 rfl (lv_room (Nat.le_of_ble_eq_true rfl)) dX2_readSum_39 ⟨Nat.le_of_ble_eq_true rfl, Nat.le_of_ble_eq_true rfl⟩) (fun r21 hw22 => ?_)
        obtain ⟨hw22r, hw22p⟩ := hw22
        refine tp_join 52 (fun H locs ls stk => ∃ w23 : Int32, stk = [.int w23] ∧ ((-12) ≤ w23.toInt ∧ w23.toInt ≤ (-11)) ∧ va_P (dC, dI) vwCl (va_pl L f12) H ∧ va_D A (va_pl L f12) ∧ va_S A s.heap H locs ∧ lv_has ls 3 [(1, .int w11), (0, .ref h0)]) ?_ (fun hj24 => ?_)
        · intro H locs ls stk hI
          refine Exists.elim hI (fun w23 hE90 => tn_6 hE90 (fun e90 rw23 hP hD hS hl => ?_))
          clear hE90 hI; subst e90
          refine lv_istore_n (lv' := [(2, .int w23), (1, .int w11), (0, .ref h0)]) hx hb dX2_readSum_52 rfl hl (by decide) rfl (fun ls hl => ?_)
          refine lv_aload_n hx hb dX2_readSum_53 rfl (lv_at hl 2 rfl) ?_
          have hFc := tp_fr hD hS hA
          refine va_callv (va_runV (As := []) (rest := []) ⟨hx, hb, hml, hown, hts⟩ (t_X2_advance l dC dI _ Ω κ τ ν ρ L f12 hG hT h0 B0 ht_h0 hB) (cwV 0 hts gX2_readSum_X2_advance rfl rfl rfl ⟨rfl, pd_X2_advance⟩ ⟨Nat.le_of_ble_eq_true rfl, Nat.le_of_ble_eq_true rfl⟩) ⟨pz_blind, va_recv hK hP (ci := 2) (q0 := q17) rfl eq17, pz_pre hP hK hD hN⟩ rfl rfl hl.1 rfl (lv_room (Nat.le_of_ble_eq_true rfl)) dX2_readSum_54 ⟨Nat.le_of_ble_eq_true rfl, Nat.le_of_ble_eq_true rfl⟩) hS (fun q _ h => hFc q h) hFc (fun f27 t H1 locs ht hvm hw26 hB hz1 hk1 hS => ?_)
          refine tn_3 hw26 (fun hT hF28 hw26p => ?_); clear hw26
          have hR := hR.then hF28 (by decide)
          have hP := hB.1; rw [ht] at hP; have hD := tp_ad f27 hD; clear hB hFc hz1 hk1; subst ht; generalize t.heap = H at hP hS ⊢
          have hB := hw26p
          refine lv_aload_n hx hb dX2_readSum_57 rfl (lv_at hl 2 rfl) ?_
          refine tpk_3 hT ht_h0 (fun o29_x1 o29_x2 o29_x3 o29_x4 o29_x5 o29_x6 o29_x8 o29_x10 o29_x11 o29_x12 o29_x13 o29_x14 o29_x15 hf_o29 ro29_0 ro29_1 ro29_2 ro29_3 ro29_4 ro29_5 ro29_6 => ?_)
          have bo29 : o29_x12.toInt = B0 := by have q9 := hB; rw [hf_o29] at q9; exact q9
          refine tpk_pos (tp_in hG ht_h0 (by decide)) hf_o29 (fun q30 eq30 => ?_)
          have hFc := tp_fr hD hS hA
          refine va_calli (va_runV (As := []) (rest := []) ⟨hx, hb, hml, hown, hts⟩ (t_X2_readTerm1 l dC dI _ Ω κ τ ν ρ L f27 hG hT adK adV zv h0 B0 ht_h0 hB (by omega)) (cwV 0 hts gX2_readSum_X2_readTerm rfl rfl rfl ⟨rfl, pd_X2_readTerm⟩ ⟨Nat.le_of_ble_eq_true rfl, Nat.le_of_ble_eq_true rfl⟩) ⟨pw_blindZ, va_recv hK hP (ci := 2) (q0 := q30) rfl eq30, pw_preZ hP hK hD hN hZ hS (tp_fr hD hS hA)⟩ rfl rfl hl.1 rfl (lv_room (Nat.le_of_ble_eq_true rfl)) dX2_readSum_58 ⟨Nat.le_of_ble_eq_true rfl, Nat.le_of_ble_eq_true rfl⟩) hS (fun q _ h => hFc q h) hFc (fun r31 f33 t H1 locs ht hvm hw32 hB hz1 hk1 hS => ?_)
          refine tn_4 hw32 (fun hT hF34 hw32r hw32p => ?_); clear hw32
          have hR := hR.then hF34 (by decide)
          have hP := hB.1; rw [ht] at hP; have hD := tp_ad f33 hD; clear hB hFc hz1 hk1; subst ht; generalize t.heap = H at hP hS ⊢
          have hB := hw32p
          refine lv_if_ne (tgt := 66) hx hb dX2_readSum_61 (by decide) (fun c35 => ?_) (fun c35 => ?_)
          · have ic35 : r31.toInt ≠ 0 := zi_ne rfl rfl c35
            refine lv_aload_n hx hb dX2_readSum_66 rfl (lv_at hl 2 rfl) ?_
            refine lv_iload_n hx hb dX2_readSum_67 rfl (lv_at hl 0 rfl) ?_
            refine tpk_3 hT ht_h0 (fun o36_x1 o36_x2 o36_x3 o36_x4 o36_x5 o36_x6 o36_x8 o36_x10 o36_x11 o36_x12 o36_x13 o36_x14 o36_x15 hf_o36 ro36_0 ro36_1 ro36_2 ro36_3 ro36_4 ro36_5 ro36_6 => ?_)
            have bo36 : o36_x12.toInt = B0 := by have q9 := hB; rw [hf_o36] at q9; exact q9
            refine tpk_pos (tp_in hG ht_h0 (by decide)) hf_o36 (fun q37 eq37 => ?_)
            have hFc := tp_fr hD hS hA
            refine va_callv (va_runV (As := [.int w23]) (rest := []) ⟨hx, hb, hml, hown, hts⟩ (t_X2_emit l dC dI _ Ω κ τ ν ρ L f33 hG hT h0 w23 B0 ht_h0 (by first | decide | omega) hB) (cwV 1 hts gX2_readSum_X2_emit rfl rfl rfl ⟨rfl, pd_X2_emit⟩ ⟨Nat.le_of_ble_eq_true rfl, Nat.le_of_ble_eq_true rfl⟩) ⟨pz_blind, va_recv hK hP (ci := 2) (q0 := q37) rfl eq37, pz_pre hP hK hD hN⟩ rfl rfl hl.1 rfl (lv_room (Nat.le_of_ble_eq_true rfl)) dX2_readSum_68 ⟨Nat.le_of_ble_eq_true rfl, Nat.le_of_ble_eq_true rfl⟩) hS (fun q _ h => hFc q h) hFc (fun f40 t H1 locs ht hvm hw39 hB hz1 hk1 hS => ?_)
            refine tn_3 hw39 (fun hT hF41 hw39p => ?_); clear hw39
            have hR := hR.then hF41 (by decide)
            have hP := hB.1; rw [ht] at hP; have hD := tp_ad f40 hD; clear hB hFc hz1 hk1; subst ht; generalize t.heap = H at hP hS ⊢
            have hB := hw39p
            obtain ⟨z42, ez42⟩ : ∃ y : Int32, y = w11 + 1 := ⟨_, rfl⟩
            refine lv_iinc (v := z42) (lv' := [(1, .int z42), (2, .int w23), (0, .ref h0)]) hx hb dX2_readSum_71 hl (k := 1) rfl (by rw [ez42]; rfl) (by decide) rfl (fun ls hl => ?_)
            have iz42 : z42.toInt = w11.toInt + 1 := zi_add ez42 rfl rfl (by omega) (by omega)
            refine lv_goto (tgt := 11) hx hb dX2_readSum_74 (by decide) ?_
            exact ih13 _ _ _ _ (by rw [hn14]; omega) ⟨f40, z42, rfl, hT, hR, hB, (by omega), hP, hD, hS, lv_sub hl [0, 2] rfl⟩
          · have ic35 : r31.toInt = 0 := zi_nef rfl rfl c35
            refine lv_iconst (v := 0) hx hb dX2_readSum_64 (by decide) ?_
            exact W.zret (v := 0) hx hb hr rfl (fun t ht hW => ⟨⟨0, f33, rfl, ⟨hT, hR, (by first | decide | omega), hB⟩, by rw [ht]; exact hP, va_K.moved hW.alike hK, hD⟩, hS.F ht⟩) hS.2.2 dX2_readSum_65
        · refine lv_if_eq (tgt := 50) hx hb dX2_readSum_42 (by decide) (fun c43 => ?_) (fun c43 => ?_)
          · have ic43 : r21.toInt = 0 := zi_eq rfl rfl c43
            refine lv_bipush (v := (-12)) hx hb dX2_readSum_50 (by decide) ?_
            exact hj24 _ _ _ _ ⟨(-12), rfl, (by have : ((-12) : Int32).toInt = (-12) := rfl; omega), hP, hD, hS, lv_sub hl [0, 1] rfl⟩
          · have ic43 : r21.toInt ≠ 0 := zi_eqf rfl rfl c43
            refine lv_bipush (v := (-11)) hx hb dX2_readSum_45 (by decide) ?_
            refine lv_goto (tgt := 52) hx hb dX2_readSum_47 (by decide) ?_
            exact hj24 _ _ _ _ ⟨(-11), rfl, (by have : ((-11) : Int32).toInt = (-11) := rfl; omega), hP, hD, hS, lv_sub hl [0, 1] rfl⟩
      · refine lv_if_ne (tgt := 36) hx hb dX2_readSum_24 (by decide) (fun c44 => ?_) (fun c44 => ?_)
        · have ic44 : r18.toInt ≠ 0 := zi_ne rfl rfl c44
          exact hj20 _ _ _ _ ⟨rfl, hP, hD, hS, lv_sub hl [0, 1] rfl⟩
        · have ic44 : r18.toInt = 0 := zi_nef rfl rfl c44
          refine lv_aload_n hx hb dX2_readSum_27 rfl (lv_at hl 1 rfl) ?_
          refine lv_bipush (v := 45) hx hb dX2_readSum_28 (by decide) ?_
          refine pz_calli (va_runV (As := [.int 45]) (rest := []) ⟨hx, hb, hml, hown, hts⟩ (t_X2_isSign l dC dI _ Ω κ τ ν ρ L f12 hG hT h0 (45) ht_h0) (cwV 1 hts gX2_readSum_X2_isSign rfl rfl rfl ⟨rfl, pd_X2_isSign⟩ ⟨Nat.le_of_ble_eq_true rfl, Nat.le_of_ble_eq_true rfl⟩) ⟨pz_blind, va_recv hK hP (ci := 2) (q0 := q17) rfl eq17, pz_pre hP hK hD hN⟩ rfl rfl hl.1 rfl (lv_room (Nat.le_of_ble_eq_true rfl)) dX2_readSum_30 ⟨Nat.le_of_ble_eq_true rfl, Nat.le_of_ble_eq_true rfl⟩) (fun r45 hw46 => ?_)
          obtain ⟨hw46r, hw46p⟩ := hw46
          refine lv_if_eq (tgt := 77) hx hb dX2_readSum_33 (by decide) (fun c47 => ?_) (fun c47 => ?_)
          · have ic47 : r45.toInt = 0 := zi_eq rfl rfl c47
            refine lv_iconst (v := 1) hx hb dX2_readSum_77 (by decide) ?_
            exact W.zret (v := 1) hx hb hr rfl (fun t ht hW => ⟨⟨1, f12, rfl, ⟨hT, hR, (by first | decide | omega), hB⟩, by rw [ht]; exact hP, va_K.moved hW.alike hK, hD⟩, hS.F ht⟩) hS.2.2 dX2_readSum_78
          · have ic47 : r45.toInt ≠ 0 := zi_eqf rfl rfl c47
            exact hj20 _ _ _ _ ⟨rfl, hP, hD, hS, lv_sub hl [0, 1] rfl⟩
  · have ic10 : r6.toInt = 0 := zi_nef rfl rfl c10
    refine lv_iconst (v := 0) hx hb dX2_readSum_7 (by decide) ?_
    exact W.zret (v := 0) hx hb hr rfl (fun t ht hW => ⟨⟨0, f8, rfl, ⟨hT, hR, (by first | decide | omega), hB⟩, by rw [ht]; exact hP, va_K.moved hW.alike hK, hD⟩, hS.F ht⟩) hS.2.2 dX2_readSum_8
set_option maxHeartbeats 4000000 in
set_option maxRecDepth 100000 in
theorem t_X2_readCompared1 (l : Launch) (dC : Nat → ClassId) (dI : Nat → Nat → Nat) (sz : Nat) (Ω : Nat → Nat → (Nat → Nat) → va_E → Prop) (κ : Nat → ClassId) (τ ν : Nat → Nat) (ρ : Nat → Nat → Nat) (L : List Nat) (f : Nat → va_E) (hG : tp_G τ ν ρ L) (hT : tp_T Ω κ τ ν ρ f) (adK adV : Nat → Nat) (zv : Option Nat) (h0 : Nat) (B0 : Int) (ht_h0 : τ h0 = 3) (hB : tp_fld (f h0) 12 = B0) (hBr : B0 = 1) : Met l yX2_readCompared wqX2_readCompared ({ frames := 68, cells := 0, slots := 0, locals := 26800 }) (va_Pc [.ref h0] (pw_BZ dC dI (tp_K κ) (va_pl L f) sz adK adV zv)) (va_Qi (fun (r : Int32) (f1 : Nat → va_E) => tp_T Ω κ τ ν ρ f1 ∧ tp_F τ [3, 20, 28] f f1 ∧ (0 ≤ r.toInt ∧ r.toInt ≤ 1) ∧ tp_fld (f1 h0) 12 = B0) (fun (f1 : Nat → va_E) (t : State) => pz_E dC dI (tp_K κ) (va_A (va_pl L f) sz) (va_pl L f1) t) (va_A (va_pl L f) sz)) 0 0 (va_A (va_pl L f) sz) := by
  refine Met.ofW (cc := cX2_readCompared) (maxL := 2) (ret := some .boolean) (by decide) rfl ?_
  intro p e s m args below meth c s₁ B hml hv
  obtain ⟨rfl, ⟨hsz, hP, hK, hD0, hN⟩, hZ⟩ := hv
  have hx := B.exec
  have hb := B.bytes
  have hr := B.returns
  have hts := fun (w : Cond) (h : w ∈ WALL) => atoms_spec (ws := wqX2_readCompared) B.pre w (List.mem_cons_of_mem _ h)
  have hown : s.vm.findClass RX2 = some m.cls := findClass_of_methodNamed B.named
  have hlocks := B.notSynchronized
  subst hsz
  have hD := hD0.self (sz := s.heap.size)
  generalize hAe : va_A (va_pl L f) s.heap.size = A at hD hZ ⊢
  have hA : ∀ q : Nat, s.heap.size ≤ q → A q := fun q h => by rw [← hAe]; exact Or.inr h
  have hS : va_S A s.heap s.heap [] := va_S.rf
  have hR : tp_F τ [3, 20, 28] f f := tp_F.rf
  have hl := lv_entry ([.ref h0]) (n := 2) (Nat.le_of_ble_eq_true rfl)
  rw [lg_entry_eq]
  generalize (lg_sl ([.ref h0]) ++ List.replicate (2 - (lg_sl ([.ref h0])).length) Slot.unset).toArray = ls at hl ⊢
  have hl : lv_has ls 2 [(0, .ref h0)] := hl
  refine lv_aload_n hx hb dX2_readCompared_0 rfl (lv_at hl 0 rfl) ?_
  refine tgk_3 hG ht_h0 (fun y1 y1n y2 y2n y3 y3n => ?_)
  refine tpk_3 hT ht_h0 (fun o4_x1 o4_x2 o4_x3 o4_x4 o4_x5 o4_x6 o4_x8 o4_x10 o4_x11 o4_x12 o4_x13 o4_x14 o4_x15 hf_o4 ro4_0 ro4_1 ro4_2 ro4_3 ro4_4 ro4_5 ro4_6 => ?_)
  have bo4 : o4_x12.toInt = B0 := by have q9 := hB; rw [hf_o4] at q9; exact q9
  refine tpk_pos (tp_in hG ht_h0 (by decide)) hf_o4 (fun q5 eq5 => ?_)
  have hFc := tp_fr hD hS hA
  refine va_calli (va_runV (As := []) (rest := []) ⟨hx, hb, hml, hown, hts⟩ (t_X2_readSum1 l dC dI _ Ω κ τ ν ρ L f hG hT adK adV zv h0 B0 ht_h0 hB (by omega)) (cwV 0 hts gX2_readCompared_X2_readSum rfl rfl rfl ⟨rfl, pd_X2_readSum⟩ ⟨Nat.le_of_ble_eq_true rfl, Nat.le_of_ble_eq_true rfl⟩) ⟨pw_blindZ, va_recv hK hP (ci := 2) (q0 := q5) rfl eq5, pw_preZ hP hK hD hN hZ hS (tp_fr hD hS hA)⟩ rfl rfl hl.1 rfl (lv_room (Nat.le_of_ble_eq_true rfl)) dX2_readCompared_1 ⟨Nat.le_of_ble_eq_true rfl, Nat.le_of_ble_eq_true rfl⟩) hS (fun q _ h => hFc q h) hFc (fun r6 f8 t H1 locs ht hvm hw7 hB hz1 hk1 hS => ?_)
  refine tn_4 hw7 (fun hT hF9 hw7r hw7p => ?_); clear hw7
  have hR := hR.then hF9 (by decide)
  have hP := hB.1; rw [ht] at hP; have hD := tp_ad f8 hD; clear hB hFc hz1 hk1; subst ht; generalize t.heap = H at hP hS ⊢
  have hB := hw7p
  refine lv_if_ne (tgt := 9) hx hb dX2_readCompared_4 (by decide) (fun c10 => ?_) (fun c10 => ?_)
  · have ic10 : r6.toInt ≠ 0 := zi_ne rfl rfl c10
    refine lv_aload_n hx hb dX2_readCompared_9 rfl (lv_at hl 0 rfl) ?_
    refine lv_bipush (v := 60) hx hb dX2_readCompared_10 (by decide) ?_
    refine tpk_3 hT ht_h0 (fun o11_x1 o11_x2 o11_x3 o11_x4 o11_x5 o11_x6 o11_x8 o11_x10 o11_x11 o11_x12 o11_x13 o11_x14 o11_x15 hf_o11 ro11_0 ro11_1 ro11_2 ro11_3 ro11_4 ro11_5 ro11_6 => ?_)
    have bo11 : o11_x12.toInt = B0 := by have q9 := hB; rw [hf_o11] at q9; exact q9
    refine tpk_pos (tp_in hG ht_h0 (by decide)) hf_o11 (fun q12 eq12 => ?_)
    refine pz_calli (va_runV (As := [.int 60]) (rest := []) ⟨hx, hb, hml, hown, hts⟩ (t_X2_isSign l dC dI _ Ω κ τ ν ρ L f8 hG hT h0 (60) ht_h0) (cwV 1 hts gX2_readCompared_X2_isSign rfl rfl rfl ⟨rfl, pd_X2_isSign⟩ ⟨Nat.le_of_ble_eq_true rfl, Nat.le_of_ble_eq_true rfl⟩) ⟨pz_blind, va_recv hK hP (ci := 2) (q0 := q12) rfl eq12, pz_pre hP hK hD hN⟩ rfl rfl hl.1 rfl (lv_room (Nat.le_of_ble_eq_true rfl)) dX2_readCompared_12 ⟨Nat.le_of_ble_eq_true rfl, Nat.le_of_ble_eq_true rfl⟩) (fun r13 hw14 => ?_)
    obtain ⟨hw14r, hw14p⟩ := hw14
    refine tp_join 39 (fun H locs ls stk => ∃ w15 : Int32, stk = [.int w15] ∧ ((-17) ≤ w15.toInt ∧ w15.toInt ≤ (-15)) ∧ va_P (dC, dI) vwCl (va_pl L f8) H ∧ va_D A (va_pl L f8) ∧ va_S A s.heap H locs ∧ lv_has ls 2 [(0, .ref h0)]) ?_ (fun hj16 => ?_)
    · intro H locs ls stk hI
      refine Exists.elim hI (fun w15 hE90 => tn_6 hE90 (fun e90 rw15 hP hD hS hl => ?_))
      clear hE90 hI; subst e90
      refine lv_istore_n (lv' := [(1, .int w15), (0, .ref h0)]) hx hb dX2_readCompared_39 rfl hl (by decide) rfl (fun ls hl => ?_)
      refine lv_iload_n hx hb dX2_readCompared_40 rfl (lv_at hl 0 rfl) ?_
      refine lv_bipush (v := (-17)) hx hb dX2_readCompared_41 (by decide) ?_
      refine tp_join 57 (fun H locs ls stk => stk = [] ∧ va_P (dC, dI) vwCl (va_pl L f8) H ∧ va_D A (va_pl L f8) ∧ va_S A s.heap H locs ∧ lv_has ls 2 [(1, .int w15), (0, .ref h0)]) ?_ (fun hj17 => ?_)
      · intro H locs ls stk hI
        refine tn_5 hI (fun e90 hP hD hS hl => ?_)
        clear hI; subst e90
        refine lv_aload_n hx hb dX2_readCompared_57 rfl (lv_at hl 1 rfl) ?_
        have hFc := tp_fr hD hS hA
        refine va_callv (va_runV (As := []) (rest := []) ⟨hx, hb, hml, hown, hts⟩ (t_X2_advance l dC dI _ Ω κ τ ν ρ L f8 hG hT h0 B0 ht_h0 hB) (cwV 0 hts gX2_readCompared_X2_advance rfl rfl rfl ⟨rfl, pd_X2_advance⟩ ⟨Nat.le_of_ble_eq_true rfl, Nat.le_of_ble_eq_true rfl⟩) ⟨pz_blind, va_recv hK hP (ci := 2) (q0 := q12) rfl eq12, pz_pre hP hK hD hN⟩ rfl rfl hl.1 rfl (lv_room (Nat.le_of_ble_eq_true rfl)) dX2_readCompared_58 ⟨Nat.le_of_ble_eq_true rfl, Nat.le_of_ble_eq_true rfl⟩) hS (fun q _ h => hFc q h) hFc (fun f20 t H1 locs ht hvm hw19 hB hz1 hk1 hS => ?_)
        refine tn_3 hw19 (fun hT hF21 hw19p => ?_); clear hw19
        have hR := hR.then hF21 (by decide)
        have hP := hB.1; rw [ht] at hP; have hD := tp_ad f20 hD; clear hB hFc hz1 hk1; subst ht; generalize t.heap = H at hP hS ⊢
        have hB := hw19p
        refine lv_aload_n hx hb dX2_readCompared_61 rfl (lv_at hl 1 rfl) ?_
        refine tpk_3 hT ht_h0 (fun o22_x1 o22_x2 o22_x3 o22_x4 o22_x5 o22_x6 o22_x8 o22_x10 o22_x11 o22_x12 o22_x13 o22_x14 o22_x15 hf_o22 ro22_0 ro22_1 ro22_2 ro22_3 ro22_4 ro22_5 ro22_6 => ?_)
        have bo22 : o22_x12.toInt = B0 := by have q9 := hB; rw [hf_o22] at q9; exact q9
        refine tpk_pos (tp_in hG ht_h0 (by decide)) hf_o22 (fun q23 eq23 => ?_)
        have hFc := tp_fr hD hS hA
        refine va_calli (va_runV (As := []) (rest := []) ⟨hx, hb, hml, hown, hts⟩ (t_X2_readSum1 l dC dI _ Ω κ τ ν ρ L f20 hG hT adK adV zv h0 B0 ht_h0 hB (by omega)) (cwV 0 hts gX2_readCompared_X2_readSum rfl rfl rfl ⟨rfl, pd_X2_readSum⟩ ⟨Nat.le_of_ble_eq_true rfl, Nat.le_of_ble_eq_true rfl⟩) ⟨pw_blindZ, va_recv hK hP (ci := 2) (q0 := q23) rfl eq23, pw_preZ hP hK hD hN hZ hS (tp_fr hD hS hA)⟩ rfl rfl hl.1 rfl (lv_room (Nat.le_of_ble_eq_true rfl)) dX2_readCompared_62 ⟨Nat.le_of_ble_eq_true rfl, Nat.le_of_ble_eq_true rfl⟩) hS (fun q _ h => hFc q h) hFc (fun r24 f26 t H1 locs ht hvm hw25 hB hz1 hk1 hS => ?_)
        refine tn_4 hw25 (fun hT hF27 hw25r hw25p => ?_); clear hw25
        have hR := hR.then hF27 (by decide)
        have hP := hB.1; rw [ht] at hP; have hD := tp_ad f26 hD; clear hB hFc hz1 hk1; subst ht; generalize t.heap = H at hP hS ⊢
        have hB := hw25p
        refine lv_if_ne (tgt := 70) hx hb dX2_readCompared_65 (by decide) (fun c28 => ?_) (fun c28 => ?_)
        · have ic28 : r24.toInt ≠ 0 := zi_ne rfl rfl c28
          refine lv_aload_n hx hb dX2_readCompared_70 rfl (lv_at hl 1 rfl) ?_
          refine lv_iload_n hx hb dX2_readCompared_71 rfl (lv_at hl 0 rfl) ?_
          refine tpk_3 hT ht_h0 (fun o29_x1 o29_x2 o29_x3 o29_x4 o29_x5 o29_x6 o29_x8 o29_x10 o29_x11 o29_x12 o29_x13 o29_x14 o29_x15 hf_o29 ro29_0 ro29_1 ro29_2 ro29_3 ro29_4 ro29_5 ro29_6 => ?_)
          have bo29 : o29_x12.toInt = B0 := by have q9 := hB; rw [hf_o29] at q9; exact q9
          refine tpk_pos (tp_in hG ht_h0 (by decide)) hf_o29 (fun q30 eq30 => ?_)
          have hFc := tp_fr hD hS hA
          refine va_callv (va_runV (As := [.int w15]) (rest := []) ⟨hx, hb, hml, hown, hts⟩ (t_X2_emit l dC dI _ Ω κ τ ν ρ L f26 hG hT h0 w15 B0 ht_h0 (by first | decide | omega) hB) (cwV 1 hts gX2_readCompared_X2_emit rfl rfl rfl ⟨rfl, pd_X2_emit⟩ ⟨Nat.le_of_ble_eq_true rfl, Nat.le_of_ble_eq_true rfl⟩) ⟨pz_blind, va_recv hK hP (ci := 2) (q0 := q30) rfl eq30, pz_pre hP hK hD hN⟩ rfl rfl hl.1 rfl (lv_room (Nat.le_of_ble_eq_true rfl)) dX2_readCompared_72 ⟨Nat.le_of_ble_eq_true rfl, Nat.le_of_ble_eq_true rfl⟩) hS (fun q _ h => hFc q h) hFc (fun f33 t H1 locs ht hvm hw32 hB hz1 hk1 hS => ?_)
          refine tn_3 hw32 (fun hT hF34 hw32p => ?_); clear hw32
          have hR := hR.then hF34 (by decide)
          have hP := hB.1; rw [ht] at hP; have hD := tp_ad f33 hD; clear hB hFc hz1 hk1; subst ht; generalize t.heap = H at hP hS ⊢
          have hB := hw32p
          refine lv_iconst (v := 1) hx hb dX2_readCompared_75 (by decide) ?_
          exact W.zret (v := 1) hx hb hr rfl (fun t ht hW => ⟨⟨1, f33, rfl, ⟨hT, hR, (by first | decide | omega), hB⟩, by rw [ht]; exact hP, va_K.moved hW.alike hK, hD⟩, hS.F ht⟩) hS.2.2 dX2_readCompared_76
        · have ic28 : r24.toInt = 0 := zi_nef rfl rfl c28
          refine lv_iconst (v := 0) hx hb dX2_readCompared_68 (by decide) ?_
          exact W.zret (v := 0) hx hb hr rfl (fun t ht hW => ⟨⟨0, f26, rfl, ⟨hT, hR, (by first | decide | omega), hB⟩, by rw [ht]; exact hP, va_K.moved hW.alike hK, hD⟩, hS.F ht⟩) hS.2.2 dX2_readCompared_69
      · refine lv_icmp_ne (tgt := 57) hx hb dX2_readCompared_43 (by decide) (fun c35 => ?_) (fun c35 => ?_)
        · have ic35 : w15.toInt ≠ (-17) := zi_ne rfl rfl c35
          exact hj17 _ _ _ _ ⟨rfl, hP, hD, hS, lv_sub hl [0, 1] rfl⟩
        · have ic35 : w15.toInt = (-17) := zi_nef rfl rfl c35
          refine lv_aload_n hx hb dX2_readCompared_46 rfl (lv_at hl 1 rfl) ?_
          refine lv_bipush (v := 61) hx hb dX2_readCompared_47 (by decide) ?_
          refine pz_calli (va_runV (As := [.int 61]) (rest := []) ⟨hx, hb, hml, hown, hts⟩ (t_X2_isSign l dC dI _ Ω κ τ ν ρ L f8 hG hT h0 (61) ht_h0) (cwV 1 hts gX2_readCompared_X2_isSign rfl rfl rfl ⟨rfl, pd_X2_isSign⟩ ⟨Nat.le_of_ble_eq_true rfl, Nat.le_of_ble_eq_true rfl⟩) ⟨pz_blind, va_recv hK hP (ci := 2) (q0 := q12) rfl eq12, pz_pre hP hK hD hN⟩ rfl rfl hl.1 rfl (lv_room (Nat.le_of_ble_eq_true rfl)) dX2_readCompared_49 ⟨Nat.le_of_ble_eq_true rfl, Nat.le_of_ble_eq_true rfl⟩) (fun r36 hw37 => ?_)
          obtain ⟨hw37r, hw37p⟩ := hw37
          refine lv_if_ne (tgt := 57) hx hb dX2_readCompared_52 (by decide) (fun c38 => ?_) (fun c38 => ?_)
          · have ic38 : r36.toInt ≠ 0 := zi_ne rfl rfl c38
            exact hj17 _ _ _ _ ⟨rfl, hP, hD, hS, lv_sub hl [0, 1] rfl⟩
          · have ic38 : r36.toInt = 0 := zi_nef rfl rfl c38
            refine lv_iconst (v := 0) hx hb dX2_readCompared_55 (by decide) ?_
            exact W.zret (v := 0) hx hb hr rfl (fun t ht hW => ⟨⟨0, f8, rfl, ⟨hT, hR, (by first | decide | omega), hB⟩, by rw [ht]; exact hP, va_K.moved hW.alike hK, hD⟩, hS.F ht⟩) hS.2.2 dX2_readCompared_56
    · refine lv_if_eq (tgt := 23) hx hb dX2_readCompared_15 (by decide) (fun c39 => ?_) (fun c39 => ?_)
      · have ic39 : r13.toInt = 0 := zi_eq rfl rfl c39
        refine lv_aload_n hx hb dX2_readCompared_23 rfl (lv_at hl 0 rfl) ?_
        refine lv_bipush (v := 62) hx hb dX2_readCompared_24 (by decide) ?_
        refine pz_calli (va_runV (As := [.int 62]) (rest := []) ⟨hx, hb, hml, hown, hts⟩ (t_X2_isSign l dC dI _ Ω κ τ ν ρ L f8 hG hT h0 (62) ht_h0) (cwV 1 hts gX2_readCompared_X2_isSign rfl rfl rfl ⟨rfl, pd_X2_isSign⟩ ⟨Nat.le_of_ble_eq_true rfl, Nat.le_of_ble_eq_true rfl⟩) ⟨pz_blind, va_recv hK hP (ci := 2) (q0 := q12) rfl eq12, pz_pre hP hK hD hN⟩ rfl rfl hl.1 rfl (lv_room (Nat.le_of_ble_eq_true rfl)) dX2_readCompared_26 ⟨Nat.le_of_ble_eq_true rfl, Nat.le_of_ble_eq_true rfl⟩) (fun r40 hw41 => ?_)
        obtain ⟨hw41r, hw41p⟩ := hw41
        refine lv_if_eq (tgt := 37) hx hb dX2_readCompared_29 (by decide) (fun c42 => ?_) (fun c42 => ?_)
        · have ic42 : r40.toInt = 0 := zi_eq rfl rfl c42
          refine lv_bipush (v := (-17)) hx hb dX2_readCompared_37 (by decide) ?_
          exact hj16 _ _ _ _ ⟨(-17), rfl, (by have : ((-17) : Int32).toInt = (-17) := rfl; omega), hP, hD, hS, lv_sub hl [0] rfl⟩
        · have ic42 : r40.toInt ≠ 0 := zi_eqf rfl rfl c42
          refine lv_bipush (v := (-16)) hx hb dX2_readCompared_32 (by decide) ?_
          refine lv_goto (tgt := 39) hx hb dX2_readCompared_34 (by decide) ?_
          exact hj16 _ _ _ _ ⟨(-16), rfl, (by have : ((-16) : Int32).toInt = (-16) := rfl; omega), hP, hD, hS, lv_sub hl [0] rfl⟩
      · have ic39 : r13.toInt ≠ 0 := zi_eqf rfl rfl c39
        refine lv_bipush (v := (-15)) hx hb dX2_readCompared_18 (by decide) ?_
        refine lv_goto (tgt := 39) hx hb dX2_readCompared_20 (by decide) ?_
        exact hj16 _ _ _ _ ⟨(-15), rfl, (by have : ((-15) : Int32).toInt = (-15) := rfl; omega), hP, hD, hS, lv_sub hl [0] rfl⟩
  · have ic10 : r6.toInt = 0 := zi_nef rfl rfl c10
    refine lv_iconst (v := 0) hx hb dX2_readCompared_7 (by decide) ?_
    exact W.zret (v := 0) hx hb hr rfl (fun t ht hW => ⟨⟨0, f8, rfl, ⟨hT, hR, (by first | decide | omega), hB⟩, by rw [ht]; exact hP, va_K.moved hW.alike hK, hD⟩, hS.F ht⟩) hS.2.2 dX2_readCompared_8
set_option maxHeartbeats 4000000 in
set_option maxRecDepth 100000 in
theorem t_X2_readPlain1 (l : Launch) (dC : Nat → ClassId) (dI : Nat → Nat → Nat) (sz : Nat) (Ω : Nat → Nat → (Nat → Nat) → va_E → Prop) (κ : Nat → ClassId) (τ ν : Nat → Nat) (ρ : Nat → Nat → Nat) (L : List Nat) (f : Nat → va_E) (hG : tp_G τ ν ρ L) (hT : tp_T Ω κ τ ν ρ f) (adK adV : Nat → Nat) (zv : Option Nat) (h0 : Nat) (B0 : Int) (ht_h0 : τ h0 = 3) (hB : tp_fld (f h0) 12 = B0) (hBr : B0 = 1) : Met l yX2_readPlain wqX2_readPlain ({ frames := 69, cells := 0, slots := 0, locals := 27200 }) (va_Pc [.ref h0] (pw_BZ dC dI (tp_K κ) (va_pl L f) sz adK adV zv)) (va_Qi (fun (r : Int32) (f1 : Nat → va_E) => tp_T Ω κ τ ν ρ f1 ∧ tp_F τ [3, 20, 28] f f1 ∧ (0 ≤ r.toInt ∧ r.toInt ≤ 1) ∧ tp_fld (f1 h0) 12 = B0) (fun (f1 : Nat → va_E) (t : State) => pz_E dC dI (tp_K κ) (va_A (va_pl L f) sz) (va_pl L f1) t) (va_A (va_pl L f) sz)) 0 0 (va_A (va_pl L f) sz) := by
  refine Met.ofW (cc := cX2_readPlain) (maxL := 3) (ret := some .boolean) (by decide) rfl ?_
  intro p e s m args below meth c s₁ B hml hv
  obtain ⟨rfl, ⟨hsz, hP, hK, hD0, hN⟩, hZ⟩ := hv
  have hx := B.exec
  have hb := B.bytes
  have hr := B.returns
  have hts := fun (w : Cond) (h : w ∈ WALL) => atoms_spec (ws := wqX2_readPlain) B.pre w (List.mem_cons_of_mem _ h)
  have hown : s.vm.findClass RX2 = some m.cls := findClass_of_methodNamed B.named
  have hlocks := B.notSynchronized
  subst hsz
  have hD := hD0.self (sz := s.heap.size)
  generalize hAe : va_A (va_pl L f) s.heap.size = A at hD hZ ⊢
  have hA : ∀ q : Nat, s.heap.size ≤ q → A q := fun q h => by rw [← hAe]; exact Or.inr h
  have hS : va_S A s.heap s.heap [] := va_S.rf
  have hR : tp_F τ [3, 20, 28] f f := tp_F.rf
  have hl := lv_entry ([.ref h0]) (n := 3) (Nat.le_of_ble_eq_true rfl)
  rw [lg_entry_eq]
  generalize (lg_sl ([.ref h0]) ++ List.replicate (3 - (lg_sl ([.ref h0])).length) Slot.unset).toArray = ls at hl ⊢
  have hl : lv_has ls 3 [(0, .ref h0)] := hl
  refine lv_iconst (v := 0) hx hb dX2_readPlain_0 (by decide) ?_
  refine lv_istore_n (lv' := [(1, .int 0), (0, .ref h0)]) hx hb dX2_readPlain_1 rfl hl (by decide) rfl (fun ls hl => ?_)
  refine lv_iconst (v := 0) hx hb dX2_readPlain_2 (by decide) ?_
  refine lv_istore_n (lv' := [(2, .int 0), (1, .int 0), (0, .ref h0)]) hx hb dX2_readPlain_3 rfl hl (by decide) rfl (fun ls hl => ?_)
  refine pz_loop (fun n0 H locs ls => ∃ f3 : Nat → va_E, ∃ w1 : Int32, ∃ w2 : Int32, n0 = (400 - (w1.toInt)).toNat ∧ tp_T Ω κ τ ν ρ f3 ∧ tp_F τ [3, 20, 28] f f3 ∧ tp_fld (f3 h0) 12 = B0 ∧ (0 ≤ w1.toInt ∧ w1.toInt ≤ 400) ∧ (0 ≤ w2.toInt ∧ w2.toInt ≤ 1) ∧ va_P (dC, dI) vwCl (va_pl L f3) H ∧ va_D A (va_pl L f3) ∧ va_S A s.heap H locs ∧ lv_has ls 3 [(2, .int w1), (1, .int w2), (0, .ref h0)]) ?_ _ _ _ _ ⟨f, 0, 0, rfl, hT, hR, hB, (by have : (0 : Int32).toInt = 0 := rfl; have : (0 : Int32).toInt = 0 := rfl; omega), (by have : (0 : Int32).toInt = 0 := rfl; have : (0 : Int32).toInt = 0 := rfl; omega), hP, hD, hS, lv_sub hl [0, 1, 2] rfl⟩
  intro n0 H locs ls hI ih4
  refine Exists.elim hI (fun f3 hE90 => Exists.elim hE90 (fun w1 hE91 => Exists.elim hE91 (fun w2 hE92 => tn_10 hE92 (fun hn5 hT hR hB rw1 rw2 hP hD hS hl => ?_))))
  clear hE92 hE91 hE90 hI
  refine lv_iload_n hx hb dX2_readPlain_4 rfl (lv_at hl 0 rfl) ?_
  refine lv_sipush (v := 400) hx hb dX2_readPlain_5 (by decide) ?_
  refine tp_join 36 (fun H locs ls stk => ∃ f7 : Nat → va_E, stk = [] ∧ tp_T Ω κ τ ν ρ f7 ∧ tp_F τ [3, 20, 28] f f7 ∧ tp_fld (f7 h0) 12 = B0 ∧ va_P (dC, dI) vwCl (va_pl L f7) H ∧ va_D A (va_pl L f7) ∧ va_S A s.heap H locs ∧ lv_has ls 3 [(2, .int w1), (1, .int w2), (0, .ref h0)]) ?_ (fun hj6 => ?_)
  · intro H locs ls stk hI
    refine Exists.elim hI (fun f7 hE90 => tn_8 hE90 (fun e90 hT hR hB hP hD hS hl => ?_))
    clear hE90 hI; subst e90
    refine lv_aload_n hx hb dX2_readPlain_36 rfl (lv_at hl 2 rfl) ?_
    refine lv_bipush (v := 40) hx hb dX2_readPlain_37 (by decide) ?_
    refine tgk_3 hG ht_h0 (fun y8 y8n y9 y9n y10 y10n => ?_)
    refine tpk_3 hT ht_h0 (fun o11_x1 o11_x2 o11_x3 o11_x4 o11_x5 o11_x6 o11_x8 o11_x10 o11_x11 o11_x12 o11_x13 o11_x14 o11_x15 hf_o11 ro11_0 ro11_1 ro11_2 ro11_3 ro11_4 ro11_5 ro11_6 => ?_)
    have bo11 : o11_x12.toInt = B0 := by have q9 := hB; rw [hf_o11] at q9; exact q9
    refine tpk_pos (tp_in hG ht_h0 (by decide)) hf_o11 (fun q12 eq12 => ?_)
    refine pz_calli (va_runV (As := [.int 40]) (rest := []) ⟨hx, hb, hml, hown, hts⟩ (t_X2_isSign l dC dI _ Ω κ τ ν ρ L f7 hG hT h0 (40) ht_h0) (cwV 1 hts gX2_readPlain_X2_isSign rfl rfl rfl ⟨rfl, pd_X2_isSign⟩ ⟨Nat.le_of_ble_eq_true rfl, Nat.le_of_ble_eq_true rfl⟩) ⟨pz_blind, va_recv hK hP (ci := 2) (q0 := q12) rfl eq12, pz_pre hP hK hD hN⟩ rfl rfl hl.1 rfl (lv_room (Nat.le_of_ble_eq_true rfl)) dX2_readPlain_39 ⟨Nat.le_of_ble_eq_true rfl, Nat.le_of_ble_eq_true rfl⟩) (fun r13 hw14 => ?_)
    obtain ⟨hw14r, hw14p⟩ := hw14
    refine tp_join 57 (fun H locs ls stk => ∃ f17 : Nat → va_E, ∃ w15 : Int32, stk = [.int w15] ∧ tp_T Ω κ τ ν ρ f17 ∧ tp_F τ [3, 20, 28] f f17 ∧ tp_fld (f17 h0) 12 = B0 ∧ (0 ≤ w15.toInt ∧ w15.toInt ≤ 1) ∧ va_P (dC, dI) vwCl (va_pl L f17) H ∧ va_D A (va_pl L f17) ∧ va_S A s.heap H locs ∧ lv_has ls 3 [(2, .int w1), (1, .int w2), (0, .ref h0)]) ?_ (fun hj16 => ?_)
    · intro H locs ls stk hI
      refine Exists.elim hI (fun f17 hE90 => Exists.elim hE90 (fun w15 hE91 => tn_9 hE91 (fun e90 hT hR hB rw15 hP hD hS hl => ?_)))
      clear hE91 hE90 hI; subst e90
      refine lv_istore_n (lv' := [(2, .int w15), (1, .int w2), (0, .ref h0)]) hx hb dX2_readPlain_57 rfl hl (by decide) rfl (fun ls hl => ?_)
      refine lv_iload_n hx hb dX2_readPlain_58 rfl (lv_at hl 0 rfl) ?_
      refine lv_if_eq (tgt := 72) hx hb dX2_readPlain_59 (by decide) (fun c18 => ?_) (fun c18 => ?_)
      · have ic18 : w15.toInt = 0 := zi_eq rfl rfl c18
        refine lv_iload_n hx hb dX2_readPlain_72 rfl (lv_at hl 0 rfl) ?_
        exact W.zret (v := w15) hx hb hr (zi_narZ (by omega) (by omega)) (fun t ht hW => ⟨⟨w15, f17, rfl, ⟨hT, hR, (by first | decide | omega), hB⟩, by rw [ht]; exact hP, va_K.moved hW.alike hK, hD⟩, hS.F ht⟩) hS.2.2 dX2_readPlain_73
      · have ic18 : w15.toInt ≠ 0 := zi_eqf rfl rfl c18
        refine lv_iload_n hx hb dX2_readPlain_62 rfl (lv_at hl 1 rfl) ?_
        refine lv_if_eq (tgt := 72) hx hb dX2_readPlain_63 (by decide) (fun c19 => ?_) (fun c19 => ?_)
        · have ic19 : w2.toInt = 0 := zi_eq rfl rfl c19
          refine lv_iload_n hx hb dX2_readPlain_72 rfl (lv_at hl 0 rfl) ?_
          exact W.zret (v := w15) hx hb hr (zi_narZ (by omega) (by omega)) (fun t ht hW => ⟨⟨w15, f17, rfl, ⟨hT, hR, (by first | decide | omega), hB⟩, by rw [ht]; exact hP, va_K.moved hW.alike hK, hD⟩, hS.F ht⟩) hS.2.2 dX2_readPlain_73
        · have ic19 : w2.toInt ≠ 0 := zi_eqf rfl rfl c19
          refine lv_aload_n hx hb dX2_readPlain_66 rfl (lv_at hl 2 rfl) ?_
          refine lv_bipush (v := (-18)) hx hb dX2_readPlain_67 (by decide) ?_
          refine tpk_3 hT ht_h0 (fun o20_x1 o20_x2 o20_x3 o20_x4 o20_x5 o20_x6 o20_x8 o20_x10 o20_x11 o20_x12 o20_x13 o20_x14 o20_x15 hf_o20 ro20_0 ro20_1 ro20_2 ro20_3 ro20_4 ro20_5 ro20_6 => ?_)
          have bo20 : o20_x12.toInt = B0 := by have q9 := hB; rw [hf_o20] at q9; exact q9
          refine tpk_pos (tp_in hG ht_h0 (by decide)) hf_o20 (fun q21 eq21 => ?_)
          have hFc := tp_fr hD hS hA
          refine va_callv (va_runV (As := [.int (-18)]) (rest := []) ⟨hx, hb, hml, hown, hts⟩ (t_X2_emit l dC dI _ Ω κ τ ν ρ L f17 hG hT h0 ((-18)) B0 ht_h0 (by first | decide | omega) hB) (cwV 1 hts gX2_readPlain_X2_emit rfl rfl rfl ⟨rfl, pd_X2_emit⟩ ⟨Nat.le_of_ble_eq_true rfl, Nat.le_of_ble_eq_true rfl⟩) ⟨pz_blind, va_recv hK hP (ci := 2) (q0 := q21) rfl eq21, pz_pre hP hK hD hN⟩ rfl rfl hl.1 rfl (lv_room (Nat.le_of_ble_eq_true rfl)) dX2_readPlain_69 ⟨Nat.le_of_ble_eq_true rfl, Nat.le_of_ble_eq_true rfl⟩) hS (fun q _ h => hFc q h) hFc (fun f24 t H1 locs ht hvm hw23 hB hz1 hk1 hS => ?_)
          refine tn_3 hw23 (fun hT hF25 hw23p => ?_); clear hw23
          have hR := hR.then hF25 (by decide)
          have hP := hB.1; rw [ht] at hP; have hD := tp_ad f24 hD; clear hB hFc hz1 hk1; subst ht; generalize t.heap = H at hP hS ⊢
          have hB := hw23p
          refine lv_iload_n hx hb dX2_readPlain_72 rfl (lv_at hl 0 rfl) ?_
          exact W.zret (v := w15) hx hb hr (zi_narZ (by omega) (by omega)) (fun t ht hW => ⟨⟨w15, f24, rfl, ⟨hT, hR, (by first | decide | omega), hB⟩, by rw [ht]; exact hP, va_K.moved hW.alike hK, hD⟩, hS.F ht⟩) hS.2.2 dX2_readPlain_73
    · refine lv_if_eq (tgt := 53) hx hb dX2_readPlain_42 (by decide) (fun c26 => ?_) (fun c26 => ?_)
      · have ic26 : r13.toInt = 0 := zi_eq rfl rfl c26
        refine lv_aload_n hx hb dX2_readPlain_53 rfl (lv_at hl 2 rfl) ?_
        have hFc := tp_fr hD hS hA
        refine va_calli (va_runV (As := []) (rest := []) ⟨hx, hb, hml, hown, hts⟩ (t_X2_readCompared1 l dC dI _ Ω κ τ ν ρ L f7 hG hT adK adV zv h0 B0 ht_h0 hB (by omega)) (cwV 0 hts gX2_readPlain_X2_readCompared rfl rfl rfl ⟨rfl, pd_X2_readCompared⟩ ⟨Nat.le_of_ble_eq_true rfl, Nat.le_of_ble_eq_true rfl⟩) ⟨pw_blindZ, va_recv hK hP (ci := 2) (q0 := q12) rfl eq12, pw_preZ hP hK hD hN hZ hS (tp_fr hD hS hA)⟩ rfl rfl hl.1 rfl (lv_room (Nat.le_of_ble_eq_true rfl)) dX2_readPlain_54 ⟨Nat.le_of_ble_eq_true rfl, Nat.le_of_ble_eq_true rfl⟩) hS (fun q _ h => hFc q h) hFc (fun r27 f29 t H1 locs ht hvm hw28 hB hz1 hk1 hS => ?_)
        refine tn_4 hw28 (fun hT hF30 hw28r hw28p => ?_); clear hw28
        have hR := hR.then hF30 (by decide)
        have hP := hB.1; rw [ht] at hP; have hD := tp_ad f29 hD; clear hB hFc hz1 hk1; subst ht; generalize t.heap = H at hP hS ⊢
        have hB := hw28p
        exact hj16 _ _ _ _ ⟨f29, r27, rfl, hT, hR, hB, (by omega), hP, hD, hS, lv_sub hl [0, 1, 2] rfl⟩
      · have ic26 : r13.toInt ≠ 0 := zi_eqf rfl rfl c26
        refine lv_aload_n hx hb dX2_readPlain_45 rfl (lv_at hl 2 rfl) ?_
        refine lv_iconst (v := 1) hx hb dX2_readPlain_46 (by decide) ?_
        have hFc := tp_fr hD hS hA
        refine va_calli (va_runV (As := [.int 1]) (rest := []) ⟨hx, hb, hml, hown, hts⟩ (t_X2_readInBrackets1 l dC dI _ Ω κ τ ν ρ L f7 hG hT adK adV zv h0 (1) B0 ht_h0 (by first | decide | omega) hB (by first | omega | (have : (1 : Int32).toInt = 1 := rfl; omega))) (cwV 1 hts gX2_readPlain_X2_readInBrackets rfl rfl rfl ⟨rfl, pd_X2_readInBrackets⟩ ⟨Nat.le_of_ble_eq_true rfl, Nat.le_of_ble_eq_true rfl⟩) ⟨pw_blindZ, va_recv hK hP (ci := 2) (q0 := q12) rfl eq12, pw_preZ hP hK hD hN hZ hS (tp_fr hD hS hA)⟩ rfl rfl hl.1 rfl (lv_room (Nat.le_of_ble_eq_true rfl)) dX2_readPlain_47 ⟨Nat.le_of_ble_eq_true rfl, Nat.le_of_ble_eq_true rfl⟩) hS (fun q _ h => hFc q h) hFc (fun r31 f33 t H1 locs ht hvm hw32 hB hz1 hk1 hS => ?_)
        refine tn_4 hw32 (fun hT hF34 hw32r hw32p => ?_); clear hw32
        have hR := hR.then hF34 (by decide)
        have hP := hB.1; rw [ht] at hP; have hD := tp_ad f33 hD; clear hB hFc hz1 hk1; subst ht; generalize t.heap = H at hP hS ⊢
        have hB := hw32p
        refine lv_goto (tgt := 57) hx hb dX2_readPlain_50 (by decide) ?_
        exact hj16 _ _ _ _ ⟨f33, r31, rfl, hT, hR, hB, (by omega), hP, hD, hS, lv_sub hl [0, 1, 2] rfl⟩
  · refine lv_icmp_ge (tgt := 36) hx hb dX2_readPlain_8 (by decide) (fun c35 => ?_) (fun c35 => ?_)
    · have ic35 : w1.toInt ≥ 400 := zi_ge rfl rfl c35
      exact hj6 _ _ _ _ ⟨f3, rfl, hT, hR, hB, hP, hD, hS, lv_sub hl [0, 1, 2] rfl⟩
    · have ic35 : w1.toInt < 400 := zi_gef rfl rfl c35
      refine lv_aload_n hx hb dX2_readPlain_11 rfl (lv_at hl 2 rfl) ?_
      refine va_ldcS hx hb hown (show vk_R RX2 141 "not" (adK 8) s from hZ.2.2.2 8 (by decide)) dX2_readPlain_12 ?_
      refine tgk_3 hG ht_h0 (fun y36 y36n y37 y37n y38 y38n => ?_)
      refine tpk_3 hT ht_h0 (fun o39_x1 o39_x2 o39_x3 o39_x4 o39_x5 o39_x6 o39_x8 o39_x10 o39_x11 o39_x12 o39_x13 o39_x14 o39_x15 hf_o39 ro39_0 ro39_1 ro39_2 ro39_3 ro39_4 ro39_5 ro39_6 => ?_)
      have bo39 : o39_x12.toInt = B0 := by have q9 := hB; rw [hf_o39] at q9; exact q9
      refine tpk_pos (tp_in hG ht_h0 (by decide)) hf_o39 (fun q40 eq40 => ?_)
      have hFc := tp_fr hD hS hA
      refine va_calli (va_runV (As := [.ref (adK 8)]) (rest := []) ⟨hx, hb, hml, hown, hts⟩ (t_X2_passWord l dC dI _ Ω κ τ ν ρ L f3 hG hT adK adV zv h0 8 B0 ht_h0 (by decide) hB) (cwV 1 hts gX2_readPlain_X2_passWord rfl rfl rfl ⟨rfl, pd_X2_passWord⟩ ⟨Nat.le_of_ble_eq_true rfl, Nat.le_of_ble_eq_true rfl⟩) ⟨pw_blindZ, va_recv hK hP (ci := 2) (q0 := q40) rfl eq40, pw_preZ hP hK hD hN hZ hS (tp_fr hD hS hA)⟩ rfl rfl hl.1 rfl (lv_room (Nat.le_of_ble_eq_true rfl)) dX2_readPlain_14 ⟨Nat.le_of_ble_eq_true rfl, Nat.le_of_ble_eq_true rfl⟩) hS (fun q _ h => hFc q h) hFc (fun r41 f43 t H1 locs ht hvm hw42 hB hz1 hk1 hS => ?_)
      refine tn_4 hw42 (fun hT hF44 hw42r hw42p => ?_); clear hw42
      have hR := hR.then hF44 (by decide)
      have hP := hB.1; rw [ht] at hP; have hD := tp_ad f43 hD; clear hB hFc hz1 hk1; subst ht; generalize t.heap = H at hP hS ⊢
      have hB := hw42p
      refine lv_if_eq (tgt := 36) hx hb dX2_readPlain_17 (by decide) (fun c45 => ?_) (fun c45 => ?_)
      · have ic45 : r41.toInt = 0 := zi_eq rfl rfl c45
        exact hj6 _ _ _ _ ⟨f43, rfl, hT, hR, hB, hP, hD, hS, lv_sub hl [0, 1, 2] rfl⟩
      · have ic45 : r41.toInt ≠ 0 := zi_eqf rfl rfl c45
        refine lv_iload_n hx hb dX2_readPlain_20 rfl (lv_at hl 1 rfl) ?_
        refine lv_if_ne (tgt := 28) hx hb dX2_readPlain_21 (by decide) (fun c46 => ?_) (fun c46 => ?_)
        · have ic46 : w2.toInt ≠ 0 := zi_ne rfl rfl c46
          refine lv_iconst (v := 0) hx hb dX2_readPlain_28 (by decide) ?_
          refine lv_istore_n (lv' := [(1, .int 0), (2, .int w1), (0, .ref h0)]) hx hb dX2_readPlain_29 rfl hl (by decide) rfl (fun ls hl => ?_)
          obtain ⟨z47, ez47⟩ : ∃ y : Int32, y = w1 + 1 := ⟨_, rfl⟩
          refine lv_iinc (v := z47) (lv' := [(2, .int z47), (1, .int 0), (0, .ref h0)]) hx hb dX2_readPlain_30 hl (k := 1) rfl (by rw [ez47]; rfl) (by decide) rfl (fun ls hl => ?_)
          have iz47 : z47.toInt = w1.toInt + 1 := zi_add ez47 rfl rfl (by omega) (by omega)
          refine lv_goto (tgt := 4) hx hb dX2_readPlain_33 (by decide) ?_
          exact ih4 _ _ _ _ (by rw [hn5]; omega) ⟨f43, z47, 0, rfl, hT, hR, hB, (by have : (0 : Int32).toInt = 0 := rfl; omega), (by have : (0 : Int32).toInt = 0 := rfl; omega), hP, hD, hS, lv_sub hl [0, 1, 2] rfl⟩
        · have ic46 : w2.toInt = 0 := zi_nef rfl rfl c46
          refine lv_iconst (v := 1) hx hb dX2_readPlain_24 (by decide) ?_
          refine lv_goto (tgt := 29) hx hb dX2_readPlain_25 (by decide) ?_
          refine lv_istore_n (lv' := [(1, .int 1), (2, .int w1), (0, .ref h0)]) hx hb dX2_readPlain_29 rfl hl (by decide) rfl (fun ls hl => ?_)
          obtain ⟨z48, ez48⟩ : ∃ y : Int32, y = w1 + 1 := ⟨_, rfl⟩
          refine lv_iinc (v := z48) (lv' := [(2, .int z48), (1, .int 1), (0, .ref h0)]) hx hb dX2_readPlain_30 hl (k := 1) rfl (by rw [ez48]; rfl) (by decide) rfl (fun ls hl => ?_)
          have iz48 : z48.toInt = w1.toInt + 1 := zi_add ez48 rfl rfl (by omega) (by omega)
          refine lv_goto (tgt := 4) hx hb dX2_readPlain_33 (by decide) ?_
          exact ih4 _ _ _ _ (by rw [hn5]; omega) ⟨f43, z48, 1, rfl, hT, hR, hB, (by have : (1 : Int32).toInt = 1 := rfl; omega), (by have : (1 : Int32).toInt = 1 := rfl; omega), hP, hD, hS, lv_sub hl [0, 1, 2] rfl⟩
set_option maxHeartbeats 4000000 in
set_option maxRecDepth 100000 in
theorem t_X2_readBoth1 (l : Launch) (dC : Nat → ClassId) (dI : Nat → Nat → Nat) (sz : Nat) (Ω : Nat → Nat → (Nat → Nat) → va_E → Prop) (κ : Nat → ClassId) (τ ν : Nat → Nat) (ρ : Nat → Nat → Nat) (L : List Nat) (f : Nat → va_E) (hG : tp_G τ ν ρ L) (hT : tp_T Ω κ τ ν ρ f) (adK adV : Nat → Nat) (zv : Option Nat) (h0 : Nat) (B0 : Int) (ht_h0 : τ h0 = 3) (hB : tp_fld (f h0) 12 = B0) (hBr : B0 = 1) : Met l yX2_readBoth wqX2_readBoth ({ frames := 70, cells := 0, slots := 0, locals := 27600 }) (va_Pc [.ref h0] (pw_BZ dC dI (tp_K κ) (va_pl L f) sz adK adV zv)) (va_Qi (fun (r : Int32) (f1 : Nat → va_E) => tp_T Ω κ τ ν ρ f1 ∧ tp_F τ [3, 20, 28] f f1 ∧ (0 ≤ r.toInt ∧ r.toInt ≤ 1) ∧ tp_fld (f1 h0) 12 = B0) (fun (f1 : Nat → va_E) (t : State) => pz_E dC dI (tp_K κ) (va_A (va_pl L f) sz) (va_pl L f1) t) (va_A (va_pl L f) sz)) 0 0 (va_A (va_pl L f) sz) := by
  refine Met.ofW (cc := cX2_readBoth) (maxL := 3) (ret := some .boolean) (by decide) rfl ?_
  intro p e s m args below meth c s₁ B hml hv
  obtain ⟨rfl, ⟨hsz, hP, hK, hD0, hN⟩, hZ⟩ := hv
  have hx := B.exec
  have hb := B.bytes
  have hr := B.returns
  have hts := fun (w : Cond) (h : w ∈ WALL) => atoms_spec (ws := wqX2_readBoth) B.pre w (List.mem_cons_of_mem _ h)
  have hown : s.vm.findClass RX2 = some m.cls := findClass_of_methodNamed B.named
  have hlocks := B.notSynchronized
  subst hsz
  have hD := hD0.self (sz := s.heap.size)
  generalize hAe : va_A (va_pl L f) s.heap.size = A at hD hZ ⊢
  have hA : ∀ q : Nat, s.heap.size ≤ q → A q := fun q h => by rw [← hAe]; exact Or.inr h
  have hS : va_S A s.heap s.heap [] := va_S.rf
  have hR : tp_F τ [3, 20, 28] f f := tp_F.rf
  have hl := lv_entry ([.ref h0]) (n := 3) (Nat.le_of_ble_eq_true rfl)
  rw [lg_entry_eq]
  generalize (lg_sl ([.ref h0]) ++ List.replicate (3 - (lg_sl ([.ref h0])).length) Slot.unset).toArray = ls at hl ⊢
  have hl : lv_has ls 3 [(0, .ref h0)] := hl
  refine lv_aload_n hx hb dX2_readBoth_0 rfl (lv_at hl 0 rfl) ?_
  refine tgk_3 hG ht_h0 (fun y1 y1n y2 y2n y3 y3n => ?_)
  refine tpk_3 hT ht_h0 (fun o4_x1 o4_x2 o4_x3 o4_x4 o4_x5 o4_x6 o4_x8 o4_x10 o4_x11 o4_x12 o4_x13 o4_x14 o4_x15 hf_o4 ro4_0 ro4_1 ro4_2 ro4_3 ro4_4 ro4_5 ro4_6 => ?_)
  have bo4 : o4_x12.toInt = B0 := by have q9 := hB; rw [hf_o4] at q9; exact q9
  refine tpk_pos (tp_in hG ht_h0 (by decide)) hf_o4 (fun q5 eq5 => ?_)
  have hFc := tp_fr hD hS hA
  refine va_calli (va_runV (As := []) (rest := []) ⟨hx, hb, hml, hown, hts⟩ (t_X2_readPlain1 l dC dI _ Ω κ τ ν ρ L f hG hT adK adV zv h0 B0 ht_h0 hB (by omega)) (cwV 0 hts gX2_readBoth_X2_readPlain rfl rfl rfl ⟨rfl, pd_X2_readPlain⟩ ⟨Nat.le_of_ble_eq_true rfl, Nat.le_of_ble_eq_true rfl⟩) ⟨pw_blindZ, va_recv hK hP (ci := 2) (q0 := q5) rfl eq5, pw_preZ hP hK hD hN hZ hS (tp_fr hD hS hA)⟩ rfl rfl hl.1 rfl (lv_room (Nat.le_of_ble_eq_true rfl)) dX2_readBoth_1 ⟨Nat.le_of_ble_eq_true rfl, Nat.le_of_ble_eq_true rfl⟩) hS (fun q _ h => hFc q h) hFc (fun r6 f8 t H1 locs ht hvm hw7 hB hz1 hk1 hS => ?_)
  refine tn_4 hw7 (fun hT hF9 hw7r hw7p => ?_); clear hw7
  have hR := hR.then hF9 (by decide)
  have hP := hB.1; rw [ht] at hP; have hD := tp_ad f8 hD; clear hB hFc hz1 hk1; subst ht; generalize t.heap = H at hP hS ⊢
  have hB := hw7p
  refine lv_if_ne (tgt := 9) hx hb dX2_readBoth_4 (by decide) (fun c10 => ?_) (fun c10 => ?_)
  · have ic10 : r6.toInt ≠ 0 := zi_ne rfl rfl c10
    refine lv_iconst (v := 0) hx hb dX2_readBoth_9 (by decide) ?_
    refine lv_istore_n (lv' := [(1, .int 0), (0, .ref h0)]) hx hb dX2_readBoth_10 rfl hl (by decide) rfl (fun ls hl => ?_)
    refine pz_loop (fun n0 H locs ls => ∃ f12 : Nat → va_E, ∃ w11 : Int32, n0 = (400 - (w11.toInt)).toNat ∧ tp_T Ω κ τ ν ρ f12 ∧ tp_F τ [3, 20, 28] f f12 ∧ tp_fld (f12 h0) 12 = B0 ∧ (0 ≤ w11.toInt ∧ w11.toInt ≤ 400) ∧ va_P (dC, dI) vwCl (va_pl L f12) H ∧ va_D A (va_pl L f12) ∧ va_S A s.heap H locs ∧ lv_has ls 3 [(1, .int w11), (0, .ref h0)]) ?_ _ _ _ _ ⟨f8, 0, rfl, hT, hR, hB, (by have : (0 : Int32).toInt = 0 := rfl; omega), hP, hD, hS, lv_sub hl [0, 1] rfl⟩
    intro n0 H locs ls hI ih13
    refine Exists.elim hI (fun f12 hE90 => Exists.elim hE90 (fun w11 hE91 => tn_9 hE91 (fun hn14 hT hR hB rw11 hP hD hS hl => ?_)))
    clear hE91 hE90 hI
    refine lv_iload_n hx hb dX2_readBoth_11 rfl (lv_at hl 0 rfl) ?_
    refine lv_sipush (v := 400) hx hb dX2_readBoth_12 (by decide) ?_
    refine lv_icmp_ge (tgt := 54) hx hb dX2_readBoth_15 (by decide) (fun c15 => ?_) (fun c15 => ?_)
    · have ic15 : w11.toInt ≥ 400 := zi_ge rfl rfl c15
      refine lv_iconst (v := 1) hx hb dX2_readBoth_54 (by decide) ?_
      exact W.zret (v := 1) hx hb hr rfl (fun t ht hW => ⟨⟨1, f12, rfl, ⟨hT, hR, (by first | decide | omega), hB⟩, by rw [ht]; exact hP, va_K.moved hW.alike hK, hD⟩, hS.F ht⟩) hS.2.2 dX2_readBoth_55
    · have ic15 : w11.toInt < 400 := zi_gef rfl rfl c15
      refine lv_aload_n hx hb dX2_readBoth_18 rfl (lv_at hl 1 rfl) ?_
      refine va_ldcS hx hb hown (show vk_R RX2 139 "and" (adK 7) s from hZ.2.2.2 7 (by decide)) dX2_readBoth_19 ?_
      refine tpk_3 hT ht_h0 (fun o16_x1 o16_x2 o16_x3 o16_x4 o16_x5 o16_x6 o16_x8 o16_x10 o16_x11 o16_x12 o16_x13 o16_x14 o16_x15 hf_o16 ro16_0 ro16_1 ro16_2 ro16_3 ro16_4 ro16_5 ro16_6 => ?_)
      have bo16 : o16_x12.toInt = B0 := by have q9 := hB; rw [hf_o16] at q9; exact q9
      refine tpk_pos (tp_in hG ht_h0 (by decide)) hf_o16 (fun q17 eq17 => ?_)
      have hFc := tp_fr hD hS hA
      refine va_calli (va_runV (As := [.ref (adK 7)]) (rest := []) ⟨hx, hb, hml, hown, hts⟩ (t_X2_passWord l dC dI _ Ω κ τ ν ρ L f12 hG hT adK adV zv h0 7 B0 ht_h0 (by decide) hB) (cwV 1 hts gX2_readBoth_X2_passWord rfl rfl rfl ⟨rfl, pd_X2_passWord⟩ ⟨Nat.le_of_ble_eq_true rfl, Nat.le_of_ble_eq_true rfl⟩) ⟨pw_blindZ, va_recv hK hP (ci := 2) (q0 := q17) rfl eq17, pw_preZ hP hK hD hN hZ hS (tp_fr hD hS hA)⟩ rfl rfl hl.1 rfl (lv_room (Nat.le_of_ble_eq_true rfl)) dX2_readBoth_21 ⟨Nat.le_of_ble_eq_true rfl, Nat.le_of_ble_eq_true rfl⟩) hS (fun q _ h => hFc q h) hFc (fun r18 f20 t H1 locs ht hvm hw19 hB hz1 hk1 hS => ?_)
      refine tn_4 hw19 (fun hT hF21 hw19r hw19p => ?_); clear hw19
      have hR := hR.then hF21 (by decide)
      have hP := hB.1; rw [ht] at hP; have hD := tp_ad f20 hD; clear hB hFc hz1 hk1; subst ht; generalize t.heap = H at hP hS ⊢
      have hB := hw19p
      refine lv_if_eq (tgt := 54) hx hb dX2_readBoth_24 (by decide) (fun c22 => ?_) (fun c22 => ?_)
      · have ic22 : r18.toInt = 0 := zi_eq rfl rfl c22
        refine lv_iconst (v := 1) hx hb dX2_readBoth_54 (by decide) ?_
        exact W.zret (v := 1) hx hb hr rfl (fun t ht hW => ⟨⟨1, f20, rfl, ⟨hT, hR, (by first | decide | omega), hB⟩, by rw [ht]; exact hP, va_K.moved hW.alike hK, hD⟩, hS.F ht⟩) hS.2.2 dX2_readBoth_55
      · have ic22 : r18.toInt ≠ 0 := zi_eqf rfl rfl c22
        refine lv_aload_n hx hb dX2_readBoth_27 rfl (lv_at hl 1 rfl) ?_
        refine lv_bipush (v := (-20)) hx hb dX2_readBoth_28 (by decide) ?_
        refine tpk_3 hT ht_h0 (fun o23_x1 o23_x2 o23_x3 o23_x4 o23_x5 o23_x6 o23_x8 o23_x10 o23_x11 o23_x12 o23_x13 o23_x14 o23_x15 hf_o23 ro23_0 ro23_1 ro23_2 ro23_3 ro23_4 ro23_5 ro23_6 => ?_)
        have bo23 : o23_x12.toInt = B0 := by have q9 := hB; rw [hf_o23] at q9; exact q9
        refine tpk_pos (tp_in hG ht_h0 (by decide)) hf_o23 (fun q24 eq24 => ?_)
        have hFc := tp_fr hD hS hA
        refine va_calli (va_runV (As := [.int (-20)]) (rest := []) ⟨hx, hb, hml, hown, hts⟩ (t_X2_emitJump l dC dI _ Ω κ τ ν ρ L f20 hG hT h0 ((-20)) B0 ht_h0 (by first | decide | omega) hB) (cwV 1 hts gX2_readBoth_X2_emitJump rfl rfl rfl ⟨rfl, pd_X2_emitJump⟩ ⟨Nat.le_of_ble_eq_true rfl, Nat.le_of_ble_eq_true rfl⟩) ⟨pz_blind, va_recv hK hP (ci := 2) (q0 := q24) rfl eq24, pz_pre hP hK hD hN⟩ rfl rfl hl.1 rfl (lv_room (Nat.le_of_ble_eq_true rfl)) dX2_readBoth_30 ⟨Nat.le_of_ble_eq_true rfl, Nat.le_of_ble_eq_true rfl⟩) hS (fun q _ h => hFc q h) hFc (fun r25 f27 t H1 locs ht hvm hw26 hB hz1 hk1 hS => ?_)
        refine tn_4 hw26 (fun hT hF28 hw26r hw26p => ?_); clear hw26
        have hR := hR.then hF28 (by decide)
        have hP := hB.1; rw [ht] at hP; have hD := tp_ad f27 hD; clear hB hFc hz1 hk1; subst ht; generalize t.heap = H at hP hS ⊢
        have hB := hw26p
        refine lv_istore_n (lv' := [(2, .int r25), (1, .int w11), (0, .ref h0)]) hx hb dX2_readBoth_33 rfl hl (by decide) rfl (fun ls hl => ?_)
        refine lv_aload_n hx hb dX2_readBoth_34 rfl (lv_at hl 2 rfl) ?_
        refine tpk_3 hT ht_h0 (fun o29_x1 o29_x2 o29_x3 o29_x4 o29_x5 o29_x6 o29_x8 o29_x10 o29_x11 o29_x12 o29_x13 o29_x14 o29_x15 hf_o29 ro29_0 ro29_1 ro29_2 ro29_3 ro29_4 ro29_5 ro29_6 => ?_)
        have bo29 : o29_x12.toInt = B0 := by have q9 := hB; rw [hf_o29] at q9; exact q9
        refine tpk_pos (tp_in hG ht_h0 (by decide)) hf_o29 (fun q30 eq30 => ?_)
        have hFc := tp_fr hD hS hA
        refine va_calli (va_runV (As := []) (rest := []) ⟨hx, hb, hml, hown, hts⟩ (t_X2_readPlain1 l dC dI _ Ω κ τ ν ρ L f27 hG hT adK adV zv h0 B0 ht_h0 hB (by omega)) (cwV 0 hts gX2_readBoth_X2_readPlain rfl rfl rfl ⟨rfl, pd_X2_readPlain⟩ ⟨Nat.le_of_ble_eq_true rfl, Nat.le_of_ble_eq_true rfl⟩) ⟨pw_blindZ, va_recv hK hP (ci := 2) (q0 := q30) rfl eq30, pw_preZ hP hK hD hN hZ hS (tp_fr hD hS hA)⟩ rfl rfl hl.1 rfl (lv_room (Nat.le_of_ble_eq_true rfl)) dX2_readBoth_35 ⟨Nat.le_of_ble_eq_true rfl, Nat.le_of_ble_eq_true rfl⟩) hS (fun q _ h => hFc q h) hFc (fun r31 f33 t H1 locs ht hvm hw32 hB hz1 hk1 hS => ?_)
        refine tn_4 hw32 (fun hT hF34 hw32r hw32p => ?_); clear hw32
        have hR := hR.then hF34 (by decide)
        have hP := hB.1; rw [ht] at hP; have hD := tp_ad f33 hD; clear hB hFc hz1 hk1; subst ht; generalize t.heap = H at hP hS ⊢
        have hB := hw32p
        refine lv_if_ne (tgt := 43) hx hb dX2_readBoth_38 (by decide) (fun c35 => ?_) (fun c35 => ?_)
        · have ic35 : r31.toInt ≠ 0 := zi_ne rfl rfl c35
          refine lv_aload_n hx hb dX2_readBoth_43 rfl (lv_at hl 2 rfl) ?_
          refine lv_iload_n hx hb dX2_readBoth_44 rfl (lv_at hl 0 rfl) ?_
          refine tpk_3 hT ht_h0 (fun o36_x1 o36_x2 o36_x3 o36_x4 o36_x5 o36_x6 o36_x8 o36_x10 o36_x11 o36_x12 o36_x13 o36_x14 o36_x15 hf_o36 ro36_0 ro36_1 ro36_2 ro36_3 ro36_4 ro36_5 ro36_6 => ?_)
          have bo36 : o36_x12.toInt = B0 := by have q9 := hB; rw [hf_o36] at q9; exact q9
          refine tpk_pos (tp_in hG ht_h0 (by decide)) hf_o36 (fun q37 eq37 => ?_)
          have hFc := tp_fr hD hS hA
          refine va_callv (va_runV (As := [.int r25]) (rest := []) ⟨hx, hb, hml, hown, hts⟩ (t_X2_land l dC dI _ Ω κ τ ν ρ L f33 hG hT h0 r25 B0 ht_h0 hB) (cwV 1 hts gX2_readBoth_X2_land rfl rfl rfl ⟨rfl, pd_X2_land⟩ ⟨Nat.le_of_ble_eq_true rfl, Nat.le_of_ble_eq_true rfl⟩) ⟨pz_blind, va_recv hK hP (ci := 2) (q0 := q37) rfl eq37, pz_pre hP hK hD hN⟩ rfl rfl hl.1 rfl (lv_room (Nat.le_of_ble_eq_true rfl)) dX2_readBoth_45 ⟨Nat.le_of_ble_eq_true rfl, Nat.le_of_ble_eq_true rfl⟩) hS (fun q _ h => hFc q h) hFc (fun f40 t H1 locs ht hvm hw39 hB hz1 hk1 hS => ?_)
          refine tn_3 hw39 (fun hT hF41 hw39p => ?_); clear hw39
          have hR := hR.then hF41 (by decide)
          have hP := hB.1; rw [ht] at hP; have hD := tp_ad f40 hD; clear hB hFc hz1 hk1; subst ht; generalize t.heap = H at hP hS ⊢
          have hB := hw39p
          obtain ⟨z42, ez42⟩ : ∃ y : Int32, y = w11 + 1 := ⟨_, rfl⟩
          refine lv_iinc (v := z42) (lv' := [(1, .int z42), (2, .int r25), (0, .ref h0)]) hx hb dX2_readBoth_48 hl (k := 1) rfl (by rw [ez42]; rfl) (by decide) rfl (fun ls hl => ?_)
          have iz42 : z42.toInt = w11.toInt + 1 := zi_add ez42 rfl rfl (by omega) (by omega)
          refine lv_goto (tgt := 11) hx hb dX2_readBoth_51 (by decide) ?_
          exact ih13 _ _ _ _ (by rw [hn14]; omega) ⟨f40, z42, rfl, hT, hR, hB, (by omega), hP, hD, hS, lv_sub hl [0, 2] rfl⟩
        · have ic35 : r31.toInt = 0 := zi_nef rfl rfl c35
          refine lv_iconst (v := 0) hx hb dX2_readBoth_41 (by decide) ?_
          exact W.zret (v := 0) hx hb hr rfl (fun t ht hW => ⟨⟨0, f33, rfl, ⟨hT, hR, (by first | decide | omega), hB⟩, by rw [ht]; exact hP, va_K.moved hW.alike hK, hD⟩, hS.F ht⟩) hS.2.2 dX2_readBoth_42
  · have ic10 : r6.toInt = 0 := zi_nef rfl rfl c10
    refine lv_iconst (v := 0) hx hb dX2_readBoth_7 (by decide) ?_
    exact W.zret (v := 0) hx hb hr rfl (fun t ht hW => ⟨⟨0, f8, rfl, ⟨hT, hR, (by first | decide | omega), hB⟩, by rw [ht]; exact hP, va_K.moved hW.alike hK, hD⟩, hS.F ht⟩) hS.2.2 dX2_readBoth_8
set_option maxHeartbeats 4000000 in
set_option maxRecDepth 100000 in
theorem t_X2_readTest1 (l : Launch) (dC : Nat → ClassId) (dI : Nat → Nat → Nat) (sz : Nat) (Ω : Nat → Nat → (Nat → Nat) → va_E → Prop) (κ : Nat → ClassId) (τ ν : Nat → Nat) (ρ : Nat → Nat → Nat) (L : List Nat) (f : Nat → va_E) (hG : tp_G τ ν ρ L) (hT : tp_T Ω κ τ ν ρ f) (adK adV : Nat → Nat) (zv : Option Nat) (h0 : Nat) (B0 : Int) (ht_h0 : τ h0 = 3) (hB : tp_fld (f h0) 12 = B0) (hBr : B0 = 1) : Met l yX2_readTest wqX2_readTest ({ frames := 71, cells := 0, slots := 0, locals := 28000 }) (va_Pc [.ref h0] (pw_BZ dC dI (tp_K κ) (va_pl L f) sz adK adV zv)) (va_Qi (fun (r : Int32) (f1 : Nat → va_E) => tp_T Ω κ τ ν ρ f1 ∧ tp_F τ [3, 20, 28] f f1 ∧ (0 ≤ r.toInt ∧ r.toInt ≤ 1) ∧ tp_fld (f1 h0) 12 = B0) (fun (f1 : Nat → va_E) (t : State) => pz_E dC dI (tp_K κ) (va_A (va_pl L f) sz) (va_pl L f1) t) (va_A (va_pl L f) sz)) 0 0 (va_A (va_pl L f) sz) := by
  refine Met.ofW (cc := cX2_readTest) (maxL := 3) (ret := some .boolean) (by decide) rfl ?_
  intro p e s m args below meth c s₁ B hml hv
  obtain ⟨rfl, ⟨hsz, hP, hK, hD0, hN⟩, hZ⟩ := hv
  have hx := B.exec
  have hb := B.bytes
  have hr := B.returns
  have hts := fun (w : Cond) (h : w ∈ WALL) => atoms_spec (ws := wqX2_readTest) B.pre w (List.mem_cons_of_mem _ h)
  have hown : s.vm.findClass RX2 = some m.cls := findClass_of_methodNamed B.named
  have hlocks := B.notSynchronized
  subst hsz
  have hD := hD0.self (sz := s.heap.size)
  generalize hAe : va_A (va_pl L f) s.heap.size = A at hD hZ ⊢
  have hA : ∀ q : Nat, s.heap.size ≤ q → A q := fun q h => by rw [← hAe]; exact Or.inr h
  have hS : va_S A s.heap s.heap [] := va_S.rf
  have hR : tp_F τ [3, 20, 28] f f := tp_F.rf
  have hl := lv_entry ([.ref h0]) (n := 3) (Nat.le_of_ble_eq_true rfl)
  rw [lg_entry_eq]
  generalize (lg_sl ([.ref h0]) ++ List.replicate (3 - (lg_sl ([.ref h0])).length) Slot.unset).toArray = ls at hl ⊢
  have hl : lv_has ls 3 [(0, .ref h0)] := hl
  refine lv_aload_n hx hb dX2_readTest_0 rfl (lv_at hl 0 rfl) ?_
  refine tgk_3 hG ht_h0 (fun y1 y1n y2 y2n y3 y3n => ?_)
  refine tpk_3 hT ht_h0 (fun o4_x1 o4_x2 o4_x3 o4_x4 o4_x5 o4_x6 o4_x8 o4_x10 o4_x11 o4_x12 o4_x13 o4_x14 o4_x15 hf_o4 ro4_0 ro4_1 ro4_2 ro4_3 ro4_4 ro4_5 ro4_6 => ?_)
  have bo4 : o4_x12.toInt = B0 := by have q9 := hB; rw [hf_o4] at q9; exact q9
  refine tpk_pos (tp_in hG ht_h0 (by decide)) hf_o4 (fun q5 eq5 => ?_)
  have hFc := tp_fr hD hS hA
  refine va_calli (va_runV (As := []) (rest := []) ⟨hx, hb, hml, hown, hts⟩ (t_X2_readBoth1 l dC dI _ Ω κ τ ν ρ L f hG hT adK adV zv h0 B0 ht_h0 hB (by omega)) (cwV 0 hts gX2_readTest_X2_readBoth rfl rfl rfl ⟨rfl, pd_X2_readBoth⟩ ⟨Nat.le_of_ble_eq_true rfl, Nat.le_of_ble_eq_true rfl⟩) ⟨pw_blindZ, va_recv hK hP (ci := 2) (q0 := q5) rfl eq5, pw_preZ hP hK hD hN hZ hS (tp_fr hD hS hA)⟩ rfl rfl hl.1 rfl (lv_room (Nat.le_of_ble_eq_true rfl)) dX2_readTest_1 ⟨Nat.le_of_ble_eq_true rfl, Nat.le_of_ble_eq_true rfl⟩) hS (fun q _ h => hFc q h) hFc (fun r6 f8 t H1 locs ht hvm hw7 hB hz1 hk1 hS => ?_)
  refine tn_4 hw7 (fun hT hF9 hw7r hw7p => ?_); clear hw7
  have hR := hR.then hF9 (by decide)
  have hP := hB.1; rw [ht] at hP; have hD := tp_ad f8 hD; clear hB hFc hz1 hk1; subst ht; generalize t.heap = H at hP hS ⊢
  have hB := hw7p
  refine lv_if_ne (tgt := 9) hx hb dX2_readTest_4 (by decide) (fun c10 => ?_) (fun c10 => ?_)
  · have ic10 : r6.toInt ≠ 0 := zi_ne rfl rfl c10
    refine lv_iconst (v := 0) hx hb dX2_readTest_9 (by decide) ?_
    refine lv_istore_n (lv' := [(1, .int 0), (0, .ref h0)]) hx hb dX2_readTest_10 rfl hl (by decide) rfl (fun ls hl => ?_)
    refine pz_loop (fun n0 H locs ls => ∃ f12 : Nat → va_E, ∃ w11 : Int32, n0 = (400 - (w11.toInt)).toNat ∧ tp_T Ω κ τ ν ρ f12 ∧ tp_F τ [3, 20, 28] f f12 ∧ tp_fld (f12 h0) 12 = B0 ∧ (0 ≤ w11.toInt ∧ w11.toInt ≤ 400) ∧ va_P (dC, dI) vwCl (va_pl L f12) H ∧ va_D A (va_pl L f12) ∧ va_S A s.heap H locs ∧ lv_has ls 3 [(1, .int w11), (0, .ref h0)]) ?_ _ _ _ _ ⟨f8, 0, rfl, hT, hR, hB, (by have : (0 : Int32).toInt = 0 := rfl; omega), hP, hD, hS, lv_sub hl [0, 1] rfl⟩
    intro n0 H locs ls hI ih13
    refine Exists.elim hI (fun f12 hE90 => Exists.elim hE90 (fun w11 hE91 => tn_9 hE91 (fun hn14 hT hR hB rw11 hP hD hS hl => ?_)))
    clear hE91 hE90 hI
    refine lv_iload_n hx hb dX2_readTest_11 rfl (lv_at hl 0 rfl) ?_
    refine lv_sipush (v := 400) hx hb dX2_readTest_12 (by decide) ?_
    refine lv_icmp_ge (tgt := 54) hx hb dX2_readTest_15 (by decide) (fun c15 => ?_) (fun c15 => ?_)
    · have ic15 : w11.toInt ≥ 400 := zi_ge rfl rfl c15
      refine lv_iconst (v := 1) hx hb dX2_readTest_54 (by decide) ?_
      exact W.zret (v := 1) hx hb hr rfl (fun t ht hW => ⟨⟨1, f12, rfl, ⟨hT, hR, (by first | decide | omega), hB⟩, by rw [ht]; exact hP, va_K.moved hW.alike hK, hD⟩, hS.F ht⟩) hS.2.2 dX2_readTest_55
    · have ic15 : w11.toInt < 400 := zi_gef rfl rfl c15
      refine lv_aload_n hx hb dX2_readTest_18 rfl (lv_at hl 1 rfl) ?_
      refine va_ldcS hx hb hown (show vk_R RX2 127 "or" (adK 6) s from hZ.2.2.2 6 (by decide)) dX2_readTest_19 ?_
      refine tpk_3 hT ht_h0 (fun o16_x1 o16_x2 o16_x3 o16_x4 o16_x5 o16_x6 o16_x8 o16_x10 o16_x11 o16_x12 o16_x13 o16_x14 o16_x15 hf_o16 ro16_0 ro16_1 ro16_2 ro16_3 ro16_4 ro16_5 ro16_6 => ?_)
      have bo16 : o16_x12.toInt = B0 := by have q9 := hB; rw [hf_o16] at q9; exact q9
      refine tpk_pos (tp_in hG ht_h0 (by decide)) hf_o16 (fun q17 eq17 => ?_)
      have hFc := tp_fr hD hS hA
      refine va_calli (va_runV (As := [.ref (adK 6)]) (rest := []) ⟨hx, hb, hml, hown, hts⟩ (t_X2_passWord l dC dI _ Ω κ τ ν ρ L f12 hG hT adK adV zv h0 6 B0 ht_h0 (by decide) hB) (cwV 1 hts gX2_readTest_X2_passWord rfl rfl rfl ⟨rfl, pd_X2_passWord⟩ ⟨Nat.le_of_ble_eq_true rfl, Nat.le_of_ble_eq_true rfl⟩) ⟨pw_blindZ, va_recv hK hP (ci := 2) (q0 := q17) rfl eq17, pw_preZ hP hK hD hN hZ hS (tp_fr hD hS hA)⟩ rfl rfl hl.1 rfl (lv_room (Nat.le_of_ble_eq_true rfl)) dX2_readTest_21 ⟨Nat.le_of_ble_eq_true rfl, Nat.le_of_ble_eq_true rfl⟩) hS (fun q _ h => hFc q h) hFc (fun r18 f20 t H1 locs ht hvm hw19 hB hz1 hk1 hS => ?_)
      refine tn_4 hw19 (fun hT hF21 hw19r hw19p => ?_); clear hw19
      have hR := hR.then hF21 (by decide)
      have hP := hB.1; rw [ht] at hP; have hD := tp_ad f20 hD; clear hB hFc hz1 hk1; subst ht; generalize t.heap = H at hP hS ⊢
      have hB := hw19p
      refine lv_if_eq (tgt := 54) hx hb dX2_readTest_24 (by decide) (fun c22 => ?_) (fun c22 => ?_)
      · have ic22 : r18.toInt = 0 := zi_eq rfl rfl c22
        refine lv_iconst (v := 1) hx hb dX2_readTest_54 (by decide) ?_
        exact W.zret (v := 1) hx hb hr rfl (fun t ht hW => ⟨⟨1, f20, rfl, ⟨hT, hR, (by first | decide | omega), hB⟩, by rw [ht]; exact hP, va_K.moved hW.alike hK, hD⟩, hS.F ht⟩) hS.2.2 dX2_readTest_55
      · have ic22 : r18.toInt ≠ 0 := zi_eqf rfl rfl c22
        refine lv_aload_n hx hb dX2_readTest_27 rfl (lv_at hl 1 rfl) ?_
        refine lv_bipush (v := (-19)) hx hb dX2_readTest_28 (by decide) ?_
        refine tpk_3 hT ht_h0 (fun o23_x1 o23_x2 o23_x3 o23_x4 o23_x5 o23_x6 o23_x8 o23_x10 o23_x11 o23_x12 o23_x13 o23_x14 o23_x15 hf_o23 ro23_0 ro23_1 ro23_2 ro23_3 ro23_4 ro23_5 ro23_6 => ?_)
        have bo23 : o23_x12.toInt = B0 := by have q9 := hB; rw [hf_o23] at q9; exact q9
        refine tpk_pos (tp_in hG ht_h0 (by decide)) hf_o23 (fun q24 eq24 => ?_)
        have hFc := tp_fr hD hS hA
        refine va_calli (va_runV (As := [.int (-19)]) (rest := []) ⟨hx, hb, hml, hown, hts⟩ (t_X2_emitJump l dC dI _ Ω κ τ ν ρ L f20 hG hT h0 ((-19)) B0 ht_h0 (by first | decide | omega) hB) (cwV 1 hts gX2_readTest_X2_emitJump rfl rfl rfl ⟨rfl, pd_X2_emitJump⟩ ⟨Nat.le_of_ble_eq_true rfl, Nat.le_of_ble_eq_true rfl⟩) ⟨pz_blind, va_recv hK hP (ci := 2) (q0 := q24) rfl eq24, pz_pre hP hK hD hN⟩ rfl rfl hl.1 rfl (lv_room (Nat.le_of_ble_eq_true rfl)) dX2_readTest_30 ⟨Nat.le_of_ble_eq_true rfl, Nat.le_of_ble_eq_true rfl⟩) hS (fun q _ h => hFc q h) hFc (fun r25 f27 t H1 locs ht hvm hw26 hB hz1 hk1 hS => ?_)
        refine tn_4 hw26 (fun hT hF28 hw26r hw26p => ?_); clear hw26
        have hR := hR.then hF28 (by decide)
        have hP := hB.1; rw [ht] at hP; have hD := tp_ad f27 hD; clear hB hFc hz1 hk1; subst ht; generalize t.heap = H at hP hS ⊢
        have hB := hw26p
        refine lv_istore_n (lv' := [(2, .int r25), (1, .int w11), (0, .ref h0)]) hx hb dX2_readTest_33 rfl hl (by decide) rfl (fun ls hl => ?_)
        refine lv_aload_n hx hb dX2_readTest_34 rfl (lv_at hl 2 rfl) ?_
        refine tpk_3 hT ht_h0 (fun o29_x1 o29_x2 o29_x3 o29_x4 o29_x5 o29_x6 o29_x8 o29_x10 o29_x11 o29_x12 o29_x13 o29_x14 o29_x15 hf_o29 ro29_0 ro29_1 ro29_2 ro29_3 ro29_4 ro29_5 ro29_6 => ?_)
        have bo29 : o29_x12.toInt = B0 := by have q9 := hB; rw [hf_o29] at q9; exact q9
        refine tpk_pos (tp_in hG ht_h0 (by decide)) hf_o29 (fun q30 eq30 => ?_)
        have hFc := tp_fr hD hS hA
        refine va_calli (va_runV (As := []) (rest := []) ⟨hx, hb, hml, hown, hts⟩ (t_X2_readBoth1 l dC dI _ Ω κ τ ν ρ L f27 hG hT adK adV zv h0 B0 ht_h0 hB (by omega)) (cwV 0 hts gX2_readTest_X2_readBoth rfl rfl rfl ⟨rfl, pd_X2_readBoth⟩ ⟨Nat.le_of_ble_eq_true rfl, Nat.le_of_ble_eq_true rfl⟩) ⟨pw_blindZ, va_recv hK hP (ci := 2) (q0 := q30) rfl eq30, pw_preZ hP hK hD hN hZ hS (tp_fr hD hS hA)⟩ rfl rfl hl.1 rfl (lv_room (Nat.le_of_ble_eq_true rfl)) dX2_readTest_35 ⟨Nat.le_of_ble_eq_true rfl, Nat.le_of_ble_eq_true rfl⟩) hS (fun q _ h => hFc q h) hFc (fun r31 f33 t H1 locs ht hvm hw32 hB hz1 hk1 hS => ?_)
        refine tn_4 hw32 (fun hT hF34 hw32r hw32p => ?_); clear hw32
        have hR := hR.then hF34 (by decide)
        have hP := hB.1; rw [ht] at hP; have hD := tp_ad f33 hD; clear hB hFc hz1 hk1; subst ht; generalize t.heap = H at hP hS ⊢
        have hB := hw32p
        refine lv_if_ne (tgt := 43) hx hb dX2_readTest_38 (by decide) (fun c35 => ?_) (fun c35 => ?_)
        · have ic35 : r31.toInt ≠ 0 := zi_ne rfl rfl c35
          refine lv_aload_n hx hb dX2_readTest_43 rfl (lv_at hl 2 rfl) ?_
          refine lv_iload_n hx hb dX2_readTest_44 rfl (lv_at hl 0 rfl) ?_
          refine tpk_3 hT ht_h0 (fun o36_x1 o36_x2 o36_x3 o36_x4 o36_x5 o36_x6 o36_x8 o36_x10 o36_x11 o36_x12 o36_x13 o36_x14 o36_x15 hf_o36 ro36_0 ro36_1 ro36_2 ro36_3 ro36_4 ro36_5 ro36_6 => ?_)
          have bo36 : o36_x12.toInt = B0 := by have q9 := hB; rw [hf_o36] at q9; exact q9
          refine tpk_pos (tp_in hG ht_h0 (by decide)) hf_o36 (fun q37 eq37 => ?_)
          have hFc := tp_fr hD hS hA
          refine va_callv (va_runV (As := [.int r25]) (rest := []) ⟨hx, hb, hml, hown, hts⟩ (t_X2_land l dC dI _ Ω κ τ ν ρ L f33 hG hT h0 r25 B0 ht_h0 hB) (cwV 1 hts gX2_readTest_X2_land rfl rfl rfl ⟨rfl, pd_X2_land⟩ ⟨Nat.le_of_ble_eq_true rfl, Nat.le_of_ble_eq_true rfl⟩) ⟨pz_blind, va_recv hK hP (ci := 2) (q0 := q37) rfl eq37, pz_pre hP hK hD hN⟩ rfl rfl hl.1 rfl (lv_room (Nat.le_of_ble_eq_true rfl)) dX2_readTest_45 ⟨Nat.le_of_ble_eq_true rfl, Nat.le_of_ble_eq_true rfl⟩) hS (fun q _ h => hFc q h) hFc (fun f40 t H1 locs ht hvm hw39 hB hz1 hk1 hS => ?_)
          refine tn_3 hw39 (fun hT hF41 hw39p => ?_); clear hw39
          have hR := hR.then hF41 (by decide)
          have hP := hB.1; rw [ht] at hP; have hD := tp_ad f40 hD; clear hB hFc hz1 hk1; subst ht; generalize t.heap = H at hP hS ⊢
          have hB := hw39p
          obtain ⟨z42, ez42⟩ : ∃ y : Int32, y = w11 + 1 := ⟨_, rfl⟩
          refine lv_iinc (v := z42) (lv' := [(1, .int z42), (2, .int r25), (0, .ref h0)]) hx hb dX2_readTest_48 hl (k := 1) rfl (by rw [ez42]; rfl) (by decide) rfl (fun ls hl => ?_)
          have iz42 : z42.toInt = w11.toInt + 1 := zi_add ez42 rfl rfl (by omega) (by omega)
          refine lv_goto (tgt := 11) hx hb dX2_readTest_51 (by decide) ?_
          exact ih13 _ _ _ _ (by rw [hn14]; omega) ⟨f40, z42, rfl, hT, hR, hB, (by omega), hP, hD, hS, lv_sub hl [0, 2] rfl⟩
        · have ic35 : r31.toInt = 0 := zi_nef rfl rfl c35
          refine lv_iconst (v := 0) hx hb dX2_readTest_41 (by decide) ?_
          exact W.zret (v := 0) hx hb hr rfl (fun t ht hW => ⟨⟨0, f33, rfl, ⟨hT, hR, (by first | decide | omega), hB⟩, by rw [ht]; exact hP, va_K.moved hW.alike hK, hD⟩, hS.F ht⟩) hS.2.2 dX2_readTest_42
  · have ic10 : r6.toInt = 0 := zi_nef rfl rfl c10
    refine lv_iconst (v := 0) hx hb dX2_readTest_7 (by decide) ?_
    exact W.zret (v := 0) hx hb hr rfl (fun t ht hW => ⟨⟨0, f8, rfl, ⟨hT, hR, (by first | decide | omega), hB⟩, by rw [ht]; exact hP, va_K.moved hW.alike hK, hD⟩, hS.F ht⟩) hS.2.2 dX2_readTest_8
end

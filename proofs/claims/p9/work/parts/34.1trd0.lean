section
set_option maxHeartbeats 4000000 in
set_option maxRecDepth 100000 in
theorem t_X2_readInBrackets0 (l : Launch) (dC : Nat → ClassId) (dI : Nat → Nat → Nat) (sz : Nat) (Ω : Nat → Nat → (Nat → Nat) → va_E → Prop) (κ : Nat → ClassId) (τ ν : Nat → Nat) (ρ : Nat → Nat → Nat) (L : List Nat) (f : Nat → va_E) (hG : tp_G τ ν ρ L) (hT : tp_T Ω κ τ ν ρ f) (adK adV : Nat → Nat) (zv : Option Nat) (h0 : Nat) (v : Int32) (B0 : Int) (ht_h0 : τ h0 = 3) (hr_v : 0 ≤ v.toInt ∧ v.toInt ≤ 1) (hB : tp_fld (f h0) 12 = B0) (hBr : B0 = 0) : Met l yX2_readInBrackets wqX2_readInBrackets ({ frames := 72, cells := 0, slots := 0, locals := 28400 }) (va_Pc [.ref h0, .int v] (pw_BZ dC dI (tp_K κ) (va_pl L f) sz adK adV zv)) (va_Qi (fun (r : Int32) (f1 : Nat → va_E) => tp_T Ω κ τ ν ρ f1 ∧ tp_F τ [3, 20, 28] f f1 ∧ (0 ≤ r.toInt ∧ r.toInt ≤ 1) ∧ tp_fld (f1 h0) 12 = B0) (fun (f1 : Nat → va_E) (t : State) => pz_E dC dI (tp_K κ) (va_A (va_pl L f) sz) (va_pl L f1) t) (va_A (va_pl L f) sz)) 0 0 (va_A (va_pl L f) sz) := by
  refine Met.ofW (cc := cX2_readInBrackets) (maxL := 3) (ret := some .boolean) (by decide) rfl ?_
  intro p e s m args below meth c s₁ B hml hv
  obtain ⟨rfl, ⟨hsz, hP, hK, hD0, hN⟩, hZ⟩ := hv
  have hx := B.exec
  have hb := B.bytes
  have hr := B.returns
  have hts := fun (w : Cond) (h : w ∈ WALL) => atoms_spec (ws := wqX2_readInBrackets) B.pre w (List.mem_cons_of_mem _ h)
  have hown : s.vm.findClass RX2 = some m.cls := findClass_of_methodNamed B.named
  have hlocks := B.notSynchronized
  subst hsz
  have hD := hD0.self (sz := s.heap.size)
  generalize hAe : va_A (va_pl L f) s.heap.size = A at hD hZ ⊢
  have hA : ∀ q : Nat, s.heap.size ≤ q → A q := fun q h => by rw [← hAe]; exact Or.inr h
  have hS : va_S A s.heap s.heap [] := va_S.rf
  have hR : tp_F τ [3, 20, 28] f f := tp_F.rf
  have hl := lv_entry ([.ref h0, .int v]) (n := 3) (Nat.le_of_ble_eq_true rfl)
  rw [lg_entry_eq]
  generalize (lg_sl ([.ref h0, .int v]) ++ List.replicate (3 - (lg_sl ([.ref h0, .int v])).length) Slot.unset).toArray = ls at hl ⊢
  have hl : lv_has ls 3 [(0, .ref h0), (1, .int v)] := hl
  refine lv_aload_n hx hb dX2_readInBrackets_0 rfl (lv_at hl 0 rfl) ?_
  refine tgk_3 hG ht_h0 (fun y1 y1n y2 y2n y3 y3n => ?_)
  refine tpk_3 hT ht_h0 (fun o4_x1 o4_x2 o4_x3 o4_x4 o4_x5 o4_x6 o4_x8 o4_x10 o4_x11 o4_x12 o4_x13 o4_x14 o4_x15 hf_o4 ro4_0 ro4_1 ro4_2 ro4_3 ro4_4 ro4_5 ro4_6 => ?_)
  have bo4 : o4_x12.toInt = B0 := by have q9 := hB; rw [hf_o4] at q9; exact q9
  refine tpk_pos (tp_in hG ht_h0 (by decide)) hf_o4 (fun q5 eq5 => ?_)
  refine va_get (D := (dC, dI)) (ci := 2) (v := .int o4_x12) (C := RX2) (T := TX2) (N := 16) hx hb hts hfX2 hown hK hP q5 eq5 rfl 12 (by decide) (hts (.fieldLink RX2 41 "ColdShips$Reader" "brackets" "I") wa_799) (fun _ h9 => h9) rfl dX2_readInBrackets_1 ?_
  refine lv_bipush (v := 8) hx hb dX2_readInBrackets_4 (by decide) ?_
  refine lv_icmp_lt (tgt := 11) hx hb dX2_readInBrackets_6 (by decide) (fun c6 => ?_) (fun c6 => ?_)
  · have ic6 : o4_x12.toInt < 8 := zi_lt rfl rfl c6
    refine lv_aload_n hx hb dX2_readInBrackets_11 rfl (lv_at hl 0 rfl) ?_
    refine lv_dup hx hb dX2_readInBrackets_12 rfl ?_
    refine va_get (D := (dC, dI)) (ci := 2) (v := .int o4_x12) (C := RX2) (T := TX2) (N := 16) hx hb hts hfX2 hown hK hP q5 eq5 rfl 12 (by decide) (hts (.fieldLink RX2 41 "ColdShips$Reader" "brackets" "I") wa_799) (fun _ h9 => h9) rfl dX2_readInBrackets_13 ?_
    refine lv_iconst (v := 1) hx hb dX2_readInBrackets_16 (by decide) ?_
    refine lv_iadd hx hb dX2_readInBrackets_17 ?_
    refine lv_topi (fun z7 ez7 => ?_)
    have iz7 : z7.toInt = o4_x12.toInt + 1 := zi_add ez7 rfl rfl (by omega) (by omega)
    refine va_put (D := (dC, dI)) (ci := 2) (v := .int z7) (ty := .int) (C := RX2) (T := TX2) (N := 16) hx hb hts hfX2 tyX2 tyX2_ok nmX2 hown hK hP hD hS q5 eq5 rfl 12 (by decide) (hts (.fieldLink RX2 41 "ColdShips$Reader" "brackets" "I") wa_799) (fun _ h9 => h9) rfl (tyX2_ok 12 (by decide)) rfl rfl (Nat.le_of_ble_eq_true rfl) dX2_readInBrackets_18 (tp_k (.inr (2, [.ref (ρ h0 0), .int o4_x1, .int o4_x2, .int o4_x3, .int o4_x4, .int o4_x5, .int o4_x6, .ref (ρ h0 7), .int o4_x8, .ref (ρ h0 9), .int o4_x10, .int o4_x11, .int z7, .int o4_x13, .int o4_x14, .int o4_x15])) hD (tp_in hG ht_h0 (by decide)) eq5 (fun f8 H locs hP hD hS g10 k9 => ?_))
    have hT := hT.up ht_h0 g10 k9 ⟨_, _, _, _, _, _, _, _, _, _, _, _, _, rfl, ro4_0, ro4_1, ro4_2, ro4_3, ro4_4, ro4_5, ro4_6⟩
    have hR := hR.up ht_h0 (by decide) k9
    have hB : tp_fld (f8 h0) 12 = z7.toInt := by rw [g10]; show (z7).toInt = z7.toInt; rfl
    refine lv_aload_n hx hb dX2_readInBrackets_21 rfl (lv_at hl 0 rfl) ?_
    refine tpk_pos (tp_in hG ht_h0 (by decide)) g10 (fun q11 eq11 => ?_)
    have hFc := tp_fr hD hS hA
    refine va_callv (va_runV (As := []) (rest := []) ⟨hx, hb, hml, hown, hts⟩ (t_X2_advance l dC dI _ Ω κ τ ν ρ L f8 hG hT h0 z7.toInt ht_h0 hB) (cwV 0 hts gX2_readInBrackets_X2_advance rfl rfl rfl ⟨rfl, pd_X2_advance⟩ ⟨Nat.le_of_ble_eq_true rfl, Nat.le_of_ble_eq_true rfl⟩) ⟨pz_blind, va_recv hK hP (ci := 2) (q0 := q11) rfl eq11, pz_pre hP hK hD hN⟩ rfl rfl hl.1 rfl (lv_room (Nat.le_of_ble_eq_true rfl)) dX2_readInBrackets_22 ⟨Nat.le_of_ble_eq_true rfl, Nat.le_of_ble_eq_true rfl⟩) hS (fun q _ h => hFc q h) hFc (fun f14 t H1 locs ht hvm hw13 hB hz1 hk1 hS => ?_)
    refine tn_3 hw13 (fun hT hF15 hw13p => ?_); clear hw13
    have hR := hR.then hF15 (by decide)
    have hP := hB.1; rw [ht] at hP; have hD := tp_ad f14 hD; clear hB hFc hz1 hk1; subst ht; generalize t.heap = H at hP hS ⊢
    have hB := hw13p
    refine lv_iload_n hx hb dX2_readInBrackets_25 rfl (lv_at hl 1 rfl) ?_
    refine tp_join 40 (fun H locs ls stk => ∃ f18 : Nat → va_E, ∃ w16 : Int32, stk = [.int w16] ∧ tp_T Ω κ τ ν ρ f18 ∧ tp_F τ [3, 20, 28] f f18 ∧ tp_fld (f18 h0) 12 = z7.toInt ∧ (0 ≤ w16.toInt ∧ w16.toInt ≤ 1) ∧ va_P (dC, dI) vwCl (va_pl L f18) H ∧ va_D A (va_pl L f18) ∧ va_S A s.heap H locs ∧ lv_has ls 3 [(0, .ref h0), (1, .int v)]) ?_ (fun hj17 => ?_)
    · intro H locs ls stk hI
      refine Exists.elim hI (fun f18 hE90 => Exists.elim hE90 (fun w16 hE91 => tn_9 hE91 (fun e90 hT hR hB rw16 hP hD hS hl => ?_)))
      clear hE91 hE90 hI; subst e90
      refine lv_istore_n (lv' := [(2, .int w16), (0, .ref h0), (1, .int v)]) hx hb dX2_readInBrackets_40 rfl hl (by decide) rfl (fun ls hl => ?_)
      refine lv_aload_n hx hb dX2_readInBrackets_41 rfl (lv_at hl 1 rfl) ?_
      refine lv_dup hx hb dX2_readInBrackets_42 rfl ?_
      refine tpk_3 hT ht_h0 (fun o19_x1 o19_x2 o19_x3 o19_x4 o19_x5 o19_x6 o19_x8 o19_x10 o19_x11 o19_x12 o19_x13 o19_x14 o19_x15 hf_o19 ro19_0 ro19_1 ro19_2 ro19_3 ro19_4 ro19_5 ro19_6 => ?_)
      have bo19 : o19_x12.toInt = z7.toInt := by have q9 := hB; rw [hf_o19] at q9; exact q9
      refine tpk_pos (tp_in hG ht_h0 (by decide)) hf_o19 (fun q20 eq20 => ?_)
      refine va_get (D := (dC, dI)) (ci := 2) (v := .int o19_x12) (C := RX2) (T := TX2) (N := 16) hx hb hts hfX2 hown hK hP q20 eq20 rfl 12 (by decide) (hts (.fieldLink RX2 41 "ColdShips$Reader" "brackets" "I") wa_799) (fun _ h9 => h9) rfl dX2_readInBrackets_43 ?_
      refine lv_iconst (v := 1) hx hb dX2_readInBrackets_46 (by decide) ?_
      refine lv_isub hx hb dX2_readInBrackets_47 ?_
      refine lv_topi (fun z21 ez21 => ?_)
      have iz21 : z21.toInt = o19_x12.toInt - 1 := zi_sub ez21 rfl rfl (by omega) (by omega)
      refine va_put (D := (dC, dI)) (ci := 2) (v := .int z21) (ty := .int) (C := RX2) (T := TX2) (N := 16) hx hb hts hfX2 tyX2 tyX2_ok nmX2 hown hK hP hD hS q20 eq20 rfl 12 (by decide) (hts (.fieldLink RX2 41 "ColdShips$Reader" "brackets" "I") wa_799) (fun _ h9 => h9) rfl (tyX2_ok 12 (by decide)) rfl rfl (Nat.le_of_ble_eq_true rfl) dX2_readInBrackets_48 (tp_k (.inr (2, [.ref (ρ h0 0), .int o19_x1, .int o19_x2, .int o19_x3, .int o19_x4, .int o19_x5, .int o19_x6, .ref (ρ h0 7), .int o19_x8, .ref (ρ h0 9), .int o19_x10, .int o19_x11, .int z21, .int o19_x13, .int o19_x14, .int o19_x15])) hD (tp_in hG ht_h0 (by decide)) eq20 (fun f22 H locs hP hD hS g24 k23 => ?_))
      have hT := hT.up ht_h0 g24 k23 ⟨_, _, _, _, _, _, _, _, _, _, _, _, _, rfl, ro19_0, ro19_1, ro19_2, ro19_3, ro19_4, ro19_5, ro19_6⟩
      have hR := hR.up ht_h0 (by decide) k23
      have hB : tp_fld (f22 h0) 12 = z21.toInt := by rw [g24]; show (z21).toInt = z21.toInt; rfl
      refine lv_iload_n hx hb dX2_readInBrackets_51 rfl (lv_at hl 0 rfl) ?_
      refine lv_if_eq (tgt := 77) hx hb dX2_readInBrackets_52 (by decide) (fun c25 => ?_) (fun c25 => ?_)
      · have ic25 : w16.toInt = 0 := zi_eq rfl rfl c25
        refine lv_iconst (v := 0) hx hb dX2_readInBrackets_77 (by decide) ?_
        exact W.zret (v := 0) hx hb hr rfl (fun t ht hW => ⟨⟨0, f22, rfl, ⟨hT, hR, (by first | decide | omega), (hB.trans (by omega))⟩, by rw [ht]; exact hP, va_K.moved hW.alike hK, hD⟩, hS.F ht⟩) hS.2.2 dX2_readInBrackets_78
      · have ic25 : w16.toInt ≠ 0 := zi_eqf rfl rfl c25
        refine lv_aload_n hx hb dX2_readInBrackets_55 rfl (lv_at hl 1 rfl) ?_
        refine lv_iload_n hx hb dX2_readInBrackets_56 rfl (lv_at hl 2 rfl) ?_
        refine lv_if_eq (tgt := 65) hx hb dX2_readInBrackets_57 (by decide) (fun c26 => ?_) (fun c26 => ?_)
        · have ic26 : v.toInt = 0 := zi_eq rfl rfl c26
          refine lv_bipush (v := 93) hx hb dX2_readInBrackets_65 (by decide) ?_
          refine tpk_pos (tp_in hG ht_h0 (by decide)) g24 (fun q27 eq27 => ?_)
          have hFc := tp_fr hD hS hA
          refine va_calli (va_runV (As := [.int 93]) (rest := []) ⟨hx, hb, hml, hown, hts⟩ (t_X2_passSign l dC dI _ Ω κ τ ν ρ L f22 hG hT h0 (93) z21.toInt ht_h0 hB) (cwV 1 hts gX2_readInBrackets_X2_passSign rfl rfl rfl ⟨rfl, pd_X2_passSign⟩ ⟨Nat.le_of_ble_eq_true rfl, Nat.le_of_ble_eq_true rfl⟩) ⟨pz_blind, va_recv hK hP (ci := 2) (q0 := q27) rfl eq27, pz_pre hP hK hD hN⟩ rfl rfl hl.1 rfl (lv_room (Nat.le_of_ble_eq_true rfl)) dX2_readInBrackets_67 ⟨Nat.le_of_ble_eq_true rfl, Nat.le_of_ble_eq_true rfl⟩) hS (fun q _ h => hFc q h) hFc (fun r28 f30 t H1 locs ht hvm hw29 hB hz1 hk1 hS => ?_)
          refine tn_4 hw29 (fun hT hF31 hw29r hw29p => ?_); clear hw29
          have hR := hR.then hF31 (by decide)
          have hP := hB.1; rw [ht] at hP; have hD := tp_ad f30 hD; clear hB hFc hz1 hk1; subst ht; generalize t.heap = H at hP hS ⊢
          have hB := hw29p
          refine lv_if_eq (tgt := 77) hx hb dX2_readInBrackets_70 (by decide) (fun c32 => ?_) (fun c32 => ?_)
          · have ic32 : r28.toInt = 0 := zi_eq rfl rfl c32
            refine lv_iconst (v := 0) hx hb dX2_readInBrackets_77 (by decide) ?_
            exact W.zret (v := 0) hx hb hr rfl (fun t ht hW => ⟨⟨0, f30, rfl, ⟨hT, hR, (by first | decide | omega), (hB.trans (by omega))⟩, by rw [ht]; exact hP, va_K.moved hW.alike hK, hD⟩, hS.F ht⟩) hS.2.2 dX2_readInBrackets_78
          · have ic32 : r28.toInt ≠ 0 := zi_eqf rfl rfl c32
            refine lv_iconst (v := 1) hx hb dX2_readInBrackets_73 (by decide) ?_
            refine lv_goto (tgt := 78) hx hb dX2_readInBrackets_74 (by decide) ?_
            exact W.zret (v := 1) hx hb hr rfl (fun t ht hW => ⟨⟨1, f30, rfl, ⟨hT, hR, (by first | decide | omega), (hB.trans (by omega))⟩, by rw [ht]; exact hP, va_K.moved hW.alike hK, hD⟩, hS.F ht⟩) hS.2.2 dX2_readInBrackets_78
        · have ic26 : v.toInt ≠ 0 := zi_eqf rfl rfl c26
          refine lv_bipush (v := 41) hx hb dX2_readInBrackets_60 (by decide) ?_
          refine lv_goto (tgt := 67) hx hb dX2_readInBrackets_62 (by decide) ?_
          refine tpk_pos (tp_in hG ht_h0 (by decide)) g24 (fun q33 eq33 => ?_)
          have hFc := tp_fr hD hS hA
          refine va_calli (va_runV (As := [.int 41]) (rest := []) ⟨hx, hb, hml, hown, hts⟩ (t_X2_passSign l dC dI _ Ω κ τ ν ρ L f22 hG hT h0 (41) z21.toInt ht_h0 hB) (cwV 1 hts gX2_readInBrackets_X2_passSign rfl rfl rfl ⟨rfl, pd_X2_passSign⟩ ⟨Nat.le_of_ble_eq_true rfl, Nat.le_of_ble_eq_true rfl⟩) ⟨pz_blind, va_recv hK hP (ci := 2) (q0 := q33) rfl eq33, pz_pre hP hK hD hN⟩ rfl rfl hl.1 rfl (lv_room (Nat.le_of_ble_eq_true rfl)) dX2_readInBrackets_67 ⟨Nat.le_of_ble_eq_true rfl, Nat.le_of_ble_eq_true rfl⟩) hS (fun q _ h => hFc q h) hFc (fun r34 f36 t H1 locs ht hvm hw35 hB hz1 hk1 hS => ?_)
          refine tn_4 hw35 (fun hT hF37 hw35r hw35p => ?_); clear hw35
          have hR := hR.then hF37 (by decide)
          have hP := hB.1; rw [ht] at hP; have hD := tp_ad f36 hD; clear hB hFc hz1 hk1; subst ht; generalize t.heap = H at hP hS ⊢
          have hB := hw35p
          refine lv_if_eq (tgt := 77) hx hb dX2_readInBrackets_70 (by decide) (fun c38 => ?_) (fun c38 => ?_)
          · have ic38 : r34.toInt = 0 := zi_eq rfl rfl c38
            refine lv_iconst (v := 0) hx hb dX2_readInBrackets_77 (by decide) ?_
            exact W.zret (v := 0) hx hb hr rfl (fun t ht hW => ⟨⟨0, f36, rfl, ⟨hT, hR, (by first | decide | omega), (hB.trans (by omega))⟩, by rw [ht]; exact hP, va_K.moved hW.alike hK, hD⟩, hS.F ht⟩) hS.2.2 dX2_readInBrackets_78
          · have ic38 : r34.toInt ≠ 0 := zi_eqf rfl rfl c38
            refine lv_iconst (v := 1) hx hb dX2_readInBrackets_73 (by decide) ?_
            refine lv_goto (tgt := 78) hx hb dX2_readInBrackets_74 (by decide) ?_
            exact W.zret (v := 1) hx hb hr rfl (fun t ht hW => ⟨⟨1, f36, rfl, ⟨hT, hR, (by first | decide | omega), (hB.trans (by omega))⟩, by rw [ht]; exact hP, va_K.moved hW.alike hK, hD⟩, hS.F ht⟩) hS.2.2 dX2_readInBrackets_78
    · refine lv_if_eq (tgt := 36) hx hb dX2_readInBrackets_26 (by decide) (fun c39 => ?_) (fun c39 => ?_)
      · have ic39 : v.toInt = 0 := zi_eq rfl rfl c39
        refine lv_aload_n hx hb dX2_readInBrackets_36 rfl (lv_at hl 0 rfl) ?_
        refine tpk_3 hT ht_h0 (fun o40_x1 o40_x2 o40_x3 o40_x4 o40_x5 o40_x6 o40_x8 o40_x10 o40_x11 o40_x12 o40_x13 o40_x14 o40_x15 hf_o40 ro40_0 ro40_1 ro40_2 ro40_3 ro40_4 ro40_5 ro40_6 => ?_)
        have bo40 : o40_x12.toInt = z7.toInt := by have q9 := hB; rw [hf_o40] at q9; exact q9
        refine tpk_pos (tp_in hG ht_h0 (by decide)) hf_o40 (fun q41 eq41 => ?_)
        have hFc := tp_fr hD hS hA
        refine va_calli (va_runV (As := []) (rest := []) ⟨hx, hb, hml, hown, hts⟩ (t_X2_readSum1 l dC dI _ Ω κ τ ν ρ L f14 hG hT adK adV zv h0 z7.toInt ht_h0 hB (by omega)) (cwV 0 hts gX2_readInBrackets_X2_readSum rfl rfl rfl ⟨rfl, pd_X2_readSum⟩ ⟨Nat.le_of_ble_eq_true rfl, Nat.le_of_ble_eq_true rfl⟩) ⟨pw_blindZ, va_recv hK hP (ci := 2) (q0 := q41) rfl eq41, pw_preZ hP hK hD hN hZ hS (tp_fr hD hS hA)⟩ rfl rfl hl.1 rfl (lv_room (Nat.le_of_ble_eq_true rfl)) dX2_readInBrackets_37 ⟨Nat.le_of_ble_eq_true rfl, Nat.le_of_ble_eq_true rfl⟩) hS (fun q _ h => hFc q h) hFc (fun r42 f44 t H1 locs ht hvm hw43 hB hz1 hk1 hS => ?_)
        refine tn_4 hw43 (fun hT hF45 hw43r hw43p => ?_); clear hw43
        have hR := hR.then hF45 (by decide)
        have hP := hB.1; rw [ht] at hP; have hD := tp_ad f44 hD; clear hB hFc hz1 hk1; subst ht; generalize t.heap = H at hP hS ⊢
        have hB := hw43p
        exact hj17 _ _ _ _ ⟨f44, r42, rfl, hT, hR, hB, (by omega), hP, hD, hS, lv_sub hl [0, 1] rfl⟩
      · have ic39 : v.toInt ≠ 0 := zi_eqf rfl rfl c39
        refine lv_aload_n hx hb dX2_readInBrackets_29 rfl (lv_at hl 0 rfl) ?_
        refine tpk_3 hT ht_h0 (fun o46_x1 o46_x2 o46_x3 o46_x4 o46_x5 o46_x6 o46_x8 o46_x10 o46_x11 o46_x12 o46_x13 o46_x14 o46_x15 hf_o46 ro46_0 ro46_1 ro46_2 ro46_3 ro46_4 ro46_5 ro46_6 => ?_)
        have bo46 : o46_x12.toInt = z7.toInt := by have q9 := hB; rw [hf_o46] at q9; exact q9
        refine tpk_pos (tp_in hG ht_h0 (by decide)) hf_o46 (fun q47 eq47 => ?_)
        have hFc := tp_fr hD hS hA
        refine va_calli (va_runV (As := []) (rest := []) ⟨hx, hb, hml, hown, hts⟩ (t_X2_readTest1 l dC dI _ Ω κ τ ν ρ L f14 hG hT adK adV zv h0 z7.toInt ht_h0 hB (by omega)) (cwV 0 hts gX2_readInBrackets_X2_readTest rfl rfl rfl ⟨rfl, pd_X2_readTest⟩ ⟨Nat.le_of_ble_eq_true rfl, Nat.le_of_ble_eq_true rfl⟩) ⟨pw_blindZ, va_recv hK hP (ci := 2) (q0 := q47) rfl eq47, pw_preZ hP hK hD hN hZ hS (tp_fr hD hS hA)⟩ rfl rfl hl.1 rfl (lv_room (Nat.le_of_ble_eq_true rfl)) dX2_readInBrackets_30 ⟨Nat.le_of_ble_eq_true rfl, Nat.le_of_ble_eq_true rfl⟩) hS (fun q _ h => hFc q h) hFc (fun r48 f50 t H1 locs ht hvm hw49 hB hz1 hk1 hS => ?_)
        refine tn_4 hw49 (fun hT hF51 hw49r hw49p => ?_); clear hw49
        have hR := hR.then hF51 (by decide)
        have hP := hB.1; rw [ht] at hP; have hD := tp_ad f50 hD; clear hB hFc hz1 hk1; subst ht; generalize t.heap = H at hP hS ⊢
        have hB := hw49p
        refine lv_goto (tgt := 40) hx hb dX2_readInBrackets_33 (by decide) ?_
        exact hj17 _ _ _ _ ⟨f50, r48, rfl, hT, hR, hB, (by omega), hP, hD, hS, lv_sub hl [0, 1] rfl⟩
  · have ic6 : o4_x12.toInt ≥ 8 := zi_ltf rfl rfl c6
    exfalso; omega
set_option maxHeartbeats 4000000 in
set_option maxRecDepth 100000 in
theorem t_X2_readPart0 (l : Launch) (dC : Nat → ClassId) (dI : Nat → Nat → Nat) (sz : Nat) (Ω : Nat → Nat → (Nat → Nat) → va_E → Prop) (κ : Nat → ClassId) (τ ν : Nat → Nat) (ρ : Nat → Nat → Nat) (L : List Nat) (f : Nat → va_E) (hG : tp_G τ ν ρ L) (hT : tp_T Ω κ τ ν ρ f) (adK adV : Nat → Nat) (zv : Option Nat) (h0 : Nat) (B0 : Int) (ht_h0 : τ h0 = 3) (hB : tp_fld (f h0) 12 = B0) (hBr : B0 = 0) : Met l yX2_readPart wqX2_readPart ({ frames := 73, cells := 0, slots := 0, locals := 28800 }) (va_Pc [.ref h0] (pw_BZ dC dI (tp_K κ) (va_pl L f) sz adK adV zv)) (va_Qi (fun (r : Int32) (f1 : Nat → va_E) => tp_T Ω κ τ ν ρ f1 ∧ tp_F τ [3, 20, 28] f f1 ∧ (0 ≤ r.toInt ∧ r.toInt ≤ 1) ∧ tp_fld (f1 h0) 12 = B0) (fun (f1 : Nat → va_E) (t : State) => pz_E dC dI (tp_K κ) (va_A (va_pl L f) sz) (va_pl L f1) t) (va_A (va_pl L f) sz)) 0 0 (va_A (va_pl L f) sz) := by
  refine Met.ofW (cc := cX2_readPart) (maxL := 2) (ret := some .boolean) (by decide) rfl ?_
  intro p e s m args below meth c s₁ B hml hv
  obtain ⟨rfl, ⟨hsz, hP, hK, hD0, hN⟩, hZ⟩ := hv
  have hx := B.exec
  have hb := B.bytes
  have hr := B.returns
  have hts := fun (w : Cond) (h : w ∈ WALL) => atoms_spec (ws := wqX2_readPart) B.pre w (List.mem_cons_of_mem _ h)
  have hown : s.vm.findClass RX2 = some m.cls := findClass_of_methodNamed B.named
  have hlocks := B.notSynchronized
  subst hsz
  have hD := hD0.self (sz := s.heap.size)
  generalize hAe : va_A (va_pl L f) s.heap.size = A at hD hZ ⊢
  have hA : ∀ q : Nat, s.heap.size ≤ q → A q := fun q h => by rw [← hAe]; exact Or.inr h
  have hS : va_S A s.heap s.heap [] := va_S.rf
  have hR : tp_F τ [3, 20, 28] f f := tp_F.rf
  have hl := lv_entry ([.ref h0]) (n := 2) (Nat.le_of_ble_eq_true rfl)
  rw [lg_entry_eq]
  generalize (lg_sl ([.ref h0]) ++ List.replicate (2 - (lg_sl ([.ref h0])).length) Slot.unset).toArray = ls at hl ⊢
  have hl : lv_has ls 2 [(0, .ref h0)] := hl
  refine lv_aload_n hx hb dX2_readPart_0 rfl (lv_at hl 0 rfl) ?_
  refine lv_bipush (v := 91) hx hb dX2_readPart_1 (by decide) ?_
  refine tgk_3 hG ht_h0 (fun y1 y1n y2 y2n y3 y3n => ?_)
  refine tpk_3 hT ht_h0 (fun o4_x1 o4_x2 o4_x3 o4_x4 o4_x5 o4_x6 o4_x8 o4_x10 o4_x11 o4_x12 o4_x13 o4_x14 o4_x15 hf_o4 ro4_0 ro4_1 ro4_2 ro4_3 ro4_4 ro4_5 ro4_6 => ?_)
  have bo4 : o4_x12.toInt = B0 := by have q9 := hB; rw [hf_o4] at q9; exact q9
  refine tpk_pos (tp_in hG ht_h0 (by decide)) hf_o4 (fun q5 eq5 => ?_)
  refine pz_calli (va_runV (As := [.int 91]) (rest := []) ⟨hx, hb, hml, hown, hts⟩ (t_X2_isSign l dC dI _ Ω κ τ ν ρ L f hG hT h0 (91) ht_h0) (cwV 1 hts gX2_readPart_X2_isSign rfl rfl rfl ⟨rfl, pd_X2_isSign⟩ ⟨Nat.le_of_ble_eq_true rfl, Nat.le_of_ble_eq_true rfl⟩) ⟨pz_blind, va_recv hK hP (ci := 2) (q0 := q5) rfl eq5, pz_pre hP hK hD hN⟩ rfl rfl hl.1 rfl (lv_room (Nat.le_of_ble_eq_true rfl)) dX2_readPart_3 ⟨Nat.le_of_ble_eq_true rfl, Nat.le_of_ble_eq_true rfl⟩) (fun r6 hw7 => ?_)
  obtain ⟨hw7r, hw7p⟩ := hw7
  refine lv_if_eq (tgt := 15) hx hb dX2_readPart_6 (by decide) (fun c8 => ?_) (fun c8 => ?_)
  · have ic8 : r6.toInt = 0 := zi_eq rfl rfl c8
    refine lv_aload_n hx hb dX2_readPart_15 rfl (lv_at hl 0 rfl) ?_
    refine pz_calli (va_runV (As := []) (rest := []) ⟨hx, hb, hml, hown, hts⟩ (t_X2_leafHere l dC dI _ Ω κ τ ν ρ L f hG hT adK adV zv h0 ht_h0) (cwV 0 hts gX2_readPart_X2_leafHere rfl rfl rfl ⟨rfl, pd_X2_leafHere⟩ ⟨Nat.le_of_ble_eq_true rfl, Nat.le_of_ble_eq_true rfl⟩) ⟨pw_blindZ, va_recv hK hP (ci := 2) (q0 := q5) rfl eq5, pw_preZ hP hK hD hN hZ hS (tp_fr hD hS hA)⟩ rfl rfl hl.1 rfl (lv_room (Nat.le_of_ble_eq_true rfl)) dX2_readPart_16 ⟨Nat.le_of_ble_eq_true rfl, Nat.le_of_ble_eq_true rfl⟩) (fun r9 hw10 => ?_)
    obtain ⟨hw10r, hw10p⟩ := hw10
    refine lv_istore_n (lv' := [(1, .int r9), (0, .ref h0)]) hx hb dX2_readPart_19 rfl hl (by decide) rfl (fun ls hl => ?_)
    refine lv_iload_n hx hb dX2_readPart_20 rfl (lv_at hl 0 rfl) ?_
    refine lv_sipush (v := (-1000)) hx hb dX2_readPart_21 (by decide) ?_
    refine lv_icmp_eq (tgt := 36) hx hb dX2_readPart_24 (by decide) (fun c11 => ?_) (fun c11 => ?_)
    · have ic11 : r9.toInt = (-1000) := zi_eq rfl rfl c11
      refine lv_iconst (v := 0) hx hb dX2_readPart_36 (by decide) ?_
      exact W.zret (v := 0) hx hb hr rfl (fun t ht hW => ⟨⟨0, f, rfl, ⟨hT, hR, (by first | decide | omega), hB⟩, by rw [ht]; exact hP, va_K.moved hW.alike hK, hD⟩, hS.F ht⟩) hS.2.2 dX2_readPart_37
    · have ic11 : r9.toInt ≠ (-1000) := zi_eqf rfl rfl c11
      refine lv_aload_n hx hb dX2_readPart_27 rfl (lv_at hl 1 rfl) ?_
      refine va_get (D := (dC, dI)) (ci := 2) (v := .int o4_x11) (C := RX2) (T := TX2) (N := 16) hx hb hts hfX2 hown hK hP q5 eq5 rfl 11 (by decide) (hts (.fieldLink RX2 38 "ColdShips$Reader" "leaves" "I") wa_798) (fun _ h9 => h9) rfl dX2_readPart_28 ?_
      refine lv_bipush (v := 50) hx hb dX2_readPart_31 (by decide) ?_
      refine lv_icmp_lt (tgt := 38) hx hb dX2_readPart_33 (by decide) (fun c12 => ?_) (fun c12 => ?_)
      · have ic12 : o4_x11.toInt < 50 := zi_lt rfl rfl c12
        refine lv_aload_n hx hb dX2_readPart_38 rfl (lv_at hl 1 rfl) ?_
        refine lv_dup hx hb dX2_readPart_39 rfl ?_
        refine va_get (D := (dC, dI)) (ci := 2) (v := .int o4_x11) (C := RX2) (T := TX2) (N := 16) hx hb hts hfX2 hown hK hP q5 eq5 rfl 11 (by decide) (hts (.fieldLink RX2 38 "ColdShips$Reader" "leaves" "I") wa_798) (fun _ h9 => h9) rfl dX2_readPart_40 ?_
        refine lv_iconst (v := 1) hx hb dX2_readPart_43 (by decide) ?_
        refine lv_iadd hx hb dX2_readPart_44 ?_
        refine lv_topi (fun z13 ez13 => ?_)
        have := zi_bd o4_x11
        have iz13 : z13.toInt = o4_x11.toInt + 1 := zi_add ez13 rfl rfl (by omega) (by omega)
        refine va_put (D := (dC, dI)) (ci := 2) (v := .int z13) (ty := .int) (C := RX2) (T := TX2) (N := 16) hx hb hts hfX2 tyX2 tyX2_ok nmX2 hown hK hP hD hS q5 eq5 rfl 11 (by decide) (hts (.fieldLink RX2 38 "ColdShips$Reader" "leaves" "I") wa_798) (fun _ h9 => h9) rfl (tyX2_ok 11 (by decide)) rfl rfl (Nat.le_of_ble_eq_true rfl) dX2_readPart_45 (tp_k (.inr (2, [.ref (ρ h0 0), .int o4_x1, .int o4_x2, .int o4_x3, .int o4_x4, .int o4_x5, .int o4_x6, .ref (ρ h0 7), .int o4_x8, .ref (ρ h0 9), .int o4_x10, .int z13, .int o4_x12, .int o4_x13, .int o4_x14, .int o4_x15])) hD (tp_in hG ht_h0 (by decide)) eq5 (fun f14 H locs hP hD hS g16 k15 => ?_))
        have hT := hT.up ht_h0 g16 k15 ⟨_, _, _, _, _, _, _, _, _, _, _, _, _, rfl, ro4_0, ro4_1, ro4_2, ro4_3, ro4_4, ro4_5, ro4_6⟩
        have hR := hR.up ht_h0 (by decide) k15
        have hB : tp_fld (f14 h0) 12 = B0 := by rw [g16]; show (o4_x12).toInt = B0; omega
        refine lv_aload_n hx hb dX2_readPart_48 rfl (lv_at hl 1 rfl) ?_
        refine lv_iload_n hx hb dX2_readPart_49 rfl (lv_at hl 0 rfl) ?_
        refine tpk_pos (tp_in hG ht_h0 (by decide)) g16 (fun q17 eq17 => ?_)
        have hFc := tp_fr hD hS hA
        refine va_callv (va_runV (As := [.int r9]) (rest := []) ⟨hx, hb, hml, hown, hts⟩ (t_X2_emit l dC dI _ Ω κ τ ν ρ L f14 hG hT h0 r9 B0 ht_h0 (by first | decide | omega) hB) (cwV 1 hts gX2_readPart_X2_emit rfl rfl rfl ⟨rfl, pd_X2_emit⟩ ⟨Nat.le_of_ble_eq_true rfl, Nat.le_of_ble_eq_true rfl⟩) ⟨pz_blind, va_recv hK hP (ci := 2) (q0 := q17) rfl eq17, pz_pre hP hK hD hN⟩ rfl rfl hl.1 rfl (lv_room (Nat.le_of_ble_eq_true rfl)) dX2_readPart_50 ⟨Nat.le_of_ble_eq_true rfl, Nat.le_of_ble_eq_true rfl⟩) hS (fun q _ h => hFc q h) hFc (fun f20 t H1 locs ht hvm hw19 hB hz1 hk1 hS => ?_)
        refine tn_3 hw19 (fun hT hF21 hw19p => ?_); clear hw19
        have hR := hR.then hF21 (by decide)
        have hP := hB.1; rw [ht] at hP; have hD := tp_ad f20 hD; clear hB hFc hz1 hk1; subst ht; generalize t.heap = H at hP hS ⊢
        have hB := hw19p
        refine lv_aload_n hx hb dX2_readPart_53 rfl (lv_at hl 1 rfl) ?_
        refine tpk_3 hT ht_h0 (fun o22_x1 o22_x2 o22_x3 o22_x4 o22_x5 o22_x6 o22_x8 o22_x10 o22_x11 o22_x12 o22_x13 o22_x14 o22_x15 hf_o22 ro22_0 ro22_1 ro22_2 ro22_3 ro22_4 ro22_5 ro22_6 => ?_)
        have bo22 : o22_x12.toInt = B0 := by have q9 := hB; rw [hf_o22] at q9; exact q9
        refine tpk_pos (tp_in hG ht_h0 (by decide)) hf_o22 (fun q23 eq23 => ?_)
        have hFc := tp_fr hD hS hA
        refine va_callv (va_runV (As := []) (rest := []) ⟨hx, hb, hml, hown, hts⟩ (t_X2_advance l dC dI _ Ω κ τ ν ρ L f20 hG hT h0 B0 ht_h0 hB) (cwV 0 hts gX2_readPart_X2_advance rfl rfl rfl ⟨rfl, pd_X2_advance⟩ ⟨Nat.le_of_ble_eq_true rfl, Nat.le_of_ble_eq_true rfl⟩) ⟨pz_blind, va_recv hK hP (ci := 2) (q0 := q23) rfl eq23, pz_pre hP hK hD hN⟩ rfl rfl hl.1 rfl (lv_room (Nat.le_of_ble_eq_true rfl)) dX2_readPart_54 ⟨Nat.le_of_ble_eq_true rfl, Nat.le_of_ble_eq_true rfl⟩) hS (fun q _ h => hFc q h) hFc (fun f26 t H1 locs ht hvm hw25 hB hz1 hk1 hS => ?_)
        refine tn_3 hw25 (fun hT hF27 hw25p => ?_); clear hw25
        have hR := hR.then hF27 (by decide)
        have hP := hB.1; rw [ht] at hP; have hD := tp_ad f26 hD; clear hB hFc hz1 hk1; subst ht; generalize t.heap = H at hP hS ⊢
        have hB := hw25p
        refine lv_iconst (v := 1) hx hb dX2_readPart_57 (by decide) ?_
        exact W.zret (v := 1) hx hb hr rfl (fun t ht hW => ⟨⟨1, f26, rfl, ⟨hT, hR, (by first | decide | omega), hB⟩, by rw [ht]; exact hP, va_K.moved hW.alike hK, hD⟩, hS.F ht⟩) hS.2.2 dX2_readPart_58
      · have ic12 : o4_x11.toInt ≥ 50 := zi_ltf rfl rfl c12
        refine lv_iconst (v := 0) hx hb dX2_readPart_36 (by decide) ?_
        exact W.zret (v := 0) hx hb hr rfl (fun t ht hW => ⟨⟨0, f, rfl, ⟨hT, hR, (by first | decide | omega), hB⟩, by rw [ht]; exact hP, va_K.moved hW.alike hK, hD⟩, hS.F ht⟩) hS.2.2 dX2_readPart_37
  · have ic8 : r6.toInt ≠ 0 := zi_eqf rfl rfl c8
    refine lv_aload_n hx hb dX2_readPart_9 rfl (lv_at hl 0 rfl) ?_
    refine lv_iconst (v := 0) hx hb dX2_readPart_10 (by decide) ?_
    have hFc := tp_fr hD hS hA
    refine va_calli (va_runV (As := [.int 0]) (rest := []) ⟨hx, hb, hml, hown, hts⟩ (t_X2_readInBrackets0 l dC dI _ Ω κ τ ν ρ L f hG hT adK adV zv h0 (0) B0 ht_h0 (by first | decide | omega) hB (by first | omega | (have : (0 : Int32).toInt = 0 := rfl; omega))) (cwV 1 hts gX2_readPart_X2_readInBrackets rfl rfl rfl ⟨rfl, pd_X2_readInBrackets⟩ ⟨Nat.le_of_ble_eq_true rfl, Nat.le_of_ble_eq_true rfl⟩) ⟨pw_blindZ, va_recv hK hP (ci := 2) (q0 := q5) rfl eq5, pw_preZ hP hK hD hN hZ hS (tp_fr hD hS hA)⟩ rfl rfl hl.1 rfl (lv_room (Nat.le_of_ble_eq_true rfl)) dX2_readPart_11 ⟨Nat.le_of_ble_eq_true rfl, Nat.le_of_ble_eq_true rfl⟩) hS (fun q _ h => hFc q h) hFc (fun r28 f30 t H1 locs ht hvm hw29 hB hz1 hk1 hS => ?_)
    refine tn_4 hw29 (fun hT hF31 hw29r hw29p => ?_); clear hw29
    have hR := hR.then hF31 (by decide)
    have hP := hB.1; rw [ht] at hP; have hD := tp_ad f30 hD; clear hB hFc hz1 hk1; subst ht; generalize t.heap = H at hP hS ⊢
    have hB := hw29p
    exact W.zret (v := r28) hx hb hr (zi_narZ (by omega) (by omega)) (fun t ht hW => ⟨⟨r28, f30, rfl, ⟨hT, hR, (by first | decide | omega), hB⟩, by rw [ht]; exact hP, va_K.moved hW.alike hK, hD⟩, hS.F ht⟩) hS.2.2 dX2_readPart_14
set_option maxHeartbeats 4000000 in
set_option maxRecDepth 100000 in
theorem t_X2_readTerm0 (l : Launch) (dC : Nat → ClassId) (dI : Nat → Nat → Nat) (sz : Nat) (Ω : Nat → Nat → (Nat → Nat) → va_E → Prop) (κ : Nat → ClassId) (τ ν : Nat → Nat) (ρ : Nat → Nat → Nat) (L : List Nat) (f : Nat → va_E) (hG : tp_G τ ν ρ L) (hT : tp_T Ω κ τ ν ρ f) (adK adV : Nat → Nat) (zv : Option Nat) (h0 : Nat) (B0 : Int) (ht_h0 : τ h0 = 3) (hB : tp_fld (f h0) 12 = B0) (hBr : B0 = 0) : Met l yX2_readTerm wqX2_readTerm ({ frames := 74, cells := 0, slots := 0, locals := 29200 }) (va_Pc [.ref h0] (pw_BZ dC dI (tp_K κ) (va_pl L f) sz adK adV zv)) (va_Qi (fun (r : Int32) (f1 : Nat → va_E) => tp_T Ω κ τ ν ρ f1 ∧ tp_F τ [3, 20, 28] f f1 ∧ (0 ≤ r.toInt ∧ r.toInt ≤ 1) ∧ tp_fld (f1 h0) 12 = B0) (fun (f1 : Nat → va_E) (t : State) => pz_E dC dI (tp_K κ) (va_A (va_pl L f) sz) (va_pl L f1) t) (va_A (va_pl L f) sz)) 0 0 (va_A (va_pl L f) sz) := by
  refine Met.ofW (cc := cX2_readTerm) (maxL := 3) (ret := some .boolean) (by decide) rfl ?_
  intro p e s m args below meth c s₁ B hml hv
  obtain ⟨rfl, ⟨hsz, hP, hK, hD0, hN⟩, hZ⟩ := hv
  have hx := B.exec
  have hb := B.bytes
  have hr := B.returns
  have hts := fun (w : Cond) (h : w ∈ WALL) => atoms_spec (ws := wqX2_readTerm) B.pre w (List.mem_cons_of_mem _ h)
  have hown : s.vm.findClass RX2 = some m.cls := findClass_of_methodNamed B.named
  have hlocks := B.notSynchronized
  subst hsz
  have hD := hD0.self (sz := s.heap.size)
  generalize hAe : va_A (va_pl L f) s.heap.size = A at hD hZ ⊢
  have hA : ∀ q : Nat, s.heap.size ≤ q → A q := fun q h => by rw [← hAe]; exact Or.inr h
  have hS : va_S A s.heap s.heap [] := va_S.rf
  have hR : tp_F τ [3, 20, 28] f f := tp_F.rf
  have hl := lv_entry ([.ref h0]) (n := 3) (Nat.le_of_ble_eq_true rfl)
  rw [lg_entry_eq]
  generalize (lg_sl ([.ref h0]) ++ List.replicate (3 - (lg_sl ([.ref h0])).length) Slot.unset).toArray = ls at hl ⊢
  have hl : lv_has ls 3 [(0, .ref h0)] := hl
  refine lv_aload_n hx hb dX2_readTerm_0 rfl (lv_at hl 0 rfl) ?_
  refine tgk_3 hG ht_h0 (fun y1 y1n y2 y2n y3 y3n => ?_)
  refine tpk_3 hT ht_h0 (fun o4_x1 o4_x2 o4_x3 o4_x4 o4_x5 o4_x6 o4_x8 o4_x10 o4_x11 o4_x12 o4_x13 o4_x14 o4_x15 hf_o4 ro4_0 ro4_1 ro4_2 ro4_3 ro4_4 ro4_5 ro4_6 => ?_)
  have bo4 : o4_x12.toInt = B0 := by have q9 := hB; rw [hf_o4] at q9; exact q9
  refine tpk_pos (tp_in hG ht_h0 (by decide)) hf_o4 (fun q5 eq5 => ?_)
  have hFc := tp_fr hD hS hA
  refine va_calli (va_runV (As := []) (rest := []) ⟨hx, hb, hml, hown, hts⟩ (t_X2_readPart0 l dC dI _ Ω κ τ ν ρ L f hG hT adK adV zv h0 B0 ht_h0 hB (by omega)) (cwV 0 hts gX2_readTerm_X2_readPart rfl rfl rfl ⟨rfl, pd_X2_readPart⟩ ⟨Nat.le_of_ble_eq_true rfl, Nat.le_of_ble_eq_true rfl⟩) ⟨pw_blindZ, va_recv hK hP (ci := 2) (q0 := q5) rfl eq5, pw_preZ hP hK hD hN hZ hS (tp_fr hD hS hA)⟩ rfl rfl hl.1 rfl (lv_room (Nat.le_of_ble_eq_true rfl)) dX2_readTerm_1 ⟨Nat.le_of_ble_eq_true rfl, Nat.le_of_ble_eq_true rfl⟩) hS (fun q _ h => hFc q h) hFc (fun r6 f8 t H1 locs ht hvm hw7 hB hz1 hk1 hS => ?_)
  refine tn_4 hw7 (fun hT hF9 hw7r hw7p => ?_); clear hw7
  have hR := hR.then hF9 (by decide)
  have hP := hB.1; rw [ht] at hP; have hD := tp_ad f8 hD; clear hB hFc hz1 hk1; subst ht; generalize t.heap = H at hP hS ⊢
  have hB := hw7p
  refine lv_if_ne (tgt := 9) hx hb dX2_readTerm_4 (by decide) (fun c10 => ?_) (fun c10 => ?_)
  · have ic10 : r6.toInt ≠ 0 := zi_ne rfl rfl c10
    refine lv_iconst (v := 0) hx hb dX2_readTerm_9 (by decide) ?_
    refine lv_istore_n (lv' := [(1, .int 0), (0, .ref h0)]) hx hb dX2_readTerm_10 rfl hl (by decide) rfl (fun ls hl => ?_)
    refine pz_loop (fun n0 H locs ls => ∃ f12 : Nat → va_E, ∃ w11 : Int32, n0 = (400 - (w11.toInt)).toNat ∧ tp_T Ω κ τ ν ρ f12 ∧ tp_F τ [3, 20, 28] f f12 ∧ tp_fld (f12 h0) 12 = B0 ∧ (0 ≤ w11.toInt ∧ w11.toInt ≤ 400) ∧ va_P (dC, dI) vwCl (va_pl L f12) H ∧ va_D A (va_pl L f12) ∧ va_S A s.heap H locs ∧ lv_has ls 3 [(1, .int w11), (0, .ref h0)]) ?_ _ _ _ _ ⟨f8, 0, rfl, hT, hR, hB, (by have : (0 : Int32).toInt = 0 := rfl; omega), hP, hD, hS, lv_sub hl [0, 1] rfl⟩
    intro n0 H locs ls hI ih13
    refine Exists.elim hI (fun f12 hE90 => Exists.elim hE90 (fun w11 hE91 => tn_9 hE91 (fun hn14 hT hR hB rw11 hP hD hS hl => ?_)))
    clear hE91 hE90 hI
    refine lv_iload_n hx hb dX2_readTerm_11 rfl (lv_at hl 0 rfl) ?_
    refine lv_sipush (v := 400) hx hb dX2_readTerm_12 (by decide) ?_
    refine lv_icmp_ge (tgt := 77) hx hb dX2_readTerm_15 (by decide) (fun c15 => ?_) (fun c15 => ?_)
    · have ic15 : w11.toInt ≥ 400 := zi_ge rfl rfl c15
      refine lv_iconst (v := 1) hx hb dX2_readTerm_77 (by decide) ?_
      exact W.zret (v := 1) hx hb hr rfl (fun t ht hW => ⟨⟨1, f12, rfl, ⟨hT, hR, (by first | decide | omega), hB⟩, by rw [ht]; exact hP, va_K.moved hW.alike hK, hD⟩, hS.F ht⟩) hS.2.2 dX2_readTerm_78
    · have ic15 : w11.toInt < 400 := zi_gef rfl rfl c15
      refine lv_aload_n hx hb dX2_readTerm_18 rfl (lv_at hl 1 rfl) ?_
      refine lv_bipush (v := 42) hx hb dX2_readTerm_19 (by decide) ?_
      refine tpk_3 hT ht_h0 (fun o16_x1 o16_x2 o16_x3 o16_x4 o16_x5 o16_x6 o16_x8 o16_x10 o16_x11 o16_x12 o16_x13 o16_x14 o16_x15 hf_o16 ro16_0 ro16_1 ro16_2 ro16_3 ro16_4 ro16_5 ro16_6 => ?_)
      have bo16 : o16_x12.toInt = B0 := by have q9 := hB; rw [hf_o16] at q9; exact q9
      refine tpk_pos (tp_in hG ht_h0 (by decide)) hf_o16 (fun q17 eq17 => ?_)
      refine pz_calli (va_runV (As := [.int 42]) (rest := []) ⟨hx, hb, hml, hown, hts⟩ (t_X2_isSign l dC dI _ Ω κ τ ν ρ L f12 hG hT h0 (42) ht_h0) (cwV 1 hts gX2_readTerm_X2_isSign rfl rfl rfl ⟨rfl, pd_X2_isSign⟩ ⟨Nat.le_of_ble_eq_true rfl, Nat.le_of_ble_eq_true rfl⟩) ⟨pz_blind, va_recv hK hP (ci := 2) (q0 := q17) rfl eq17, pz_pre hP hK hD hN⟩ rfl rfl hl.1 rfl (lv_room (Nat.le_of_ble_eq_true rfl)) dX2_readTerm_21 ⟨Nat.le_of_ble_eq_true rfl, Nat.le_of_ble_eq_true rfl⟩) (fun r18 hw19 => ?_)
      obtain ⟨hw19r, hw19p⟩ := hw19
      refine tp_join 36 (fun H locs ls stk => stk = [] ∧ va_P (dC, dI) vwCl (va_pl L f12) H ∧ va_D A (va_pl L f12) ∧ va_S A s.heap H locs ∧ lv_has ls 3 [(1, .int w11), (0, .ref h0)]) ?_ (fun hj20 => ?_)
      · intro H locs ls stk hI
        refine tn_5 hI (fun e90 hP hD hS hl => ?_)
        clear hI; subst e90
        refine lv_aload_n hx hb dX2_readTerm_36 rfl (lv_at hl 1 rfl) ?_
        refine lv_bipush (v := 42) hx hb dX2_readTerm_37 (by decide) ?_
        refine pz_calli (va_runV (As := [.int 42]) (rest := []) ⟨hx, hb, hml, hown, hts⟩ (t_X2_isSign l dC dI _ Ω κ τ ν ρ L f12 hG hT h0 (42) ht_h0) (cwV 1 hts gX2_readTerm_X2_isSign rfl rfl rfl ⟨rfl, pd_X2_isSign⟩ ⟨Nat.le_of_ble_eq_true rfl, Nat.le_of_ble_eq_true rfl⟩) ⟨pz_blind, va_recv hK hP (ci := 2) (q0 := q17) rfl eq17, pz_pre hP hK hD hN⟩ rfl rfl hl.1 rfl (lv_room (Nat.le_of_ble_eq_true rfl)) dX2_readTerm_39 ⟨Nat.le_of_ble_eq_true rfl, Nat.le_of_ble_eq_true rfl⟩) (fun r21 hw22 => ?_)
        obtain ⟨hw22r, hw22p⟩ := hw22
        refine tp_join 52 (fun H locs ls stk => ∃ w23 : Int32, stk = [.int w23] ∧ ((-14) ≤ w23.toInt ∧ w23.toInt ≤ (-13)) ∧ va_P (dC, dI) vwCl (va_pl L f12) H ∧ va_D A (va_pl L f12) ∧ va_S A s.heap H locs ∧ lv_has ls 3 [(1, .int w11), (0, .ref h0)]) ?_ (fun hj24 => ?_)
        · intro H locs ls stk hI
          refine Exists.elim hI (fun w23 hE90 => tn_6 hE90 (fun e90 rw23 hP hD hS hl => ?_))
          clear hE90 hI; subst e90
          refine lv_istore_n (lv' := [(2, .int w23), (1, .int w11), (0, .ref h0)]) hx hb dX2_readTerm_52 rfl hl (by decide) rfl (fun ls hl => ?_)
          refine lv_aload_n hx hb dX2_readTerm_53 rfl (lv_at hl 2 rfl) ?_
          have hFc := tp_fr hD hS hA
          refine va_callv (va_runV (As := []) (rest := []) ⟨hx, hb, hml, hown, hts⟩ (t_X2_advance l dC dI _ Ω κ τ ν ρ L f12 hG hT h0 B0 ht_h0 hB) (cwV 0 hts gX2_readTerm_X2_advance rfl rfl rfl ⟨rfl, pd_X2_advance⟩ ⟨Nat.le_of_ble_eq_true rfl, Nat.le_of_ble_eq_true rfl⟩) ⟨pz_blind, va_recv hK hP (ci := 2) (q0 := q17) rfl eq17, pz_pre hP hK hD hN⟩ rfl rfl hl.1 rfl (lv_room (Nat.le_of_ble_eq_true rfl)) dX2_readTerm_54 ⟨Nat.le_of_ble_eq_true rfl, Nat.le_of_ble_eq_true rfl⟩) hS (fun q _ h => hFc q h) hFc (fun f27 t H1 locs ht hvm hw26 hB hz1 hk1 hS => ?_)
          refine tn_3 hw26 (fun hT hF28 hw26p => ?_); clear hw26
          have hR := hR.then hF28 (by decide)
          have hP := hB.1; rw [ht] at hP; have hD := tp_ad f27 hD; clear hB hFc hz1 hk1; subst ht; generalize t.heap = H at hP hS ⊢
          have hB := hw26p
          refine lv_aload_n hx hb dX2_readTerm_57 rfl (lv_at hl 2 rfl) ?_
          refine tpk_3 hT ht_h0 (fun o29_x1 o29_x2 o29_x3 o29_x4 o29_x5 o29_x6 o29_x8 o29_x10 o29_x11 o29_x12 o29_x13 o29_x14 o29_x15 hf_o29 ro29_0 ro29_1 ro29_2 ro29_3 ro29_4 ro29_5 ro29_6 => ?_)
          have bo29 : o29_x12.toInt = B0 := by have q9 := hB; rw [hf_o29] at q9; exact q9
          refine tpk_pos (tp_in hG ht_h0 (by decide)) hf_o29 (fun q30 eq30 => ?_)
          have hFc := tp_fr hD hS hA
          refine va_calli (va_runV (As := []) (rest := []) ⟨hx, hb, hml, hown, hts⟩ (t_X2_readPart0 l dC dI _ Ω κ τ ν ρ L f27 hG hT adK adV zv h0 B0 ht_h0 hB (by omega)) (cwV 0 hts gX2_readTerm_X2_readPart rfl rfl rfl ⟨rfl, pd_X2_readPart⟩ ⟨Nat.le_of_ble_eq_true rfl, Nat.le_of_ble_eq_true rfl⟩) ⟨pw_blindZ, va_recv hK hP (ci := 2) (q0 := q30) rfl eq30, pw_preZ hP hK hD hN hZ hS (tp_fr hD hS hA)⟩ rfl rfl hl.1 rfl (lv_room (Nat.le_of_ble_eq_true rfl)) dX2_readTerm_58 ⟨Nat.le_of_ble_eq_true rfl, Nat.le_of_ble_eq_true rfl⟩) hS (fun q _ h => hFc q h) hFc (fun r31 f33 t H1 locs ht hvm hw32 hB hz1 hk1 hS => ?_)
          refine tn_4 hw32 (fun hT hF34 hw32r hw32p => ?_); clear hw32
          have hR := hR.then hF34 (by decide)
          have hP := hB.1; rw [ht] at hP; have hD := tp_ad f33 hD; clear hB hFc hz1 hk1; subst ht; generalize t.heap = H at hP hS ⊢
          have hB := hw32p
          refine lv_if_ne (tgt := 66) hx hb dX2_readTerm_61 (by decide) (fun c35 => ?_) (fun c35 => ?_)
          · have ic35 : r31.toInt ≠ 0 := zi_ne rfl rfl c35
            refine lv_aload_n hx hb dX2_readTerm_66 rfl (lv_at hl 2 rfl) ?_
            refine lv_iload_n hx hb dX2_readTerm_67 rfl (lv_at hl 0 rfl) ?_
            refine tpk_3 hT ht_h0 (fun o36_x1 o36_x2 o36_x3 o36_x4 o36_x5 o36_x6 o36_x8 o36_x10 o36_x11 o36_x12 o36_x13 o36_x14 o36_x15 hf_o36 ro36_0 ro36_1 ro36_2 ro36_3 ro36_4 ro36_5 ro36_6 => ?_)
            have bo36 : o36_x12.toInt = B0 := by have q9 := hB; rw [hf_o36] at q9; exact q9
            refine tpk_pos (tp_in hG ht_h0 (by decide)) hf_o36 (fun q37 eq37 => ?_)
            have hFc := tp_fr hD hS hA
            refine va_callv (va_runV (As := [.int w23]) (rest := []) ⟨hx, hb, hml, hown, hts⟩ (t_X2_emit l dC dI _ Ω κ τ ν ρ L f33 hG hT h0 w23 B0 ht_h0 (by first | decide | omega) hB) (cwV 1 hts gX2_readTerm_X2_emit rfl rfl rfl ⟨rfl, pd_X2_emit⟩ ⟨Nat.le_of_ble_eq_true rfl, Nat.le_of_ble_eq_true rfl⟩) ⟨pz_blind, va_recv hK hP (ci := 2) (q0 := q37) rfl eq37, pz_pre hP hK hD hN⟩ rfl rfl hl.1 rfl (lv_room (Nat.le_of_ble_eq_true rfl)) dX2_readTerm_68 ⟨Nat.le_of_ble_eq_true rfl, Nat.le_of_ble_eq_true rfl⟩) hS (fun q _ h => hFc q h) hFc (fun f40 t H1 locs ht hvm hw39 hB hz1 hk1 hS => ?_)
            refine tn_3 hw39 (fun hT hF41 hw39p => ?_); clear hw39
            have hR := hR.then hF41 (by decide)
            have hP := hB.1; rw [ht] at hP; have hD := tp_ad f40 hD; clear hB hFc hz1 hk1; subst ht; generalize t.heap = H at hP hS ⊢
            have hB := hw39p
            obtain ⟨z42, ez42⟩ : ∃ y : Int32, y = w11 + 1 := ⟨_, rfl⟩
            refine lv_iinc (v := z42) (lv' := [(1, .int z42), (2, .int w23), (0, .ref h0)]) hx hb dX2_readTerm_71 hl (k := 1) rfl (by rw [ez42]; rfl) (by decide) rfl (fun ls hl => ?_)
            have iz42 : z42.toInt = w11.toInt + 1 := zi_add ez42 rfl rfl (by omega) (by omega)
            refine lv_goto (tgt := 11) hx hb dX2_readTerm_74 (by decide) ?_
            exact ih13 _ _ _ _ (by rw [hn14]; omega) ⟨f40, z42, rfl, hT, hR, hB, (by omega), hP, hD, hS, lv_sub hl [0, 2] rfl⟩
          · have ic35 : r31.toInt = 0 := zi_nef rfl rfl c35
            refine lv_iconst (v := 0) hx hb dX2_readTerm_64 (by decide) ?_
            exact W.zret (v := 0) hx hb hr rfl (fun t ht hW => ⟨⟨0, f33, rfl, ⟨hT, hR, (by first | decide | omega), hB⟩, by rw [ht]; exact hP, va_K.moved hW.alike hK, hD⟩, hS.F ht⟩) hS.2.2 dX2_readTerm_65
        · refine lv_if_eq (tgt := 50) hx hb dX2_readTerm_42 (by decide) (fun c43 => ?_) (fun c43 => ?_)
          · have ic43 : r21.toInt = 0 := zi_eq rfl rfl c43
            refine lv_bipush (v := (-14)) hx hb dX2_readTerm_50 (by decide) ?_
            exact hj24 _ _ _ _ ⟨(-14), rfl, (by have : ((-14) : Int32).toInt = (-14) := rfl; omega), hP, hD, hS, lv_sub hl [0, 1] rfl⟩
          · have ic43 : r21.toInt ≠ 0 := zi_eqf rfl rfl c43
            refine lv_bipush (v := (-13)) hx hb dX2_readTerm_45 (by decide) ?_
            refine lv_goto (tgt := 52) hx hb dX2_readTerm_47 (by decide) ?_
            exact hj24 _ _ _ _ ⟨(-13), rfl, (by have : ((-13) : Int32).toInt = (-13) := rfl; omega), hP, hD, hS, lv_sub hl [0, 1] rfl⟩
      · refine lv_if_ne (tgt := 36) hx hb dX2_readTerm_24 (by decide) (fun c44 => ?_) (fun c44 => ?_)
        · have ic44 : r18.toInt ≠ 0 := zi_ne rfl rfl c44
          exact hj20 _ _ _ _ ⟨rfl, hP, hD, hS, lv_sub hl [0, 1] rfl⟩
        · have ic44 : r18.toInt = 0 := zi_nef rfl rfl c44
          refine lv_aload_n hx hb dX2_readTerm_27 rfl (lv_at hl 1 rfl) ?_
          refine lv_bipush (v := 47) hx hb dX2_readTerm_28 (by decide) ?_
          refine pz_calli (va_runV (As := [.int 47]) (rest := []) ⟨hx, hb, hml, hown, hts⟩ (t_X2_isSign l dC dI _ Ω κ τ ν ρ L f12 hG hT h0 (47) ht_h0) (cwV 1 hts gX2_readTerm_X2_isSign rfl rfl rfl ⟨rfl, pd_X2_isSign⟩ ⟨Nat.le_of_ble_eq_true rfl, Nat.le_of_ble_eq_true rfl⟩) ⟨pz_blind, va_recv hK hP (ci := 2) (q0 := q17) rfl eq17, pz_pre hP hK hD hN⟩ rfl rfl hl.1 rfl (lv_room (Nat.le_of_ble_eq_true rfl)) dX2_readTerm_30 ⟨Nat.le_of_ble_eq_true rfl, Nat.le_of_ble_eq_true rfl⟩) (fun r45 hw46 => ?_)
          obtain ⟨hw46r, hw46p⟩ := hw46
          refine lv_if_eq (tgt := 77) hx hb dX2_readTerm_33 (by decide) (fun c47 => ?_) (fun c47 => ?_)
          · have ic47 : r45.toInt = 0 := zi_eq rfl rfl c47
            refine lv_iconst (v := 1) hx hb dX2_readTerm_77 (by decide) ?_
            exact W.zret (v := 1) hx hb hr rfl (fun t ht hW => ⟨⟨1, f12, rfl, ⟨hT, hR, (by first | decide | omega), hB⟩, by rw [ht]; exact hP, va_K.moved hW.alike hK, hD⟩, hS.F ht⟩) hS.2.2 dX2_readTerm_78
          · have ic47 : r45.toInt ≠ 0 := zi_eqf rfl rfl c47
            exact hj20 _ _ _ _ ⟨rfl, hP, hD, hS, lv_sub hl [0, 1] rfl⟩
  · have ic10 : r6.toInt = 0 := zi_nef rfl rfl c10
    refine lv_iconst (v := 0) hx hb dX2_readTerm_7 (by decide) ?_
    exact W.zret (v := 0) hx hb hr rfl (fun t ht hW => ⟨⟨0, f8, rfl, ⟨hT, hR, (by first | decide | omega), hB⟩, by rw [ht]; exact hP, va_K.moved hW.alike hK, hD⟩, hS.F ht⟩) hS.2.2 dX2_readTerm_8
set_option maxHeartbeats 4000000 in
set_option maxRecDepth 100000 in
theorem t_X2_readSum0 (l : Launch) (dC : Nat → ClassId) (dI : Nat → Nat → Nat) (sz : Nat) (Ω : Nat → Nat → (Nat → Nat) → va_E → Prop) (κ : Nat → ClassId) (τ ν : Nat → Nat) (ρ : Nat → Nat → Nat) (L : List Nat) (f : Nat → va_E) (hG : tp_G τ ν ρ L) (hT : tp_T Ω κ τ ν ρ f) (adK adV : Nat → Nat) (zv : Option Nat) (h0 : Nat) (B0 : Int) (ht_h0 : τ h0 = 3) (hB : tp_fld (f h0) 12 = B0) (hBr : B0 = 0) : Met l yX2_readSum wqX2_readSum ({ frames := 75, cells := 0, slots := 0, locals := 29600 }) (va_Pc [.ref h0] (pw_BZ dC dI (tp_K κ) (va_pl L f) sz adK adV zv)) (va_Qi (fun (r : Int32) (f1 : Nat → va_E) => tp_T Ω κ τ ν ρ f1 ∧ tp_F τ [3, 20, 28] f f1 ∧ (0 ≤ r.toInt ∧ r.toInt ≤ 1) ∧ tp_fld (f1 h0) 12 = B0) (fun (f1 : Nat → va_E) (t : State) => pz_E dC dI (tp_K κ) (va_A (va_pl L f) sz) (va_pl L f1) t) (va_A (va_pl L f) sz)) 0 0 (va_A (va_pl L f) sz) := by
  refine Met.ofW (cc := cX2_readSum) (maxL := 3) (ret := some .boolean) (by decide) rfl ?_
  intro p e s m args below meth c s₁ B hml hv
  obtain ⟨rfl, ⟨hsz, hP, hK, hD0, hN⟩, hZ⟩ := hv
  have hx := B.exec
  have hb := B.bytes
  have hr := B.returns
  have hts := fun (w : Cond) (h : w ∈ WALL) => atoms_spec (ws := wqX2_readSum) B.pre w (List.mem_cons_of_mem _ h)
  have hown : s.vm.findClass RX2 = some m.cls := findClass_of_methodNamed B.named
  have hlocks := B.notSynchronized
  subst hsz
  have hD := hD0.self (sz := s.heap.size)
  generalize hAe : va_A (va_pl L f) s.heap.size = A at hD hZ ⊢
  have hA : ∀ q : Nat, s.heap.size ≤ q → A q := fun q h => by rw [← hAe]; exact Or.inr h
  have hS : va_S A s.heap s.heap [] := va_S.rf
  have hR : tp_F τ [3, 20, 28] f f := tp_F.rf
  have hl := lv_entry ([.ref h0]) (n := 3) (Nat.le_of_ble_eq_true rfl)
  rw [lg_entry_eq]
  generalize (lg_sl ([.ref h0]) ++ List.replicate (3 - (lg_sl ([.ref h0])).length) Slot.unset).toArray = ls at hl ⊢
  have hl : lv_has ls 3 [(0, .ref h0)] := hl
  refine lv_aload_n hx hb dX2_readSum_0 rfl (lv_at hl 0 rfl) ?_
  refine tgk_3 hG ht_h0 (fun y1 y1n y2 y2n y3 y3n => ?_)
  refine tpk_3 hT ht_h0 (fun o4_x1 o4_x2 o4_x3 o4_x4 o4_x5 o4_x6 o4_x8 o4_x10 o4_x11 o4_x12 o4_x13 o4_x14 o4_x15 hf_o4 ro4_0 ro4_1 ro4_2 ro4_3 ro4_4 ro4_5 ro4_6 => ?_)
  have bo4 : o4_x12.toInt = B0 := by have q9 := hB; rw [hf_o4] at q9; exact q9
  refine tpk_pos (tp_in hG ht_h0 (by decide)) hf_o4 (fun q5 eq5 => ?_)
  have hFc := tp_fr hD hS hA
  refine va_calli (va_runV (As := []) (rest := []) ⟨hx, hb, hml, hown, hts⟩ (t_X2_readTerm0 l dC dI _ Ω κ τ ν ρ L f hG hT adK adV zv h0 B0 ht_h0 hB (by omega)) (cwV 0 hts gX2_readSum_X2_readTerm rfl rfl rfl ⟨rfl, pd_X2_readTerm⟩ ⟨Nat.le_of_ble_eq_true rfl, Nat.le_of_ble_eq_true rfl⟩) ⟨pw_blindZ, va_recv hK hP (ci := 2) (q0 := q5) rfl eq5, pw_preZ hP hK hD hN hZ hS (tp_fr hD hS hA)⟩ rfl rfl hl.1 rfl (lv_room (Nat.le_of_ble_eq_true rfl)) dX2_readSum_1 ⟨Nat.le_of_ble_eq_true rfl, Nat.le_of_ble_eq_true rfl⟩) hS (fun q _ h => hFc q h) hFc (fun r6 f8 t H1 locs ht hvm hw7 hB hz1 hk1 hS => ?_)
  refine tn_4 hw7 (fun hT hF9 hw7r hw7p => ?_); clear hw7
  have hR := hR.then hF9 (by decide)
  have hP := hB.1; rw [ht] at hP; have hD := tp_ad f8 hD; clear hB hFc hz1 hk1; subst ht; generalize t.heap = H at hP hS ⊢
  have hB := hw7p
  refine lv_if_ne (tgt := 9) hx hb dX2_readSum_4 (by decide) (fun c10 => ?_) (fun c10 => ?_)
  · have ic10 : r6.toInt ≠ 0 := zi_ne rfl rfl c10
    refine lv_iconst (v := 0) hx hb dX2_readSum_9 (by decide) ?_
    refine lv_istore_n (lv' := [(1, .int 0), (0, .ref h0)]) hx hb dX2_readSum_10 rfl hl (by decide) rfl (fun ls hl => ?_)
    refine pz_loop (fun n0 H locs ls => ∃ f12 : Nat → va_E, ∃ w11 : Int32, n0 = (400 - (w11.toInt)).toNat ∧ tp_T Ω κ τ ν ρ f12 ∧ tp_F τ [3, 20, 28] f f12 ∧ tp_fld (f12 h0) 12 = B0 ∧ (0 ≤ w11.toInt ∧ w11.toInt ≤ 400) ∧ va_P (dC, dI) vwCl (va_pl L f12) H ∧ va_D A (va_pl L f12) ∧ va_S A s.heap H locs ∧ lv_has ls 3 [(1, .int w11), (0, .ref h0)]) ?_ _ _ _ _ ⟨f8, 0, rfl, hT, hR, hB, (by have : (0 : Int32).toInt = 0 := rfl; omega), hP, hD, hS, lv_sub hl [0, 1] rfl⟩
    intro n0 H locs ls hI ih13
    refine Exists.elim hI (fun f12 hE90 => Exists.elim hE90 (fun w11 hE91 => tn_9 hE91 (fun hn14 hT hR hB rw11 hP hD hS hl => ?_)))
    clear hE91 hE90 hI
    refine lv_iload_n hx hb dX2_readSum_11 rfl (lv_at hl 0 rfl) ?_
    refine lv_sipush (v := 400) hx hb dX2_readSum_12 (by decide) ?_
    refine lv_icmp_ge (tgt := 77) hx hb dX2_readSum_15 (by decide) (fun c15 => ?_) (fun c15 => ?_)
    · have ic15 : w11.toInt ≥ 400 := zi_ge rfl rfl c15
      refine lv_iconst (v := 1) hx hb dX2_readSum_77 (by decide) ?_
      exact W.zret (v := 1) hx hb hr rfl (fun t ht hW => ⟨⟨1, f12, rfl, ⟨hT, hR, (by first | decide | omega), hB⟩, by rw [ht]; exact hP, va_K.moved hW.alike hK, hD⟩, hS.F ht⟩) hS.2.2 dX2_readSum_78
    · have ic15 : w11.toInt < 400 := zi_gef rfl rfl c15
      refine lv_aload_n hx hb dX2_readSum_18 rfl (lv_at hl 1 rfl) ?_
      refine lv_bipush (v := 43) hx hb dX2_readSum_19 (by decide) ?_
      refine tpk_3 hT ht_h0 (fun o16_x1 o16_x2 o16_x3 o16_x4 o16_x5 o16_x6 o16_x8 o16_x10 o16_x11 o16_x12 o16_x13 o16_x14 o16_x15 hf_o16 ro16_0 ro16_1 ro16_2 ro16_3 ro16_4 ro16_5 ro16_6 => ?_)
      have bo16 : o16_x12.toInt = B0 := by have q9 := hB; rw [hf_o16] at q9; exact q9
      refine tpk_pos (tp_in hG ht_h0 (by decide)) hf_o16 (fun q17 eq17 => ?_)
      refine pz_calli (va_runV (As := [.int 43]) (rest := []) ⟨hx, hb, hml, hown, hts⟩ (t_X2_isSign l dC dI _ Ω κ τ ν ρ L f12 hG hT h0 (43) ht_h0) (cwV 1 hts gX2_readSum_X2_isSign rfl rfl rfl ⟨rfl, pd_X2_isSign⟩ ⟨Nat.le_of_ble_eq_true rfl, Nat.le_of_ble_eq_true rfl⟩) ⟨pz_blind, va_recv hK hP (ci := 2) (q0 := q17) rfl eq17, pz_pre hP hK hD hN⟩ rfl rfl hl.1 rfl (lv_room (Nat.le_of_ble_eq_true rfl)) dX2_readSum_21 ⟨Nat.le_of_ble_eq_true rfl, Nat.le_of_ble_eq_true rfl⟩) (fun r18 hw19 => ?_)
      obtain ⟨hw19r, hw19p⟩ := hw19
      refine tp_join 36 (fun H locs ls stk => stk = [] ∧ va_P (dC, dI) vwCl (va_pl L f12) H ∧ va_D A (va_pl L f12) ∧ va_S A s.heap H locs ∧ lv_has ls 3 [(1, .int w11), (0, .ref h0)]) ?_ (fun hj20 => ?_)
      · intro H locs ls stk hI
        refine tn_5 hI (fun e90 hP hD hS hl => ?_)
        clear hI; subst e90
        refine lv_aload_n hx hb dX2_readSum_36 rfl (lv_at hl 1 rfl) ?_
        refine lv_bipush (v := 43) hx hb dX2_readSum_37 (by decide) ?_
        refine pz_calli (va_runV (As := [.int 43]) (rest := []) ⟨hx, hb, hml, hown, hts⟩ (t_X2_isSign l dC dI _ Ω κ τ ν ρ L f12 hG hT h0 (43) ht_h0) (cwV 1 hts gX2_readSum_X2_isSign rfl rfl rfl ⟨rfl, pd_X2_isSign⟩ ⟨Nat.le_of_ble_eq_true rfl, Nat.le_of_ble_eq_true rfl⟩) ⟨pz_blind, va_recv hK hP (ci := 2) (q0 := q17) rfl eq17, pz_pre hP hK hD hN⟩ rfl rfl hl.1 rfl (lv_room (Nat.le_of_ble_eq_true rfl)) dX2_readSum_39 ⟨Nat.le_of_ble_eq_true rfl, Nat.le_of_ble_eq_true rfl⟩) (fun r21 hw22 => ?_)
        obtain ⟨hw22r, hw22p⟩ := hw22
        refine tp_join 52 (fun H locs ls stk => ∃ w23 : Int32, stk = [.int w23] ∧ ((-12) ≤ w23.toInt ∧ w23.toInt ≤ (-11)) ∧ va_P (dC, dI) vwCl (va_pl L f12) H ∧ va_D A (va_pl L f12) ∧ va_S A s.heap H locs ∧ lv_has ls 3 [(1, .int w11), (0, .ref h0)]) ?_ (fun hj24 => ?_)
        · intro H locs ls stk hI
          refine Exists.elim hI (fun w23 hE90 => tn_6 hE90 (fun e90 rw23 hP hD hS hl => ?_))
          clear hE90 hI; subst e90
          refine lv_istore_n (lv' := [(2, .int w23), (1, .int w11), (0, .ref h0)]) hx hb dX2_readSum_52 rfl hl (by decide) rfl (fun ls hl => ?_)
          refine lv_aload_n hx hb dX2_readSum_53 rfl (lv_at hl 2 rfl) ?_
          have hFc := tp_fr hD hS hA
          refine va_callv (va_runV (As := []) (rest := []) ⟨hx, hb, hml, hown, hts⟩ (t_X2_advance l dC dI _ Ω κ τ ν ρ L f12 hG hT h0 B0 ht_h0 hB) (cwV 0 hts gX2_readSum_X2_advance rfl rfl rfl ⟨rfl, pd_X2_advance⟩ ⟨Nat.le_of_ble_eq_true rfl, Nat.le_of_ble_eq_true rfl⟩) ⟨pz_blind, va_recv hK hP (ci := 2) (q0 := q17) rfl eq17, pz_pre hP hK hD hN⟩ rfl rfl hl.1 rfl (lv_room (Nat.le_of_ble_eq_true rfl)) dX2_readSum_54 ⟨Nat.le_of_ble_eq_true rfl, Nat.le_of_ble_eq_true rfl⟩) hS (fun q _ h => hFc q h) hFc (fun f27 t H1 locs ht hvm hw26 hB hz1 hk1 hS => ?_)
          refine tn_3 hw26 (fun hT hF28 hw26p => ?_); clear hw26
          have hR := hR.then hF28 (by decide)
          have hP := hB.1; rw [ht] at hP; have hD := tp_ad f27 hD; clear hB hFc hz1 hk1; subst ht; generalize t.heap = H at hP hS ⊢
          have hB := hw26p
          refine lv_aload_n hx hb dX2_readSum_57 rfl (lv_at hl 2 rfl) ?_
          refine tpk_3 hT ht_h0 (fun o29_x1 o29_x2 o29_x3 o29_x4 o29_x5 o29_x6 o29_x8 o29_x10 o29_x11 o29_x12 o29_x13 o29_x14 o29_x15 hf_o29 ro29_0 ro29_1 ro29_2 ro29_3 ro29_4 ro29_5 ro29_6 => ?_)
          have bo29 : o29_x12.toInt = B0 := by have q9 := hB; rw [hf_o29] at q9; exact q9
          refine tpk_pos (tp_in hG ht_h0 (by decide)) hf_o29 (fun q30 eq30 => ?_)
          have hFc := tp_fr hD hS hA
          refine va_calli (va_runV (As := []) (rest := []) ⟨hx, hb, hml, hown, hts⟩ (t_X2_readTerm0 l dC dI _ Ω κ τ ν ρ L f27 hG hT adK adV zv h0 B0 ht_h0 hB (by omega)) (cwV 0 hts gX2_readSum_X2_readTerm rfl rfl rfl ⟨rfl, pd_X2_readTerm⟩ ⟨Nat.le_of_ble_eq_true rfl, Nat.le_of_ble_eq_true rfl⟩) ⟨pw_blindZ, va_recv hK hP (ci := 2) (q0 := q30) rfl eq30, pw_preZ hP hK hD hN hZ hS (tp_fr hD hS hA)⟩ rfl rfl hl.1 rfl (lv_room (Nat.le_of_ble_eq_true rfl)) dX2_readSum_58 ⟨Nat.le_of_ble_eq_true rfl, Nat.le_of_ble_eq_true rfl⟩) hS (fun q _ h => hFc q h) hFc (fun r31 f33 t H1 locs ht hvm hw32 hB hz1 hk1 hS => ?_)
          refine tn_4 hw32 (fun hT hF34 hw32r hw32p => ?_); clear hw32
          have hR := hR.then hF34 (by decide)
          have hP := hB.1; rw [ht] at hP; have hD := tp_ad f33 hD; clear hB hFc hz1 hk1; subst ht; generalize t.heap = H at hP hS ⊢
          have hB := hw32p
          refine lv_if_ne (tgt := 66) hx hb dX2_readSum_61 (by decide) (fun c35 => ?_) (fun c35 => ?_)
          · have ic35 : r31.toInt ≠ 0 := zi_ne rfl rfl c35
            refine lv_aload_n hx hb dX2_readSum_66 rfl (lv_at hl 2 rfl) ?_
            refine lv_iload_n hx hb dX2_readSum_67 rfl (lv_at hl 0 rfl) ?_
            refine tpk_3 hT ht_h0 (fun o36_x1 o36_x2 o36_x3 o36_x4 o36_x5 o36_x6 o36_x8 o36_x10 o36_x11 o36_x12 o36_x13 o36_x14 o36_x15 hf_o36 ro36_0 ro36_1 ro36_2 ro36_3 ro36_4 ro36_5 ro36_6 => ?_)
            have bo36 : o36_x12.toInt = B0 := by have q9 := hB; rw [hf_o36] at q9; exact q9
            refine tpk_pos (tp_in hG ht_h0 (by decide)) hf_o36 (fun q37 eq37 => ?_)
            have hFc := tp_fr hD hS hA
            refine va_callv (va_runV (As := [.int w23]) (rest := []) ⟨hx, hb, hml, hown, hts⟩ (t_X2_emit l dC dI _ Ω κ τ ν ρ L f33 hG hT h0 w23 B0 ht_h0 (by first | decide | omega) hB) (cwV 1 hts gX2_readSum_X2_emit rfl rfl rfl ⟨rfl, pd_X2_emit⟩ ⟨Nat.le_of_ble_eq_true rfl, Nat.le_of_ble_eq_true rfl⟩) ⟨pz_blind, va_recv hK hP (ci := 2) (q0 := q37) rfl eq37, pz_pre hP hK hD hN⟩ rfl rfl hl.1 rfl (lv_room (Nat.le_of_ble_eq_true rfl)) dX2_readSum_68 ⟨Nat.le_of_ble_eq_true rfl, Nat.le_of_ble_eq_true rfl⟩) hS (fun q _ h => hFc q h) hFc (fun f40 t H1 locs ht hvm hw39 hB hz1 hk1 hS => ?_)
            refine tn_3 hw39 (fun hT hF41 hw39p => ?_); clear hw39
            have hR := hR.then hF41 (by decide)
            have hP := hB.1; rw [ht] at hP; have hD := tp_ad f40 hD; clear hB hFc hz1 hk1; subst ht; generalize t.heap = H at hP hS ⊢
            have hB := hw39p
            obtain ⟨z42, ez42⟩ : ∃ y : Int32, y = w11 + 1 := ⟨_, rfl⟩
            refine lv_iinc (v := z42) (lv' := [(1, .int z42), (2, .int w23), (0, .ref h0)]) hx hb dX2_readSum_71 hl (k := 1) rfl (by rw [ez42]; rfl) (by decide) rfl (fun ls hl => ?_)
            have iz42 : z42.toInt = w11.toInt + 1 := zi_add ez42 rfl rfl (by omega) (by omega)
            refine lv_goto (tgt := 11) hx hb dX2_readSum_74 (by decide) ?_
            exact ih13 _ _ _ _ (by rw [hn14]; omega) ⟨f40, z42, rfl, hT, hR, hB, (by omega), hP, hD, hS, lv_sub hl [0, 2] rfl⟩
          · have ic35 : r31.toInt = 0 := zi_nef rfl rfl c35
            refine lv_iconst (v := 0) hx hb dX2_readSum_64 (by decide) ?_
            exact W.zret (v := 0) hx hb hr rfl (fun t ht hW => ⟨⟨0, f33, rfl, ⟨hT, hR, (by first | decide | omega), hB⟩, by rw [ht]; exact hP, va_K.moved hW.alike hK, hD⟩, hS.F ht⟩) hS.2.2 dX2_readSum_65
        · refine lv_if_eq (tgt := 50) hx hb dX2_readSum_42 (by decide) (fun c43 => ?_) (fun c43 => ?_)
          · have ic43 : r21.toInt = 0 := zi_eq rfl rfl c43
            refine lv_bipush (v := (-12)) hx hb dX2_readSum_50 (by decide) ?_
            exact hj24 _ _ _ _ ⟨(-12), rfl, (by have : ((-12) : Int32).toInt = (-12) := rfl; omega), hP, hD, hS, lv_sub hl [0, 1] rfl⟩
          · have ic43 : r21.toInt ≠ 0 := zi_eqf rfl rfl c43
            refine lv_bipush (v := (-11)) hx hb dX2_readSum_45 (by decide) ?_
            refine lv_goto (tgt := 52) hx hb dX2_readSum_47 (by decide) ?_
            exact hj24 _ _ _ _ ⟨(-11), rfl, (by have : ((-11) : Int32).toInt = (-11) := rfl; omega), hP, hD, hS, lv_sub hl [0, 1] rfl⟩
      · refine lv_if_ne (tgt := 36) hx hb dX2_readSum_24 (by decide) (fun c44 => ?_) (fun c44 => ?_)
        · have ic44 : r18.toInt ≠ 0 := zi_ne rfl rfl c44
          exact hj20 _ _ _ _ ⟨rfl, hP, hD, hS, lv_sub hl [0, 1] rfl⟩
        · have ic44 : r18.toInt = 0 := zi_nef rfl rfl c44
          refine lv_aload_n hx hb dX2_readSum_27 rfl (lv_at hl 1 rfl) ?_
          refine lv_bipush (v := 45) hx hb dX2_readSum_28 (by decide) ?_
          refine pz_calli (va_runV (As := [.int 45]) (rest := []) ⟨hx, hb, hml, hown, hts⟩ (t_X2_isSign l dC dI _ Ω κ τ ν ρ L f12 hG hT h0 (45) ht_h0) (cwV 1 hts gX2_readSum_X2_isSign rfl rfl rfl ⟨rfl, pd_X2_isSign⟩ ⟨Nat.le_of_ble_eq_true rfl, Nat.le_of_ble_eq_true rfl⟩) ⟨pz_blind, va_recv hK hP (ci := 2) (q0 := q17) rfl eq17, pz_pre hP hK hD hN⟩ rfl rfl hl.1 rfl (lv_room (Nat.le_of_ble_eq_true rfl)) dX2_readSum_30 ⟨Nat.le_of_ble_eq_true rfl, Nat.le_of_ble_eq_true rfl⟩) (fun r45 hw46 => ?_)
          obtain ⟨hw46r, hw46p⟩ := hw46
          refine lv_if_eq (tgt := 77) hx hb dX2_readSum_33 (by decide) (fun c47 => ?_) (fun c47 => ?_)
          · have ic47 : r45.toInt = 0 := zi_eq rfl rfl c47
            refine lv_iconst (v := 1) hx hb dX2_readSum_77 (by decide) ?_
            exact W.zret (v := 1) hx hb hr rfl (fun t ht hW => ⟨⟨1, f12, rfl, ⟨hT, hR, (by first | decide | omega), hB⟩, by rw [ht]; exact hP, va_K.moved hW.alike hK, hD⟩, hS.F ht⟩) hS.2.2 dX2_readSum_78
          · have ic47 : r45.toInt ≠ 0 := zi_eqf rfl rfl c47
            exact hj20 _ _ _ _ ⟨rfl, hP, hD, hS, lv_sub hl [0, 1] rfl⟩
  · have ic10 : r6.toInt = 0 := zi_nef rfl rfl c10
    refine lv_iconst (v := 0) hx hb dX2_readSum_7 (by decide) ?_
    exact W.zret (v := 0) hx hb hr rfl (fun t ht hW => ⟨⟨0, f8, rfl, ⟨hT, hR, (by first | decide | omega), hB⟩, by rw [ht]; exact hP, va_K.moved hW.alike hK, hD⟩, hS.F ht⟩) hS.2.2 dX2_readSum_8
set_option maxHeartbeats 4000000 in
set_option maxRecDepth 100000 in
theorem t_X2_readCompared0 (l : Launch) (dC : Nat → ClassId) (dI : Nat → Nat → Nat) (sz : Nat) (Ω : Nat → Nat → (Nat → Nat) → va_E → Prop) (κ : Nat → ClassId) (τ ν : Nat → Nat) (ρ : Nat → Nat → Nat) (L : List Nat) (f : Nat → va_E) (hG : tp_G τ ν ρ L) (hT : tp_T Ω κ τ ν ρ f) (adK adV : Nat → Nat) (zv : Option Nat) (h0 : Nat) (B0 : Int) (ht_h0 : τ h0 = 3) (hB : tp_fld (f h0) 12 = B0) (hBr : B0 = 0) : Met l yX2_readCompared wqX2_readCompared ({ frames := 76, cells := 0, slots := 0, locals := 30000 }) (va_Pc [.ref h0] (pw_BZ dC dI (tp_K κ) (va_pl L f) sz adK adV zv)) (va_Qi (fun (r : Int32) (f1 : Nat → va_E) => tp_T Ω κ τ ν ρ f1 ∧ tp_F τ [3, 20, 28] f f1 ∧ (0 ≤ r.toInt ∧ r.toInt ≤ 1) ∧ tp_fld (f1 h0) 12 = B0) (fun (f1 : Nat → va_E) (t : State) => pz_E dC dI (tp_K κ) (va_A (va_pl L f) sz) (va_pl L f1) t) (va_A (va_pl L f) sz)) 0 0 (va_A (va_pl L f) sz) := by
  refine Met.ofW (cc := cX2_readCompared) (maxL := 2) (ret := some .boolean) (by decide) rfl ?_
  intro p e s m args below meth c s₁ B hml hv
  obtain ⟨rfl, ⟨hsz, hP, hK, hD0, hN⟩, hZ⟩ := hv
  have hx := B.exec
  have hb := B.bytes
  have hr := B.returns
  have hts := fun (w : Cond) (h : w ∈ WALL) => atoms_spec (ws := wqX2_readCompared) B.pre w (List.mem_cons_of_mem _ h)
  have hown : s.vm.findClass RX2 = some m.cls := findClass_of_methodNamed B.named
  have hlocks := B.notSynchronized
  subst hsz
  have hD := hD0.self (sz := s.heap.size)
  generalize hAe : va_A (va_pl L f) s.heap.size = A at hD hZ ⊢
  have hA : ∀ q : Nat, s.heap.size ≤ q → A q := fun q h => by rw [← hAe]; exact Or.inr h
  have hS : va_S A s.heap s.heap [] := va_S.rf
  have hR : tp_F τ [3, 20, 28] f f := tp_F.rf
  have hl := lv_entry ([.ref h0]) (n := 2) (Nat.le_of_ble_eq_true rfl)
  rw [lg_entry_eq]
  generalize (lg_sl ([.ref h0]) ++ List.replicate (2 - (lg_sl ([.ref h0])).length) Slot.unset).toArray = ls at hl ⊢
  have hl : lv_has ls 2 [(0, .ref h0)] := hl
  refine lv_aload_n hx hb dX2_readCompared_0 rfl (lv_at hl 0 rfl) ?_
  refine tgk_3 hG ht_h0 (fun y1 y1n y2 y2n y3 y3n => ?_)
  refine tpk_3 hT ht_h0 (fun o4_x1 o4_x2 o4_x3 o4_x4 o4_x5 o4_x6 o4_x8 o4_x10 o4_x11 o4_x12 o4_x13 o4_x14 o4_x15 hf_o4 ro4_0 ro4_1 ro4_2 ro4_3 ro4_4 ro4_5 ro4_6 => ?_)
  have bo4 : o4_x12.toInt = B0 := by have q9 := hB; rw [hf_o4] at q9; exact q9
  refine tpk_pos (tp_in hG ht_h0 (by decide)) hf_o4 (fun q5 eq5 => ?_)
  have hFc := tp_fr hD hS hA
  refine va_calli (va_runV (As := []) (rest := []) ⟨hx, hb, hml, hown, hts⟩ (t_X2_readSum0 l dC dI _ Ω κ τ ν ρ L f hG hT adK adV zv h0 B0 ht_h0 hB (by omega)) (cwV 0 hts gX2_readCompared_X2_readSum rfl rfl rfl ⟨rfl, pd_X2_readSum⟩ ⟨Nat.le_of_ble_eq_true rfl, Nat.le_of_ble_eq_true rfl⟩) ⟨pw_blindZ, va_recv hK hP (ci := 2) (q0 := q5) rfl eq5, pw_preZ hP hK hD hN hZ hS (tp_fr hD hS hA)⟩ rfl rfl hl.1 rfl (lv_room (Nat.le_of_ble_eq_true rfl)) dX2_readCompared_1 ⟨Nat.le_of_ble_eq_true rfl, Nat.le_of_ble_eq_true rfl⟩) hS (fun q _ h => hFc q h) hFc (fun r6 f8 t H1 locs ht hvm hw7 hB hz1 hk1 hS => ?_)
  refine tn_4 hw7 (fun hT hF9 hw7r hw7p => ?_); clear hw7
  have hR := hR.then hF9 (by decide)
  have hP := hB.1; rw [ht] at hP; have hD := tp_ad f8 hD; clear hB hFc hz1 hk1; subst ht; generalize t.heap = H at hP hS ⊢
  have hB := hw7p
  refine lv_if_ne (tgt := 9) hx hb dX2_readCompared_4 (by decide) (fun c10 => ?_) (fun c10 => ?_)
  · have ic10 : r6.toInt ≠ 0 := zi_ne rfl rfl c10
    refine lv_aload_n hx hb dX2_readCompared_9 rfl (lv_at hl 0 rfl) ?_
    refine lv_bipush (v := 60) hx hb dX2_readCompared_10 (by decide) ?_
    refine tpk_3 hT ht_h0 (fun o11_x1 o11_x2 o11_x3 o11_x4 o11_x5 o11_x6 o11_x8 o11_x10 o11_x11 o11_x12 o11_x13 o11_x14 o11_x15 hf_o11 ro11_0 ro11_1 ro11_2 ro11_3 ro11_4 ro11_5 ro11_6 => ?_)
    have bo11 : o11_x12.toInt = B0 := by have q9 := hB; rw [hf_o11] at q9; exact q9
    refine tpk_pos (tp_in hG ht_h0 (by decide)) hf_o11 (fun q12 eq12 => ?_)
    refine pz_calli (va_runV (As := [.int 60]) (rest := []) ⟨hx, hb, hml, hown, hts⟩ (t_X2_isSign l dC dI _ Ω κ τ ν ρ L f8 hG hT h0 (60) ht_h0) (cwV 1 hts gX2_readCompared_X2_isSign rfl rfl rfl ⟨rfl, pd_X2_isSign⟩ ⟨Nat.le_of_ble_eq_true rfl, Nat.le_of_ble_eq_true rfl⟩) ⟨pz_blind, va_recv hK hP (ci := 2) (q0 := q12) rfl eq12, pz_pre hP hK hD hN⟩ rfl rfl hl.1 rfl (lv_room (Nat.le_of_ble_eq_true rfl)) dX2_readCompared_12 ⟨Nat.le_of_ble_eq_true rfl, Nat.le_of_ble_eq_true rfl⟩) (fun r13 hw14 => ?_)
    obtain ⟨hw14r, hw14p⟩ := hw14
    refine tp_join 39 (fun H locs ls stk => ∃ w15 : Int32, stk = [.int w15] ∧ ((-17) ≤ w15.toInt ∧ w15.toInt ≤ (-15)) ∧ va_P (dC, dI) vwCl (va_pl L f8) H ∧ va_D A (va_pl L f8) ∧ va_S A s.heap H locs ∧ lv_has ls 2 [(0, .ref h0)]) ?_ (fun hj16 => ?_)
    · intro H locs ls stk hI
      refine Exists.elim hI (fun w15 hE90 => tn_6 hE90 (fun e90 rw15 hP hD hS hl => ?_))
      clear hE90 hI; subst e90
      refine lv_istore_n (lv' := [(1, .int w15), (0, .ref h0)]) hx hb dX2_readCompared_39 rfl hl (by decide) rfl (fun ls hl => ?_)
      refine lv_iload_n hx hb dX2_readCompared_40 rfl (lv_at hl 0 rfl) ?_
      refine lv_bipush (v := (-17)) hx hb dX2_readCompared_41 (by decide) ?_
      refine tp_join 57 (fun H locs ls stk => stk = [] ∧ va_P (dC, dI) vwCl (va_pl L f8) H ∧ va_D A (va_pl L f8) ∧ va_S A s.heap H locs ∧ lv_has ls 2 [(1, .int w15), (0, .ref h0)]) ?_ (fun hj17 => ?_)
      · intro H locs ls stk hI
        refine tn_5 hI (fun e90 hP hD hS hl => ?_)
        clear hI; subst e90
        refine lv_aload_n hx hb dX2_readCompared_57 rfl (lv_at hl 1 rfl) ?_
        have hFc := tp_fr hD hS hA
        refine va_callv (va_runV (As := []) (rest := []) ⟨hx, hb, hml, hown, hts⟩ (t_X2_advance l dC dI _ Ω κ τ ν ρ L f8 hG hT h0 B0 ht_h0 hB) (cwV 0 hts gX2_readCompared_X2_advance rfl rfl rfl ⟨rfl, pd_X2_advance⟩ ⟨Nat.le_of_ble_eq_true rfl, Nat.le_of_ble_eq_true rfl⟩) ⟨pz_blind, va_recv hK hP (ci := 2) (q0 := q12) rfl eq12, pz_pre hP hK hD hN⟩ rfl rfl hl.1 rfl (lv_room (Nat.le_of_ble_eq_true rfl)) dX2_readCompared_58 ⟨Nat.le_of_ble_eq_true rfl, Nat.le_of_ble_eq_true rfl⟩) hS (fun q _ h => hFc q h) hFc (fun f20 t H1 locs ht hvm hw19 hB hz1 hk1 hS => ?_)
        refine tn_3 hw19 (fun hT hF21 hw19p => ?_); clear hw19
        have hR := hR.then hF21 (by decide)
        have hP := hB.1; rw [ht] at hP; have hD := tp_ad f20 hD; clear hB hFc hz1 hk1; subst ht; generalize t.heap = H at hP hS ⊢
        have hB := hw19p
        refine lv_aload_n hx hb dX2_readCompared_61 rfl (lv_at hl 1 rfl) ?_
        refine tpk_3 hT ht_h0 (fun o22_x1 o22_x2 o22_x3 o22_x4 o22_x5 o22_x6 o22_x8 o22_x10 o22_x11 o22_x12 o22_x13 o22_x14 o22_x15 hf_o22 ro22_0 ro22_1 ro22_2 ro22_3 ro22_4 ro22_5 ro22_6 => ?_)
        have bo22 : o22_x12.toInt = B0 := by have q9 := hB; rw [hf_o22] at q9; exact q9
        refine tpk_pos (tp_in hG ht_h0 (by decide)) hf_o22 (fun q23 eq23 => ?_)
        have hFc := tp_fr hD hS hA
        refine va_calli (va_runV (As := []) (rest := []) ⟨hx, hb, hml, hown, hts⟩ (t_X2_readSum0 l dC dI _ Ω κ τ ν ρ L f20 hG hT adK adV zv h0 B0 ht_h0 hB (by omega)) (cwV 0 hts gX2_readCompared_X2_readSum rfl rfl rfl ⟨rfl, pd_X2_readSum⟩ ⟨Nat.le_of_ble_eq_true rfl, Nat.le_of_ble_eq_true rfl⟩) ⟨pw_blindZ, va_recv hK hP (ci := 2) (q0 := q23) rfl eq23, pw_preZ hP hK hD hN hZ hS (tp_fr hD hS hA)⟩ rfl rfl hl.1 rfl (lv_room (Nat.le_of_ble_eq_true rfl)) dX2_readCompared_62 ⟨Nat.le_of_ble_eq_true rfl, Nat.le_of_ble_eq_true rfl⟩) hS (fun q _ h => hFc q h) hFc (fun r24 f26 t H1 locs ht hvm hw25 hB hz1 hk1 hS => ?_)
        refine tn_4 hw25 (fun hT hF27 hw25r hw25p => ?_); clear hw25
        have hR := hR.then hF27 (by decide)
        have hP := hB.1; rw [ht] at hP; have hD := tp_ad f26 hD; clear hB hFc hz1 hk1; subst ht; generalize t.heap = H at hP hS ⊢
        have hB := hw25p
        refine lv_if_ne (tgt := 70) hx hb dX2_readCompared_65 (by decide) (fun c28 => ?_) (fun c28 => ?_)
        · have ic28 : r24.toInt ≠ 0 := zi_ne rfl rfl c28
          refine lv_aload_n hx hb dX2_readCompared_70 rfl (lv_at hl 1 rfl) ?_
          refine lv_iload_n hx hb dX2_readCompared_71 rfl (lv_at hl 0 rfl) ?_
          refine tpk_3 hT ht_h0 (fun o29_x1 o29_x2 o29_x3 o29_x4 o29_x5 o29_x6 o29_x8 o29_x10 o29_x11 o29_x12 o29_x13 o29_x14 o29_x15 hf_o29 ro29_0 ro29_1 ro29_2 ro29_3 ro29_4 ro29_5 ro29_6 => ?_)
          have bo29 : o29_x12.toInt = B0 := by have q9 := hB; rw [hf_o29] at q9; exact q9
          refine tpk_pos (tp_in hG ht_h0 (by decide)) hf_o29 (fun q30 eq30 => ?_)
          have hFc := tp_fr hD hS hA
          refine va_callv (va_runV (As := [.int w15]) (rest := []) ⟨hx, hb, hml, hown, hts⟩ (t_X2_emit l dC dI _ Ω κ τ ν ρ L f26 hG hT h0 w15 B0 ht_h0 (by first | decide | omega) hB) (cwV 1 hts gX2_readCompared_X2_emit rfl rfl rfl ⟨rfl, pd_X2_emit⟩ ⟨Nat.le_of_ble_eq_true rfl, Nat.le_of_ble_eq_true rfl⟩) ⟨pz_blind, va_recv hK hP (ci := 2) (q0 := q30) rfl eq30, pz_pre hP hK hD hN⟩ rfl rfl hl.1 rfl (lv_room (Nat.le_of_ble_eq_true rfl)) dX2_readCompared_72 ⟨Nat.le_of_ble_eq_true rfl, Nat.le_of_ble_eq_true rfl⟩) hS (fun q _ h => hFc q h) hFc (fun f33 t H1 locs ht hvm hw32 hB hz1 hk1 hS => ?_)
          refine tn_3 hw32 (fun hT hF34 hw32p => ?_); clear hw32
          have hR := hR.then hF34 (by decide)
          have hP := hB.1; rw [ht] at hP; have hD := tp_ad f33 hD; clear hB hFc hz1 hk1; subst ht; generalize t.heap = H at hP hS ⊢
          have hB := hw32p
          refine lv_iconst (v := 1) hx hb dX2_readCompared_75 (by decide) ?_
          exact W.zret (v := 1) hx hb hr rfl (fun t ht hW => ⟨⟨1, f33, rfl, ⟨hT, hR, (by first | decide | omega), hB⟩, by rw [ht]; exact hP, va_K.moved hW.alike hK, hD⟩, hS.F ht⟩) hS.2.2 dX2_readCompared_76
        · have ic28 : r24.toInt = 0 := zi_nef rfl rfl c28
          refine lv_iconst (v := 0) hx hb dX2_readCompared_68 (by decide) ?_
          exact W.zret (v := 0) hx hb hr rfl (fun t ht hW => ⟨⟨0, f26, rfl, ⟨hT, hR, (by first | decide | omega), hB⟩, by rw [ht]; exact hP, va_K.moved hW.alike hK, hD⟩, hS.F ht⟩) hS.2.2 dX2_readCompared_69
      · refine lv_icmp_ne (tgt := 57) hx hb dX2_readCompared_43 (by decide) (fun c35 => ?_) (fun c35 => ?_)
        · have ic35 : w15.toInt ≠ (-17) := zi_ne rfl rfl c35
          exact hj17 _ _ _ _ ⟨rfl, hP, hD, hS, lv_sub hl [0, 1] rfl⟩
        · have ic35 : w15.toInt = (-17) := zi_nef rfl rfl c35
          refine lv_aload_n hx hb dX2_readCompared_46 rfl (lv_at hl 1 rfl) ?_
          refine lv_bipush (v := 61) hx hb dX2_readCompared_47 (by decide) ?_
          refine pz_calli (va_runV (As := [.int 61]) (rest := []) ⟨hx, hb, hml, hown, hts⟩ (t_X2_isSign l dC dI _ Ω κ τ ν ρ L f8 hG hT h0 (61) ht_h0) (cwV 1 hts gX2_readCompared_X2_isSign rfl rfl rfl ⟨rfl, pd_X2_isSign⟩ ⟨Nat.le_of_ble_eq_true rfl, Nat.le_of_ble_eq_true rfl⟩) ⟨pz_blind, va_recv hK hP (ci := 2) (q0 := q12) rfl eq12, pz_pre hP hK hD hN⟩ rfl rfl hl.1 rfl (lv_room (Nat.le_of_ble_eq_true rfl)) dX2_readCompared_49 ⟨Nat.le_of_ble_eq_true rfl, Nat.le_of_ble_eq_true rfl⟩) (fun r36 hw37 => ?_)
          obtain ⟨hw37r, hw37p⟩ := hw37
          refine lv_if_ne (tgt := 57) hx hb dX2_readCompared_52 (by decide) (fun c38 => ?_) (fun c38 => ?_)
          · have ic38 : r36.toInt ≠ 0 := zi_ne rfl rfl c38
            exact hj17 _ _ _ _ ⟨rfl, hP, hD, hS, lv_sub hl [0, 1] rfl⟩
          · have ic38 : r36.toInt = 0 := zi_nef rfl rfl c38
            refine lv_iconst (v := 0) hx hb dX2_readCompared_55 (by decide) ?_
            exact W.zret (v := 0) hx hb hr rfl (fun t ht hW => ⟨⟨0, f8, rfl, ⟨hT, hR, (by first | decide | omega), hB⟩, by rw [ht]; exact hP, va_K.moved hW.alike hK, hD⟩, hS.F ht⟩) hS.2.2 dX2_readCompared_56
    · refine lv_if_eq (tgt := 23) hx hb dX2_readCompared_15 (by decide) (fun c39 => ?_) (fun c39 => ?_)
      · have ic39 : r13.toInt = 0 := zi_eq rfl rfl c39
        refine lv_aload_n hx hb dX2_readCompared_23 rfl (lv_at hl 0 rfl) ?_
        refine lv_bipush (v := 62) hx hb dX2_readCompared_24 (by decide) ?_
        refine pz_calli (va_runV (As := [.int 62]) (rest := []) ⟨hx, hb, hml, hown, hts⟩ (t_X2_isSign l dC dI _ Ω κ τ ν ρ L f8 hG hT h0 (62) ht_h0) (cwV 1 hts gX2_readCompared_X2_isSign rfl rfl rfl ⟨rfl, pd_X2_isSign⟩ ⟨Nat.le_of_ble_eq_true rfl, Nat.le_of_ble_eq_true rfl⟩) ⟨pz_blind, va_recv hK hP (ci := 2) (q0 := q12) rfl eq12, pz_pre hP hK hD hN⟩ rfl rfl hl.1 rfl (lv_room (Nat.le_of_ble_eq_true rfl)) dX2_readCompared_26 ⟨Nat.le_of_ble_eq_true rfl, Nat.le_of_ble_eq_true rfl⟩) (fun r40 hw41 => ?_)
        obtain ⟨hw41r, hw41p⟩ := hw41
        refine lv_if_eq (tgt := 37) hx hb dX2_readCompared_29 (by decide) (fun c42 => ?_) (fun c42 => ?_)
        · have ic42 : r40.toInt = 0 := zi_eq rfl rfl c42
          refine lv_bipush (v := (-17)) hx hb dX2_readCompared_37 (by decide) ?_
          exact hj16 _ _ _ _ ⟨(-17), rfl, (by have : ((-17) : Int32).toInt = (-17) := rfl; omega), hP, hD, hS, lv_sub hl [0] rfl⟩
        · have ic42 : r40.toInt ≠ 0 := zi_eqf rfl rfl c42
          refine lv_bipush (v := (-16)) hx hb dX2_readCompared_32 (by decide) ?_
          refine lv_goto (tgt := 39) hx hb dX2_readCompared_34 (by decide) ?_
          exact hj16 _ _ _ _ ⟨(-16), rfl, (by have : ((-16) : Int32).toInt = (-16) := rfl; omega), hP, hD, hS, lv_sub hl [0] rfl⟩
      · have ic39 : r13.toInt ≠ 0 := zi_eqf rfl rfl c39
        refine lv_bipush (v := (-15)) hx hb dX2_readCompared_18 (by decide) ?_
        refine lv_goto (tgt := 39) hx hb dX2_readCompared_20 (by decide) ?_
        exact hj16 _ _ _ _ ⟨(-15), rfl, (by have : ((-15) : Int32).toInt = (-15) := rfl; omega), hP, hD, hS, lv_sub hl [0] rfl⟩
  · have ic10 : r6.toInt = 0 := zi_nef rfl rfl c10
    refine lv_iconst (v := 0) hx hb dX2_readCompared_7 (by decide) ?_
    exact W.zret (v := 0) hx hb hr rfl (fun t ht hW => ⟨⟨0, f8, rfl, ⟨hT, hR, (by first | decide | omega), hB⟩, by rw [ht]; exact hP, va_K.moved hW.alike hK, hD⟩, hS.F ht⟩) hS.2.2 dX2_readCompared_8
set_option maxHeartbeats 4000000 in
set_option maxRecDepth 100000 in
theorem t_X2_readPlain0 (l : Launch) (dC : Nat → ClassId) (dI : Nat → Nat → Nat) (sz : Nat) (Ω : Nat → Nat → (Nat → Nat) → va_E → Prop) (κ : Nat → ClassId) (τ ν : Nat → Nat) (ρ : Nat → Nat → Nat) (L : List Nat) (f : Nat → va_E) (hG : tp_G τ ν ρ L) (hT : tp_T Ω κ τ ν ρ f) (adK adV : Nat → Nat) (zv : Option Nat) (h0 : Nat) (B0 : Int) (ht_h0 : τ h0 = 3) (hB : tp_fld (f h0) 12 = B0) (hBr : B0 = 0) : Met l yX2_readPlain wqX2_readPlain ({ frames := 77, cells := 0, slots := 0, locals := 30400 }) (va_Pc [.ref h0] (pw_BZ dC dI (tp_K κ) (va_pl L f) sz adK adV zv)) (va_Qi (fun (r : Int32) (f1 : Nat → va_E) => tp_T Ω κ τ ν ρ f1 ∧ tp_F τ [3, 20, 28] f f1 ∧ (0 ≤ r.toInt ∧ r.toInt ≤ 1) ∧ tp_fld (f1 h0) 12 = B0) (fun (f1 : Nat → va_E) (t : State) => pz_E dC dI (tp_K κ) (va_A (va_pl L f) sz) (va_pl L f1) t) (va_A (va_pl L f) sz)) 0 0 (va_A (va_pl L f) sz) := by
  refine Met.ofW (cc := cX2_readPlain) (maxL := 3) (ret := some .boolean) (by decide) rfl ?_
  intro p e s m args below meth c s₁ B hml hv
  obtain ⟨rfl, ⟨hsz, hP, hK, hD0, hN⟩, hZ⟩ := hv
  have hx := B.exec
  have hb := B.bytes
  have hr := B.returns
  have hts := fun (w : Cond) (h : w ∈ WALL) => atoms_spec (ws := wqX2_readPlain) B.pre w (List.mem_cons_of_mem _ h)
  have hown : s.vm.findClass RX2 = some m.cls := findClass_of_methodNamed B.named
  have hlocks := B.notSynchronized
  subst hsz
  have hD := hD0.self (sz := s.heap.size)
  generalize hAe : va_A (va_pl L f) s.heap.size = A at hD hZ ⊢
  have hA : ∀ q : Nat, s.heap.size ≤ q → A q := fun q h => by rw [← hAe]; exact Or.inr h
  have hS : va_S A s.heap s.heap [] := va_S.rf
  have hR : tp_F τ [3, 20, 28] f f := tp_F.rf
  have hl := lv_entry ([.ref h0]) (n := 3) (Nat.le_of_ble_eq_true rfl)
  rw [lg_entry_eq]
  generalize (lg_sl ([.ref h0]) ++ List.replicate (3 - (lg_sl ([.ref h0])).length) Slot.unset).toArray = ls at hl ⊢
  have hl : lv_has ls 3 [(0, .ref h0)] := hl
  refine lv_iconst (v := 0) hx hb dX2_readPlain_0 (by decide) ?_
  refine lv_istore_n (lv' := [(1, .int 0), (0, .ref h0)]) hx hb dX2_readPlain_1 rfl hl (by decide) rfl (fun ls hl => ?_)
  refine lv_iconst (v := 0) hx hb dX2_readPlain_2 (by decide) ?_
  refine lv_istore_n (lv' := [(2, .int 0), (1, .int 0), (0, .ref h0)]) hx hb dX2_readPlain_3 rfl hl (by decide) rfl (fun ls hl => ?_)
  refine pz_loop (fun n0 H locs ls => ∃ f3 : Nat → va_E, ∃ w1 : Int32, ∃ w2 : Int32, n0 = (400 - (w1.toInt)).toNat ∧ tp_T Ω κ τ ν ρ f3 ∧ tp_F τ [3, 20, 28] f f3 ∧ tp_fld (f3 h0) 12 = B0 ∧ (0 ≤ w1.toInt ∧ w1.toInt ≤ 400) ∧ (0 ≤ w2.toInt ∧ w2.toInt ≤ 1) ∧ va_P (dC, dI) vwCl (va_pl L f3) H ∧ va_D A (va_pl L f3) ∧ va_S A s.heap H locs ∧ lv_has ls 3 [(2, .int w1), (1, .int w2), (0, .ref h0)]) ?_ _ _ _ _ ⟨f, 0, 0, rfl, hT, hR, hB, (by have : (0 : Int32).toInt = 0 := rfl; have : (0 : Int32).toInt = 0 := rfl; omega), (by have : (0 : Int32).toInt = 0 := rfl; have : (0 : Int32).toInt = 0 := rfl; omega), hP, hD, hS, lv_sub hl [0, 1, 2] rfl⟩
  intro n0 H locs ls hI ih4
  refine Exists.elim hI (fun f3 hE90 => Exists.elim hE90 (fun w1 hE91 => Exists.elim hE91 (fun w2 hE92 => tn_10 hE92 (fun hn5 hT hR hB rw1 rw2 hP hD hS hl => ?_))))
  clear hE92 hE91 hE90 hI
  refine lv_iload_n hx hb dX2_readPlain_4 rfl (lv_at hl 0 rfl) ?_
  refine lv_sipush (v := 400) hx hb dX2_readPlain_5 (by decide) ?_
  refine tp_join 36 (fun H locs ls stk => ∃ f7 : Nat → va_E, stk = [] ∧ tp_T Ω κ τ ν ρ f7 ∧ tp_F τ [3, 20, 28] f f7 ∧ tp_fld (f7 h0) 12 = B0 ∧ va_P (dC, dI) vwCl (va_pl L f7) H ∧ va_D A (va_pl L f7) ∧ va_S A s.heap H locs ∧ lv_has ls 3 [(2, .int w1), (1, .int w2), (0, .ref h0)]) ?_ (fun hj6 => ?_)
  · intro H locs ls stk hI
    refine Exists.elim hI (fun f7 hE90 => tn_8 hE90 (fun e90 hT hR hB hP hD hS hl => ?_))
    clear hE90 hI; subst e90
    refine lv_aload_n hx hb dX2_readPlain_36 rfl (lv_at hl 2 rfl) ?_
    refine lv_bipush (v := 40) hx hb dX2_readPlain_37 (by decide) ?_
    refine tgk_3 hG ht_h0 (fun y8 y8n y9 y9n y10 y10n => ?_)
    refine tpk_3 hT ht_h0 (fun o11_x1 o11_x2 o11_x3 o11_x4 o11_x5 o11_x6 o11_x8 o11_x10 o11_x11 o11_x12 o11_x13 o11_x14 o11_x15 hf_o11 ro11_0 ro11_1 ro11_2 ro11_3 ro11_4 ro11_5 ro11_6 => ?_)
    have bo11 : o11_x12.toInt = B0 := by have q9 := hB; rw [hf_o11] at q9; exact q9
    refine tpk_pos (tp_in hG ht_h0 (by decide)) hf_o11 (fun q12 eq12 => ?_)
    refine pz_calli (va_runV (As := [.int 40]) (rest := []) ⟨hx, hb, hml, hown, hts⟩ (t_X2_isSign l dC dI _ Ω κ τ ν ρ L f7 hG hT h0 (40) ht_h0) (cwV 1 hts gX2_readPlain_X2_isSign rfl rfl rfl ⟨rfl, pd_X2_isSign⟩ ⟨Nat.le_of_ble_eq_true rfl, Nat.le_of_ble_eq_true rfl⟩) ⟨pz_blind, va_recv hK hP (ci := 2) (q0 := q12) rfl eq12, pz_pre hP hK hD hN⟩ rfl rfl hl.1 rfl (lv_room (Nat.le_of_ble_eq_true rfl)) dX2_readPlain_39 ⟨Nat.le_of_ble_eq_true rfl, Nat.le_of_ble_eq_true rfl⟩) (fun r13 hw14 => ?_)
    obtain ⟨hw14r, hw14p⟩ := hw14
    refine tp_join 57 (fun H locs ls stk => ∃ f17 : Nat → va_E, ∃ w15 : Int32, stk = [.int w15] ∧ tp_T Ω κ τ ν ρ f17 ∧ tp_F τ [3, 20, 28] f f17 ∧ tp_fld (f17 h0) 12 = B0 ∧ (0 ≤ w15.toInt ∧ w15.toInt ≤ 1) ∧ va_P (dC, dI) vwCl (va_pl L f17) H ∧ va_D A (va_pl L f17) ∧ va_S A s.heap H locs ∧ lv_has ls 3 [(2, .int w1), (1, .int w2), (0, .ref h0)]) ?_ (fun hj16 => ?_)
    · intro H locs ls stk hI
      refine Exists.elim hI (fun f17 hE90 => Exists.elim hE90 (fun w15 hE91 => tn_9 hE91 (fun e90 hT hR hB rw15 hP hD hS hl => ?_)))
      clear hE91 hE90 hI; subst e90
      refine lv_istore_n (lv' := [(2, .int w15), (1, .int w2), (0, .ref h0)]) hx hb dX2_readPlain_57 rfl hl (by decide) rfl (fun ls hl => ?_)
      refine lv_iload_n hx hb dX2_readPlain_58 rfl (lv_at hl 0 rfl) ?_
      refine lv_if_eq (tgt := 72) hx hb dX2_readPlain_59 (by decide) (fun c18 => ?_) (fun c18 => ?_)
      · have ic18 : w15.toInt = 0 := zi_eq rfl rfl c18
        refine lv_iload_n hx hb dX2_readPlain_72 rfl (lv_at hl 0 rfl) ?_
        exact W.zret (v := w15) hx hb hr (zi_narZ (by omega) (by omega)) (fun t ht hW => ⟨⟨w15, f17, rfl, ⟨hT, hR, (by first | decide | omega), hB⟩, by rw [ht]; exact hP, va_K.moved hW.alike hK, hD⟩, hS.F ht⟩) hS.2.2 dX2_readPlain_73
      · have ic18 : w15.toInt ≠ 0 := zi_eqf rfl rfl c18
        refine lv_iload_n hx hb dX2_readPlain_62 rfl (lv_at hl 1 rfl) ?_
        refine lv_if_eq (tgt := 72) hx hb dX2_readPlain_63 (by decide) (fun c19 => ?_) (fun c19 => ?_)
        · have ic19 : w2.toInt = 0 := zi_eq rfl rfl c19
          refine lv_iload_n hx hb dX2_readPlain_72 rfl (lv_at hl 0 rfl) ?_
          exact W.zret (v := w15) hx hb hr (zi_narZ (by omega) (by omega)) (fun t ht hW => ⟨⟨w15, f17, rfl, ⟨hT, hR, (by first | decide | omega), hB⟩, by rw [ht]; exact hP, va_K.moved hW.alike hK, hD⟩, hS.F ht⟩) hS.2.2 dX2_readPlain_73
        · have ic19 : w2.toInt ≠ 0 := zi_eqf rfl rfl c19
          refine lv_aload_n hx hb dX2_readPlain_66 rfl (lv_at hl 2 rfl) ?_
          refine lv_bipush (v := (-18)) hx hb dX2_readPlain_67 (by decide) ?_
          refine tpk_3 hT ht_h0 (fun o20_x1 o20_x2 o20_x3 o20_x4 o20_x5 o20_x6 o20_x8 o20_x10 o20_x11 o20_x12 o20_x13 o20_x14 o20_x15 hf_o20 ro20_0 ro20_1 ro20_2 ro20_3 ro20_4 ro20_5 ro20_6 => ?_)
          have bo20 : o20_x12.toInt = B0 := by have q9 := hB; rw [hf_o20] at q9; exact q9
          refine tpk_pos (tp_in hG ht_h0 (by decide)) hf_o20 (fun q21 eq21 => ?_)
          have hFc := tp_fr hD hS hA
          refine va_callv (va_runV (As := [.int (-18)]) (rest := []) ⟨hx, hb, hml, hown, hts⟩ (t_X2_emit l dC dI _ Ω κ τ ν ρ L f17 hG hT h0 ((-18)) B0 ht_h0 (by first | decide | omega) hB) (cwV 1 hts gX2_readPlain_X2_emit rfl rfl rfl ⟨rfl, pd_X2_emit⟩ ⟨Nat.le_of_ble_eq_true rfl, Nat.le_of_ble_eq_true rfl⟩) ⟨pz_blind, va_recv hK hP (ci := 2) (q0 := q21) rfl eq21, pz_pre hP hK hD hN⟩ rfl rfl hl.1 rfl (lv_room (Nat.le_of_ble_eq_true rfl)) dX2_readPlain_69 ⟨Nat.le_of_ble_eq_true rfl, Nat.le_of_ble_eq_true rfl⟩) hS (fun q _ h => hFc q h) hFc (fun f24 t H1 locs ht hvm hw23 hB hz1 hk1 hS => ?_)
          refine tn_3 hw23 (fun hT hF25 hw23p => ?_); clear hw23
          have hR := hR.then hF25 (by decide)
          have hP := hB.1; rw [ht] at hP; have hD := tp_ad f24 hD; clear hB hFc hz1 hk1; subst ht; generalize t.heap = H at hP hS ⊢
          have hB := hw23p
          refine lv_iload_n hx hb dX2_readPlain_72 rfl (lv_at hl 0 rfl) ?_
          exact W.zret (v := w15) hx hb hr (zi_narZ (by omega) (by omega)) (fun t ht hW => ⟨⟨w15, f24, rfl, ⟨hT, hR, (by first | decide | omega), hB⟩, by rw [ht]; exact hP, va_K.moved hW.alike hK, hD⟩, hS.F ht⟩) hS.2.2 dX2_readPlain_73
    · refine lv_if_eq (tgt := 53) hx hb dX2_readPlain_42 (by decide) (fun c26 => ?_) (fun c26 => ?_)
      · have ic26 : r13.toInt = 0 := zi_eq rfl rfl c26
        refine lv_aload_n hx hb dX2_readPlain_53 rfl (lv_at hl 2 rfl) ?_
        have hFc := tp_fr hD hS hA
        refine va_calli (va_runV (As := []) (rest := []) ⟨hx, hb, hml, hown, hts⟩ (t_X2_readCompared0 l dC dI _ Ω κ τ ν ρ L f7 hG hT adK adV zv h0 B0 ht_h0 hB (by omega)) (cwV 0 hts gX2_readPlain_X2_readCompared rfl rfl rfl ⟨rfl, pd_X2_readCompared⟩ ⟨Nat.le_of_ble_eq_true rfl, Nat.le_of_ble_eq_true rfl⟩) ⟨pw_blindZ, va_recv hK hP (ci := 2) (q0 := q12) rfl eq12, pw_preZ hP hK hD hN hZ hS (tp_fr hD hS hA)⟩ rfl rfl hl.1 rfl (lv_room (Nat.le_of_ble_eq_true rfl)) dX2_readPlain_54 ⟨Nat.le_of_ble_eq_true rfl, Nat.le_of_ble_eq_true rfl⟩) hS (fun q _ h => hFc q h) hFc (fun r27 f29 t H1 locs ht hvm hw28 hB hz1 hk1 hS => ?_)
        refine tn_4 hw28 (fun hT hF30 hw28r hw28p => ?_); clear hw28
        have hR := hR.then hF30 (by decide)
        have hP := hB.1; rw [ht] at hP; have hD := tp_ad f29 hD; clear hB hFc hz1 hk1; subst ht; generalize t.heap = H at hP hS ⊢
        have hB := hw28p
        exact hj16 _ _ _ _ ⟨f29, r27, rfl, hT, hR, hB, (by omega), hP, hD, hS, lv_sub hl [0, 1, 2] rfl⟩
      · have ic26 : r13.toInt ≠ 0 := zi_eqf rfl rfl c26
        refine lv_aload_n hx hb dX2_readPlain_45 rfl (lv_at hl 2 rfl) ?_
        refine lv_iconst (v := 1) hx hb dX2_readPlain_46 (by decide) ?_
        have hFc := tp_fr hD hS hA
        refine va_calli (va_runV (As := [.int 1]) (rest := []) ⟨hx, hb, hml, hown, hts⟩ (t_X2_readInBrackets0 l dC dI _ Ω κ τ ν ρ L f7 hG hT adK adV zv h0 (1) B0 ht_h0 (by first | decide | omega) hB (by first | omega | (have : (1 : Int32).toInt = 1 := rfl; omega))) (cwV 1 hts gX2_readPlain_X2_readInBrackets rfl rfl rfl ⟨rfl, pd_X2_readInBrackets⟩ ⟨Nat.le_of_ble_eq_true rfl, Nat.le_of_ble_eq_true rfl⟩) ⟨pw_blindZ, va_recv hK hP (ci := 2) (q0 := q12) rfl eq12, pw_preZ hP hK hD hN hZ hS (tp_fr hD hS hA)⟩ rfl rfl hl.1 rfl (lv_room (Nat.le_of_ble_eq_true rfl)) dX2_readPlain_47 ⟨Nat.le_of_ble_eq_true rfl, Nat.le_of_ble_eq_true rfl⟩) hS (fun q _ h => hFc q h) hFc (fun r31 f33 t H1 locs ht hvm hw32 hB hz1 hk1 hS => ?_)
        refine tn_4 hw32 (fun hT hF34 hw32r hw32p => ?_); clear hw32
        have hR := hR.then hF34 (by decide)
        have hP := hB.1; rw [ht] at hP; have hD := tp_ad f33 hD; clear hB hFc hz1 hk1; subst ht; generalize t.heap = H at hP hS ⊢
        have hB := hw32p
        refine lv_goto (tgt := 57) hx hb dX2_readPlain_50 (by decide) ?_
        exact hj16 _ _ _ _ ⟨f33, r31, rfl, hT, hR, hB, (by omega), hP, hD, hS, lv_sub hl [0, 1, 2] rfl⟩
  · refine lv_icmp_ge (tgt := 36) hx hb dX2_readPlain_8 (by decide) (fun c35 => ?_) (fun c35 => ?_)
    · have ic35 : w1.toInt ≥ 400 := zi_ge rfl rfl c35
      exact hj6 _ _ _ _ ⟨f3, rfl, hT, hR, hB, hP, hD, hS, lv_sub hl [0, 1, 2] rfl⟩
    · have ic35 : w1.toInt < 400 := zi_gef rfl rfl c35
      refine lv_aload_n hx hb dX2_readPlain_11 rfl (lv_at hl 2 rfl) ?_
      refine va_ldcS hx hb hown (show vk_R RX2 141 "not" (adK 8) s from hZ.2.2.2 8 (by decide)) dX2_readPlain_12 ?_
      refine tgk_3 hG ht_h0 (fun y36 y36n y37 y37n y38 y38n => ?_)
      refine tpk_3 hT ht_h0 (fun o39_x1 o39_x2 o39_x3 o39_x4 o39_x5 o39_x6 o39_x8 o39_x10 o39_x11 o39_x12 o39_x13 o39_x14 o39_x15 hf_o39 ro39_0 ro39_1 ro39_2 ro39_3 ro39_4 ro39_5 ro39_6 => ?_)
      have bo39 : o39_x12.toInt = B0 := by have q9 := hB; rw [hf_o39] at q9; exact q9
      refine tpk_pos (tp_in hG ht_h0 (by decide)) hf_o39 (fun q40 eq40 => ?_)
      have hFc := tp_fr hD hS hA
      refine va_calli (va_runV (As := [.ref (adK 8)]) (rest := []) ⟨hx, hb, hml, hown, hts⟩ (t_X2_passWord l dC dI _ Ω κ τ ν ρ L f3 hG hT adK adV zv h0 8 B0 ht_h0 (by decide) hB) (cwV 1 hts gX2_readPlain_X2_passWord rfl rfl rfl ⟨rfl, pd_X2_passWord⟩ ⟨Nat.le_of_ble_eq_true rfl, Nat.le_of_ble_eq_true rfl⟩) ⟨pw_blindZ, va_recv hK hP (ci := 2) (q0 := q40) rfl eq40, pw_preZ hP hK hD hN hZ hS (tp_fr hD hS hA)⟩ rfl rfl hl.1 rfl (lv_room (Nat.le_of_ble_eq_true rfl)) dX2_readPlain_14 ⟨Nat.le_of_ble_eq_true rfl, Nat.le_of_ble_eq_true rfl⟩) hS (fun q _ h => hFc q h) hFc (fun r41 f43 t H1 locs ht hvm hw42 hB hz1 hk1 hS => ?_)
      refine tn_4 hw42 (fun hT hF44 hw42r hw42p => ?_); clear hw42
      have hR := hR.then hF44 (by decide)
      have hP := hB.1; rw [ht] at hP; have hD := tp_ad f43 hD; clear hB hFc hz1 hk1; subst ht; generalize t.heap = H at hP hS ⊢
      have hB := hw42p
      refine lv_if_eq (tgt := 36) hx hb dX2_readPlain_17 (by decide) (fun c45 => ?_) (fun c45 => ?_)
      · have ic45 : r41.toInt = 0 := zi_eq rfl rfl c45
        exact hj6 _ _ _ _ ⟨f43, rfl, hT, hR, hB, hP, hD, hS, lv_sub hl [0, 1, 2] rfl⟩
      · have ic45 : r41.toInt ≠ 0 := zi_eqf rfl rfl c45
        refine lv_iload_n hx hb dX2_readPlain_20 rfl (lv_at hl 1 rfl) ?_
        refine lv_if_ne (tgt := 28) hx hb dX2_readPlain_21 (by decide) (fun c46 => ?_) (fun c46 => ?_)
        · have ic46 : w2.toInt ≠ 0 := zi_ne rfl rfl c46
          refine lv_iconst (v := 0) hx hb dX2_readPlain_28 (by decide) ?_
          refine lv_istore_n (lv' := [(1, .int 0), (2, .int w1), (0, .ref h0)]) hx hb dX2_readPlain_29 rfl hl (by decide) rfl (fun ls hl => ?_)
          obtain ⟨z47, ez47⟩ : ∃ y : Int32, y = w1 + 1 := ⟨_, rfl⟩
          refine lv_iinc (v := z47) (lv' := [(2, .int z47), (1, .int 0), (0, .ref h0)]) hx hb dX2_readPlain_30 hl (k := 1) rfl (by rw [ez47]; rfl) (by decide) rfl (fun ls hl => ?_)
          have iz47 : z47.toInt = w1.toInt + 1 := zi_add ez47 rfl rfl (by omega) (by omega)
          refine lv_goto (tgt := 4) hx hb dX2_readPlain_33 (by decide) ?_
          exact ih4 _ _ _ _ (by rw [hn5]; omega) ⟨f43, z47, 0, rfl, hT, hR, hB, (by have : (0 : Int32).toInt = 0 := rfl; omega), (by have : (0 : Int32).toInt = 0 := rfl; omega), hP, hD, hS, lv_sub hl [0, 1, 2] rfl⟩
        · have ic46 : w2.toInt = 0 := zi_nef rfl rfl c46
          refine lv_iconst (v := 1) hx hb dX2_readPlain_24 (by decide) ?_
          refine lv_goto (tgt := 29) hx hb dX2_readPlain_25 (by decide) ?_
          refine lv_istore_n (lv' := [(1, .int 1), (2, .int w1), (0, .ref h0)]) hx hb dX2_readPlain_29 rfl hl (by decide) rfl (fun ls hl => ?_)
          obtain ⟨z48, ez48⟩ : ∃ y : Int32, y = w1 + 1 := ⟨_, rfl⟩
          refine lv_iinc (v := z48) (lv' := [(2, .int z48), (1, .int 1), (0, .ref h0)]) hx hb dX2_readPlain_30 hl (k := 1) rfl (by rw [ez48]; rfl) (by decide) rfl (fun ls hl => ?_)
          have iz48 : z48.toInt = w1.toInt + 1 := zi_add ez48 rfl rfl (by omega) (by omega)
          refine lv_goto (tgt := 4) hx hb dX2_readPlain_33 (by decide) ?_
          exact ih4 _ _ _ _ (by rw [hn5]; omega) ⟨f43, z48, 1, rfl, hT, hR, hB, (by have : (1 : Int32).toInt = 1 := rfl; omega), (by have : (1 : Int32).toInt = 1 := rfl; omega), hP, hD, hS, lv_sub hl [0, 1, 2] rfl⟩
set_option maxHeartbeats 4000000 in
set_option maxRecDepth 100000 in
theorem t_X2_readBoth0 (l : Launch) (dC : Nat → ClassId) (dI : Nat → Nat → Nat) (sz : Nat) (Ω : Nat → Nat → (Nat → Nat) → va_E → Prop) (κ : Nat → ClassId) (τ ν : Nat → Nat) (ρ : Nat → Nat → Nat) (L : List Nat) (f : Nat → va_E) (hG : tp_G τ ν ρ L) (hT : tp_T Ω κ τ ν ρ f) (adK adV : Nat → Nat) (zv : Option Nat) (h0 : Nat) (B0 : Int) (ht_h0 : τ h0 = 3) (hB : tp_fld (f h0) 12 = B0) (hBr : B0 = 0) : Met l yX2_readBoth wqX2_readBoth ({ frames := 78, cells := 0, slots := 0, locals := 30800 }) (va_Pc [.ref h0] (pw_BZ dC dI (tp_K κ) (va_pl L f) sz adK adV zv)) (va_Qi (fun (r : Int32) (f1 : Nat → va_E) => tp_T Ω κ τ ν ρ f1 ∧ tp_F τ [3, 20, 28] f f1 ∧ (0 ≤ r.toInt ∧ r.toInt ≤ 1) ∧ tp_fld (f1 h0) 12 = B0) (fun (f1 : Nat → va_E) (t : State) => pz_E dC dI (tp_K κ) (va_A (va_pl L f) sz) (va_pl L f1) t) (va_A (va_pl L f) sz)) 0 0 (va_A (va_pl L f) sz) := by
  refine Met.ofW (cc := cX2_readBoth) (maxL := 3) (ret := some .boolean) (by decide) rfl ?_
  intro p e s m args below meth c s₁ B hml hv
  obtain ⟨rfl, ⟨hsz, hP, hK, hD0, hN⟩, hZ⟩ := hv
  have hx := B.exec
  have hb := B.bytes
  have hr := B.returns
  have hts := fun (w : Cond) (h : w ∈ WALL) => atoms_spec (ws := wqX2_readBoth) B.pre w (List.mem_cons_of_mem _ h)
  have hown : s.vm.findClass RX2 = some m.cls := findClass_of_methodNamed B.named
  have hlocks := B.notSynchronized
  subst hsz
  have hD := hD0.self (sz := s.heap.size)
  generalize hAe : va_A (va_pl L f) s.heap.size = A at hD hZ ⊢
  have hA : ∀ q : Nat, s.heap.size ≤ q → A q := fun q h => by rw [← hAe]; exact Or.inr h
  have hS : va_S A s.heap s.heap [] := va_S.rf
  have hR : tp_F τ [3, 20, 28] f f := tp_F.rf
  have hl := lv_entry ([.ref h0]) (n := 3) (Nat.le_of_ble_eq_true rfl)
  rw [lg_entry_eq]
  generalize (lg_sl ([.ref h0]) ++ List.replicate (3 - (lg_sl ([.ref h0])).length) Slot.unset).toArray = ls at hl ⊢
  have hl : lv_has ls 3 [(0, .ref h0)] := hl
  refine lv_aload_n hx hb dX2_readBoth_0 rfl (lv_at hl 0 rfl) ?_
  refine tgk_3 hG ht_h0 (fun y1 y1n y2 y2n y3 y3n => ?_)
  refine tpk_3 hT ht_h0 (fun o4_x1 o4_x2 o4_x3 o4_x4 o4_x5 o4_x6 o4_x8 o4_x10 o4_x11 o4_x12 o4_x13 o4_x14 o4_x15 hf_o4 ro4_0 ro4_1 ro4_2 ro4_3 ro4_4 ro4_5 ro4_6 => ?_)
  have bo4 : o4_x12.toInt = B0 := by have q9 := hB; rw [hf_o4] at q9; exact q9
  refine tpk_pos (tp_in hG ht_h0 (by decide)) hf_o4 (fun q5 eq5 => ?_)
  have hFc := tp_fr hD hS hA
  refine va_calli (va_runV (As := []) (rest := []) ⟨hx, hb, hml, hown, hts⟩ (t_X2_readPlain0 l dC dI _ Ω κ τ ν ρ L f hG hT adK adV zv h0 B0 ht_h0 hB (by omega)) (cwV 0 hts gX2_readBoth_X2_readPlain rfl rfl rfl ⟨rfl, pd_X2_readPlain⟩ ⟨Nat.le_of_ble_eq_true rfl, Nat.le_of_ble_eq_true rfl⟩) ⟨pw_blindZ, va_recv hK hP (ci := 2) (q0 := q5) rfl eq5, pw_preZ hP hK hD hN hZ hS (tp_fr hD hS hA)⟩ rfl rfl hl.1 rfl (lv_room (Nat.le_of_ble_eq_true rfl)) dX2_readBoth_1 ⟨Nat.le_of_ble_eq_true rfl, Nat.le_of_ble_eq_true rfl⟩) hS (fun q _ h => hFc q h) hFc (fun r6 f8 t H1 locs ht hvm hw7 hB hz1 hk1 hS => ?_)
  refine tn_4 hw7 (fun hT hF9 hw7r hw7p => ?_); clear hw7
  have hR := hR.then hF9 (by decide)
  have hP := hB.1; rw [ht] at hP; have hD := tp_ad f8 hD; clear hB hFc hz1 hk1; subst ht; generalize t.heap = H at hP hS ⊢
  have hB := hw7p
  refine lv_if_ne (tgt := 9) hx hb dX2_readBoth_4 (by decide) (fun c10 => ?_) (fun c10 => ?_)
  · have ic10 : r6.toInt ≠ 0 := zi_ne rfl rfl c10
    refine lv_iconst (v := 0) hx hb dX2_readBoth_9 (by decide) ?_
    refine lv_istore_n (lv' := [(1, .int 0), (0, .ref h0)]) hx hb dX2_readBoth_10 rfl hl (by decide) rfl (fun ls hl => ?_)
    refine pz_loop (fun n0 H locs ls => ∃ f12 : Nat → va_E, ∃ w11 : Int32, n0 = (400 - (w11.toInt)).toNat ∧ tp_T Ω κ τ ν ρ f12 ∧ tp_F τ [3, 20, 28] f f12 ∧ tp_fld (f12 h0) 12 = B0 ∧ (0 ≤ w11.toInt ∧ w11.toInt ≤ 400) ∧ va_P (dC, dI) vwCl (va_pl L f12) H ∧ va_D A (va_pl L f12) ∧ va_S A s.heap H locs ∧ lv_has ls 3 [(1, .int w11), (0, .ref h0)]) ?_ _ _ _ _ ⟨f8, 0, rfl, hT, hR, hB, (by have : (0 : Int32).toInt = 0 := rfl; omega), hP, hD, hS, lv_sub hl [0, 1] rfl⟩
    intro n0 H locs ls hI ih13
    refine Exists.elim hI (fun f12 hE90 => Exists.elim hE90 (fun w11 hE91 => tn_9 hE91 (fun hn14 hT hR hB rw11 hP hD hS hl => ?_)))
    clear hE91 hE90 hI
    refine lv_iload_n hx hb dX2_readBoth_11 rfl (lv_at hl 0 rfl) ?_
    refine lv_sipush (v := 400) hx hb dX2_readBoth_12 (by decide) ?_
    refine lv_icmp_ge (tgt := 54) hx hb dX2_readBoth_15 (by decide) (fun c15 => ?_) (fun c15 => ?_)
    · have ic15 : w11.toInt ≥ 400 := zi_ge rfl rfl c15
      refine lv_iconst (v := 1) hx hb dX2_readBoth_54 (by decide) ?_
      exact W.zret (v := 1) hx hb hr rfl (fun t ht hW => ⟨⟨1, f12, rfl, ⟨hT, hR, (by first | decide | omega), hB⟩, by rw [ht]; exact hP, va_K.moved hW.alike hK, hD⟩, hS.F ht⟩) hS.2.2 dX2_readBoth_55
    · have ic15 : w11.toInt < 400 := zi_gef rfl rfl c15
      refine lv_aload_n hx hb dX2_readBoth_18 rfl (lv_at hl 1 rfl) ?_
      refine va_ldcS hx hb hown (show vk_R RX2 139 "and" (adK 7) s from hZ.2.2.2 7 (by decide)) dX2_readBoth_19 ?_
      refine tpk_3 hT ht_h0 (fun o16_x1 o16_x2 o16_x3 o16_x4 o16_x5 o16_x6 o16_x8 o16_x10 o16_x11 o16_x12 o16_x13 o16_x14 o16_x15 hf_o16 ro16_0 ro16_1 ro16_2 ro16_3 ro16_4 ro16_5 ro16_6 => ?_)
      have bo16 : o16_x12.toInt = B0 := by have q9 := hB; rw [hf_o16] at q9; exact q9
      refine tpk_pos (tp_in hG ht_h0 (by decide)) hf_o16 (fun q17 eq17 => ?_)
      have hFc := tp_fr hD hS hA
      refine va_calli (va_runV (As := [.ref (adK 7)]) (rest := []) ⟨hx, hb, hml, hown, hts⟩ (t_X2_passWord l dC dI _ Ω κ τ ν ρ L f12 hG hT adK adV zv h0 7 B0 ht_h0 (by decide) hB) (cwV 1 hts gX2_readBoth_X2_passWord rfl rfl rfl ⟨rfl, pd_X2_passWord⟩ ⟨Nat.le_of_ble_eq_true rfl, Nat.le_of_ble_eq_true rfl⟩) ⟨pw_blindZ, va_recv hK hP (ci := 2) (q0 := q17) rfl eq17, pw_preZ hP hK hD hN hZ hS (tp_fr hD hS hA)⟩ rfl rfl hl.1 rfl (lv_room (Nat.le_of_ble_eq_true rfl)) dX2_readBoth_21 ⟨Nat.le_of_ble_eq_true rfl, Nat.le_of_ble_eq_true rfl⟩) hS (fun q _ h => hFc q h) hFc (fun r18 f20 t H1 locs ht hvm hw19 hB hz1 hk1 hS => ?_)
      refine tn_4 hw19 (fun hT hF21 hw19r hw19p => ?_); clear hw19
      have hR := hR.then hF21 (by decide)
      have hP := hB.1; rw [ht] at hP; have hD := tp_ad f20 hD; clear hB hFc hz1 hk1; subst ht; generalize t.heap = H at hP hS ⊢
      have hB := hw19p
      refine lv_if_eq (tgt := 54) hx hb dX2_readBoth_24 (by decide) (fun c22 => ?_) (fun c22 => ?_)
      · have ic22 : r18.toInt = 0 := zi_eq rfl rfl c22
        refine lv_iconst (v := 1) hx hb dX2_readBoth_54 (by decide) ?_
        exact W.zret (v := 1) hx hb hr rfl (fun t ht hW => ⟨⟨1, f20, rfl, ⟨hT, hR, (by first | decide | omega), hB⟩, by rw [ht]; exact hP, va_K.moved hW.alike hK, hD⟩, hS.F ht⟩) hS.2.2 dX2_readBoth_55
      · have ic22 : r18.toInt ≠ 0 := zi_eqf rfl rfl c22
        refine lv_aload_n hx hb dX2_readBoth_27 rfl (lv_at hl 1 rfl) ?_
        refine lv_bipush (v := (-20)) hx hb dX2_readBoth_28 (by decide) ?_
        refine tpk_3 hT ht_h0 (fun o23_x1 o23_x2 o23_x3 o23_x4 o23_x5 o23_x6 o23_x8 o23_x10 o23_x11 o23_x12 o23_x13 o23_x14 o23_x15 hf_o23 ro23_0 ro23_1 ro23_2 ro23_3 ro23_4 ro23_5 ro23_6 => ?_)
        have bo23 : o23_x12.toInt = B0 := by have q9 := hB; rw [hf_o23] at q9; exact q9
        refine tpk_pos (tp_in hG ht_h0 (by decide)) hf_o23 (fun q24 eq24 => ?_)
        have hFc := tp_fr hD hS hA
        refine va_calli (va_runV (As := [.int (-20)]) (rest := []) ⟨hx, hb, hml, hown, hts⟩ (t_X2_emitJump l dC dI _ Ω κ τ ν ρ L f20 hG hT h0 ((-20)) B0 ht_h0 (by first | decide | omega) hB) (cwV 1 hts gX2_readBoth_X2_emitJump rfl rfl rfl ⟨rfl, pd_X2_emitJump⟩ ⟨Nat.le_of_ble_eq_true rfl, Nat.le_of_ble_eq_true rfl⟩) ⟨pz_blind, va_recv hK hP (ci := 2) (q0 := q24) rfl eq24, pz_pre hP hK hD hN⟩ rfl rfl hl.1 rfl (lv_room (Nat.le_of_ble_eq_true rfl)) dX2_readBoth_30 ⟨Nat.le_of_ble_eq_true rfl, Nat.le_of_ble_eq_true rfl⟩) hS (fun q _ h => hFc q h) hFc (fun r25 f27 t H1 locs ht hvm hw26 hB hz1 hk1 hS => ?_)
        refine tn_4 hw26 (fun hT hF28 hw26r hw26p => ?_); clear hw26
        have hR := hR.then hF28 (by decide)
        have hP := hB.1; rw [ht] at hP; have hD := tp_ad f27 hD; clear hB hFc hz1 hk1; subst ht; generalize t.heap = H at hP hS ⊢
        have hB := hw26p
        refine lv_istore_n (lv' := [(2, .int r25), (1, .int w11), (0, .ref h0)]) hx hb dX2_readBoth_33 rfl hl (by decide) rfl (fun ls hl => ?_)
        refine lv_aload_n hx hb dX2_readBoth_34 rfl (lv_at hl 2 rfl) ?_
        refine tpk_3 hT ht_h0 (fun o29_x1 o29_x2 o29_x3 o29_x4 o29_x5 o29_x6 o29_x8 o29_x10 o29_x11 o29_x12 o29_x13 o29_x14 o29_x15 hf_o29 ro29_0 ro29_1 ro29_2 ro29_3 ro29_4 ro29_5 ro29_6 => ?_)
        have bo29 : o29_x12.toInt = B0 := by have q9 := hB; rw [hf_o29] at q9; exact q9
        refine tpk_pos (tp_in hG ht_h0 (by decide)) hf_o29 (fun q30 eq30 => ?_)
        have hFc := tp_fr hD hS hA
        refine va_calli (va_runV (As := []) (rest := []) ⟨hx, hb, hml, hown, hts⟩ (t_X2_readPlain0 l dC dI _ Ω κ τ ν ρ L f27 hG hT adK adV zv h0 B0 ht_h0 hB (by omega)) (cwV 0 hts gX2_readBoth_X2_readPlain rfl rfl rfl ⟨rfl, pd_X2_readPlain⟩ ⟨Nat.le_of_ble_eq_true rfl, Nat.le_of_ble_eq_true rfl⟩) ⟨pw_blindZ, va_recv hK hP (ci := 2) (q0 := q30) rfl eq30, pw_preZ hP hK hD hN hZ hS (tp_fr hD hS hA)⟩ rfl rfl hl.1 rfl (lv_room (Nat.le_of_ble_eq_true rfl)) dX2_readBoth_35 ⟨Nat.le_of_ble_eq_true rfl, Nat.le_of_ble_eq_true rfl⟩) hS (fun q _ h => hFc q h) hFc (fun r31 f33 t H1 locs ht hvm hw32 hB hz1 hk1 hS => ?_)
        refine tn_4 hw32 (fun hT hF34 hw32r hw32p => ?_); clear hw32
        have hR := hR.then hF34 (by decide)
        have hP := hB.1; rw [ht] at hP; have hD := tp_ad f33 hD; clear hB hFc hz1 hk1; subst ht; generalize t.heap = H at hP hS ⊢
        have hB := hw32p
        refine lv_if_ne (tgt := 43) hx hb dX2_readBoth_38 (by decide) (fun c35 => ?_) (fun c35 => ?_)
        · have ic35 : r31.toInt ≠ 0 := zi_ne rfl rfl c35
          refine lv_aload_n hx hb dX2_readBoth_43 rfl (lv_at hl 2 rfl) ?_
          refine lv_iload_n hx hb dX2_readBoth_44 rfl (lv_at hl 0 rfl) ?_
          refine tpk_3 hT ht_h0 (fun o36_x1 o36_x2 o36_x3 o36_x4 o36_x5 o36_x6 o36_x8 o36_x10 o36_x11 o36_x12 o36_x13 o36_x14 o36_x15 hf_o36 ro36_0 ro36_1 ro36_2 ro36_3 ro36_4 ro36_5 ro36_6 => ?_)
          have bo36 : o36_x12.toInt = B0 := by have q9 := hB; rw [hf_o36] at q9; exact q9
          refine tpk_pos (tp_in hG ht_h0 (by decide)) hf_o36 (fun q37 eq37 => ?_)
          have hFc := tp_fr hD hS hA
          refine va_callv (va_runV (As := [.int r25]) (rest := []) ⟨hx, hb, hml, hown, hts⟩ (t_X2_land l dC dI _ Ω κ τ ν ρ L f33 hG hT h0 r25 B0 ht_h0 hB) (cwV 1 hts gX2_readBoth_X2_land rfl rfl rfl ⟨rfl, pd_X2_land⟩ ⟨Nat.le_of_ble_eq_true rfl, Nat.le_of_ble_eq_true rfl⟩) ⟨pz_blind, va_recv hK hP (ci := 2) (q0 := q37) rfl eq37, pz_pre hP hK hD hN⟩ rfl rfl hl.1 rfl (lv_room (Nat.le_of_ble_eq_true rfl)) dX2_readBoth_45 ⟨Nat.le_of_ble_eq_true rfl, Nat.le_of_ble_eq_true rfl⟩) hS (fun q _ h => hFc q h) hFc (fun f40 t H1 locs ht hvm hw39 hB hz1 hk1 hS => ?_)
          refine tn_3 hw39 (fun hT hF41 hw39p => ?_); clear hw39
          have hR := hR.then hF41 (by decide)
          have hP := hB.1; rw [ht] at hP; have hD := tp_ad f40 hD; clear hB hFc hz1 hk1; subst ht; generalize t.heap = H at hP hS ⊢
          have hB := hw39p
          obtain ⟨z42, ez42⟩ : ∃ y : Int32, y = w11 + 1 := ⟨_, rfl⟩
          refine lv_iinc (v := z42) (lv' := [(1, .int z42), (2, .int r25), (0, .ref h0)]) hx hb dX2_readBoth_48 hl (k := 1) rfl (by rw [ez42]; rfl) (by decide) rfl (fun ls hl => ?_)
          have iz42 : z42.toInt = w11.toInt + 1 := zi_add ez42 rfl rfl (by omega) (by omega)
          refine lv_goto (tgt := 11) hx hb dX2_readBoth_51 (by decide) ?_
          exact ih13 _ _ _ _ (by rw [hn14]; omega) ⟨f40, z42, rfl, hT, hR, hB, (by omega), hP, hD, hS, lv_sub hl [0, 2] rfl⟩
        · have ic35 : r31.toInt = 0 := zi_nef rfl rfl c35
          refine lv_iconst (v := 0) hx hb dX2_readBoth_41 (by decide) ?_
          exact W.zret (v := 0) hx hb hr rfl (fun t ht hW => ⟨⟨0, f33, rfl, ⟨hT, hR, (by first | decide | omega), hB⟩, by rw [ht]; exact hP, va_K.moved hW.alike hK, hD⟩, hS.F ht⟩) hS.2.2 dX2_readBoth_42
  · have ic10 : r6.toInt = 0 := zi_nef rfl rfl c10
    refine lv_iconst (v := 0) hx hb dX2_readBoth_7 (by decide) ?_
    exact W.zret (v := 0) hx hb hr rfl (fun t ht hW => ⟨⟨0, f8, rfl, ⟨hT, hR, (by first | decide | omega), hB⟩, by rw [ht]; exact hP, va_K.moved hW.alike hK, hD⟩, hS.F ht⟩) hS.2.2 dX2_readBoth_8
set_option maxHeartbeats 4000000 in
set_option maxRecDepth 100000 in
theorem t_X2_readTest0 (l : Launch) (dC : Nat → ClassId) (dI : Nat → Nat → Nat) (sz : Nat) (Ω : Nat → Nat → (Nat → Nat) → va_E → Prop) (κ : Nat → ClassId) (τ ν : Nat → Nat) (ρ : Nat → Nat → Nat) (L : List Nat) (f : Nat → va_E) (hG : tp_G τ ν ρ L) (hT : tp_T Ω κ τ ν ρ f) (adK adV : Nat → Nat) (zv : Option Nat) (h0 : Nat) (B0 : Int) (ht_h0 : τ h0 = 3) (hB : tp_fld (f h0) 12 = B0) (hBr : B0 = 0) : Met l yX2_readTest wqX2_readTest ({ frames := 79, cells := 0, slots := 0, locals := 31200 }) (va_Pc [.ref h0] (pw_BZ dC dI (tp_K κ) (va_pl L f) sz adK adV zv)) (va_Qi (fun (r : Int32) (f1 : Nat → va_E) => tp_T Ω κ τ ν ρ f1 ∧ tp_F τ [3, 20, 28] f f1 ∧ (0 ≤ r.toInt ∧ r.toInt ≤ 1) ∧ tp_fld (f1 h0) 12 = B0) (fun (f1 : Nat → va_E) (t : State) => pz_E dC dI (tp_K κ) (va_A (va_pl L f) sz) (va_pl L f1) t) (va_A (va_pl L f) sz)) 0 0 (va_A (va_pl L f) sz) := by
  refine Met.ofW (cc := cX2_readTest) (maxL := 3) (ret := some .boolean) (by decide) rfl ?_
  intro p e s m args below meth c s₁ B hml hv
  obtain ⟨rfl, ⟨hsz, hP, hK, hD0, hN⟩, hZ⟩ := hv
  have hx := B.exec
  have hb := B.bytes
  have hr := B.returns
  have hts := fun (w : Cond) (h : w ∈ WALL) => atoms_spec (ws := wqX2_readTest) B.pre w (List.mem_cons_of_mem _ h)
  have hown : s.vm.findClass RX2 = some m.cls := findClass_of_methodNamed B.named
  have hlocks := B.notSynchronized
  subst hsz
  have hD := hD0.self (sz := s.heap.size)
  generalize hAe : va_A (va_pl L f) s.heap.size = A at hD hZ ⊢
  have hA : ∀ q : Nat, s.heap.size ≤ q → A q := fun q h => by rw [← hAe]; exact Or.inr h
  have hS : va_S A s.heap s.heap [] := va_S.rf
  have hR : tp_F τ [3, 20, 28] f f := tp_F.rf
  have hl := lv_entry ([.ref h0]) (n := 3) (Nat.le_of_ble_eq_true rfl)
  rw [lg_entry_eq]
  generalize (lg_sl ([.ref h0]) ++ List.replicate (3 - (lg_sl ([.ref h0])).length) Slot.unset).toArray = ls at hl ⊢
  have hl : lv_has ls 3 [(0, .ref h0)] := hl
  refine lv_aload_n hx hb dX2_readTest_0 rfl (lv_at hl 0 rfl) ?_
  refine tgk_3 hG ht_h0 (fun y1 y1n y2 y2n y3 y3n => ?_)
  refine tpk_3 hT ht_h0 (fun o4_x1 o4_x2 o4_x3 o4_x4 o4_x5 o4_x6 o4_x8 o4_x10 o4_x11 o4_x12 o4_x13 o4_x14 o4_x15 hf_o4 ro4_0 ro4_1 ro4_2 ro4_3 ro4_4 ro4_5 ro4_6 => ?_)
  have bo4 : o4_x12.toInt = B0 := by have q9 := hB; rw [hf_o4] at q9; exact q9
  refine tpk_pos (tp_in hG ht_h0 (by decide)) hf_o4 (fun q5 eq5 => ?_)
  have hFc := tp_fr hD hS hA
  refine va_calli (va_runV (As := []) (rest := []) ⟨hx, hb, hml, hown, hts⟩ (t_X2_readBoth0 l dC dI _ Ω κ τ ν ρ L f hG hT adK adV zv h0 B0 ht_h0 hB (by omega)) (cwV 0 hts gX2_readTest_X2_readBoth rfl rfl rfl ⟨rfl, pd_X2_readBoth⟩ ⟨Nat.le_of_ble_eq_true rfl, Nat.le_of_ble_eq_true rfl⟩) ⟨pw_blindZ, va_recv hK hP (ci := 2) (q0 := q5) rfl eq5, pw_preZ hP hK hD hN hZ hS (tp_fr hD hS hA)⟩ rfl rfl hl.1 rfl (lv_room (Nat.le_of_ble_eq_true rfl)) dX2_readTest_1 ⟨Nat.le_of_ble_eq_true rfl, Nat.le_of_ble_eq_true rfl⟩) hS (fun q _ h => hFc q h) hFc (fun r6 f8 t H1 locs ht hvm hw7 hB hz1 hk1 hS => ?_)
  refine tn_4 hw7 (fun hT hF9 hw7r hw7p => ?_); clear hw7
  have hR := hR.then hF9 (by decide)
  have hP := hB.1; rw [ht] at hP; have hD := tp_ad f8 hD; clear hB hFc hz1 hk1; subst ht; generalize t.heap = H at hP hS ⊢
  have hB := hw7p
  refine lv_if_ne (tgt := 9) hx hb dX2_readTest_4 (by decide) (fun c10 => ?_) (fun c10 => ?_)
  · have ic10 : r6.toInt ≠ 0 := zi_ne rfl rfl c10
    refine lv_iconst (v := 0) hx hb dX2_readTest_9 (by decide) ?_
    refine lv_istore_n (lv' := [(1, .int 0), (0, .ref h0)]) hx hb dX2_readTest_10 rfl hl (by decide) rfl (fun ls hl => ?_)
    refine pz_loop (fun n0 H locs ls => ∃ f12 : Nat → va_E, ∃ w11 : Int32, n0 = (400 - (w11.toInt)).toNat ∧ tp_T Ω κ τ ν ρ f12 ∧ tp_F τ [3, 20, 28] f f12 ∧ tp_fld (f12 h0) 12 = B0 ∧ (0 ≤ w11.toInt ∧ w11.toInt ≤ 400) ∧ va_P (dC, dI) vwCl (va_pl L f12) H ∧ va_D A (va_pl L f12) ∧ va_S A s.heap H locs ∧ lv_has ls 3 [(1, .int w11), (0, .ref h0)]) ?_ _ _ _ _ ⟨f8, 0, rfl, hT, hR, hB, (by have : (0 : Int32).toInt = 0 := rfl; omega), hP, hD, hS, lv_sub hl [0, 1] rfl⟩
    intro n0 H locs ls hI ih13
    refine Exists.elim hI (fun f12 hE90 => Exists.elim hE90 (fun w11 hE91 => tn_9 hE91 (fun hn14 hT hR hB rw11 hP hD hS hl => ?_)))
    clear hE91 hE90 hI
    refine lv_iload_n hx hb dX2_readTest_11 rfl (lv_at hl 0 rfl) ?_
    refine lv_sipush (v := 400) hx hb dX2_readTest_12 (by decide) ?_
    refine lv_icmp_ge (tgt := 54) hx hb dX2_readTest_15 (by decide) (fun c15 => ?_) (fun c15 => ?_)
    · have ic15 : w11.toInt ≥ 400 := zi_ge rfl rfl c15
      refine lv_iconst (v := 1) hx hb dX2_readTest_54 (by decide) ?_
      exact W.zret (v := 1) hx hb hr rfl (fun t ht hW => ⟨⟨1, f12, rfl, ⟨hT, hR, (by first | decide | omega), hB⟩, by rw [ht]; exact hP, va_K.moved hW.alike hK, hD⟩, hS.F ht⟩) hS.2.2 dX2_readTest_55
    · have ic15 : w11.toInt < 400 := zi_gef rfl rfl c15
      refine lv_aload_n hx hb dX2_readTest_18 rfl (lv_at hl 1 rfl) ?_
      refine va_ldcS hx hb hown (show vk_R RX2 127 "or" (adK 6) s from hZ.2.2.2 6 (by decide)) dX2_readTest_19 ?_
      refine tpk_3 hT ht_h0 (fun o16_x1 o16_x2 o16_x3 o16_x4 o16_x5 o16_x6 o16_x8 o16_x10 o16_x11 o16_x12 o16_x13 o16_x14 o16_x15 hf_o16 ro16_0 ro16_1 ro16_2 ro16_3 ro16_4 ro16_5 ro16_6 => ?_)
      have bo16 : o16_x12.toInt = B0 := by have q9 := hB; rw [hf_o16] at q9; exact q9
      refine tpk_pos (tp_in hG ht_h0 (by decide)) hf_o16 (fun q17 eq17 => ?_)
      have hFc := tp_fr hD hS hA
      refine va_calli (va_runV (As := [.ref (adK 6)]) (rest := []) ⟨hx, hb, hml, hown, hts⟩ (t_X2_passWord l dC dI _ Ω κ τ ν ρ L f12 hG hT adK adV zv h0 6 B0 ht_h0 (by decide) hB) (cwV 1 hts gX2_readTest_X2_passWord rfl rfl rfl ⟨rfl, pd_X2_passWord⟩ ⟨Nat.le_of_ble_eq_true rfl, Nat.le_of_ble_eq_true rfl⟩) ⟨pw_blindZ, va_recv hK hP (ci := 2) (q0 := q17) rfl eq17, pw_preZ hP hK hD hN hZ hS (tp_fr hD hS hA)⟩ rfl rfl hl.1 rfl (lv_room (Nat.le_of_ble_eq_true rfl)) dX2_readTest_21 ⟨Nat.le_of_ble_eq_true rfl, Nat.le_of_ble_eq_true rfl⟩) hS (fun q _ h => hFc q h) hFc (fun r18 f20 t H1 locs ht hvm hw19 hB hz1 hk1 hS => ?_)
      refine tn_4 hw19 (fun hT hF21 hw19r hw19p => ?_); clear hw19
      have hR := hR.then hF21 (by decide)
      have hP := hB.1; rw [ht] at hP; have hD := tp_ad f20 hD; clear hB hFc hz1 hk1; subst ht; generalize t.heap = H at hP hS ⊢
      have hB := hw19p
      refine lv_if_eq (tgt := 54) hx hb dX2_readTest_24 (by decide) (fun c22 => ?_) (fun c22 => ?_)
      · have ic22 : r18.toInt = 0 := zi_eq rfl rfl c22
        refine lv_iconst (v := 1) hx hb dX2_readTest_54 (by decide) ?_
        exact W.zret (v := 1) hx hb hr rfl (fun t ht hW => ⟨⟨1, f20, rfl, ⟨hT, hR, (by first | decide | omega), hB⟩, by rw [ht]; exact hP, va_K.moved hW.alike hK, hD⟩, hS.F ht⟩) hS.2.2 dX2_readTest_55
      · have ic22 : r18.toInt ≠ 0 := zi_eqf rfl rfl c22
        refine lv_aload_n hx hb dX2_readTest_27 rfl (lv_at hl 1 rfl) ?_
        refine lv_bipush (v := (-19)) hx hb dX2_readTest_28 (by decide) ?_
        refine tpk_3 hT ht_h0 (fun o23_x1 o23_x2 o23_x3 o23_x4 o23_x5 o23_x6 o23_x8 o23_x10 o23_x11 o23_x12 o23_x13 o23_x14 o23_x15 hf_o23 ro23_0 ro23_1 ro23_2 ro23_3 ro23_4 ro23_5 ro23_6 => ?_)
        have bo23 : o23_x12.toInt = B0 := by have q9 := hB; rw [hf_o23] at q9; exact q9
        refine tpk_pos (tp_in hG ht_h0 (by decide)) hf_o23 (fun q24 eq24 => ?_)
        have hFc := tp_fr hD hS hA
        refine va_calli (va_runV (As := [.int (-19)]) (rest := []) ⟨hx, hb, hml, hown, hts⟩ (t_X2_emitJump l dC dI _ Ω κ τ ν ρ L f20 hG hT h0 ((-19)) B0 ht_h0 (by first | decide | omega) hB) (cwV 1 hts gX2_readTest_X2_emitJump rfl rfl rfl ⟨rfl, pd_X2_emitJump⟩ ⟨Nat.le_of_ble_eq_true rfl, Nat.le_of_ble_eq_true rfl⟩) ⟨pz_blind, va_recv hK hP (ci := 2) (q0 := q24) rfl eq24, pz_pre hP hK hD hN⟩ rfl rfl hl.1 rfl (lv_room (Nat.le_of_ble_eq_true rfl)) dX2_readTest_30 ⟨Nat.le_of_ble_eq_true rfl, Nat.le_of_ble_eq_true rfl⟩) hS (fun q _ h => hFc q h) hFc (fun r25 f27 t H1 locs ht hvm hw26 hB hz1 hk1 hS => ?_)
        refine tn_4 hw26 (fun hT hF28 hw26r hw26p => ?_); clear hw26
        have hR := hR.then hF28 (by decide)
        have hP := hB.1; rw [ht] at hP; have hD := tp_ad f27 hD; clear hB hFc hz1 hk1; subst ht; generalize t.heap = H at hP hS ⊢
        have hB := hw26p
        refine lv_istore_n (lv' := [(2, .int r25), (1, .int w11), (0, .ref h0)]) hx hb dX2_readTest_33 rfl hl (by decide) rfl (fun ls hl => ?_)
        refine lv_aload_n hx hb dX2_readTest_34 rfl (lv_at hl 2 rfl) ?_
        refine tpk_3 hT ht_h0 (fun o29_x1 o29_x2 o29_x3 o29_x4 o29_x5 o29_x6 o29_x8 o29_x10 o29_x11 o29_x12 o29_x13 o29_x14 o29_x15 hf_o29 ro29_0 ro29_1 ro29_2 ro29_3 ro29_4 ro29_5 ro29_6 => ?_)
        have bo29 : o29_x12.toInt = B0 := by have q9 := hB; rw [hf_o29] at q9; exact q9
        refine tpk_pos (tp_in hG ht_h0 (by decide)) hf_o29 (fun q30 eq30 => ?_)
        have hFc := tp_fr hD hS hA
        refine va_calli (va_runV (As := []) (rest := []) ⟨hx, hb, hml, hown, hts⟩ (t_X2_readBoth0 l dC dI _ Ω κ τ ν ρ L f27 hG hT adK adV zv h0 B0 ht_h0 hB (by omega)) (cwV 0 hts gX2_readTest_X2_readBoth rfl rfl rfl ⟨rfl, pd_X2_readBoth⟩ ⟨Nat.le_of_ble_eq_true rfl, Nat.le_of_ble_eq_true rfl⟩) ⟨pw_blindZ, va_recv hK hP (ci := 2) (q0 := q30) rfl eq30, pw_preZ hP hK hD hN hZ hS (tp_fr hD hS hA)⟩ rfl rfl hl.1 rfl (lv_room (Nat.le_of_ble_eq_true rfl)) dX2_readTest_35 ⟨Nat.le_of_ble_eq_true rfl, Nat.le_of_ble_eq_true rfl⟩) hS (fun q _ h => hFc q h) hFc (fun r31 f33 t H1 locs ht hvm hw32 hB hz1 hk1 hS => ?_)
        refine tn_4 hw32 (fun hT hF34 hw32r hw32p => ?_); clear hw32
        have hR := hR.then hF34 (by decide)
        have hP := hB.1; rw [ht] at hP; have hD := tp_ad f33 hD; clear hB hFc hz1 hk1; subst ht; generalize t.heap = H at hP hS ⊢
        have hB := hw32p
        refine lv_if_ne (tgt := 43) hx hb dX2_readTest_38 (by decide) (fun c35 => ?_) (fun c35 => ?_)
        · have ic35 : r31.toInt ≠ 0 := zi_ne rfl rfl c35
          refine lv_aload_n hx hb dX2_readTest_43 rfl (lv_at hl 2 rfl) ?_
          refine lv_iload_n hx hb dX2_readTest_44 rfl (lv_at hl 0 rfl) ?_
          refine tpk_3 hT ht_h0 (fun o36_x1 o36_x2 o36_x3 o36_x4 o36_x5 o36_x6 o36_x8 o36_x10 o36_x11 o36_x12 o36_x13 o36_x14 o36_x15 hf_o36 ro36_0 ro36_1 ro36_2 ro36_3 ro36_4 ro36_5 ro36_6 => ?_)
          have bo36 : o36_x12.toInt = B0 := by have q9 := hB; rw [hf_o36] at q9; exact q9
          refine tpk_pos (tp_in hG ht_h0 (by decide)) hf_o36 (fun q37 eq37 => ?_)
          have hFc := tp_fr hD hS hA
          refine va_callv (va_runV (As := [.int r25]) (rest := []) ⟨hx, hb, hml, hown, hts⟩ (t_X2_land l dC dI _ Ω κ τ ν ρ L f33 hG hT h0 r25 B0 ht_h0 hB) (cwV 1 hts gX2_readTest_X2_land rfl rfl rfl ⟨rfl, pd_X2_land⟩ ⟨Nat.le_of_ble_eq_true rfl, Nat.le_of_ble_eq_true rfl⟩) ⟨pz_blind, va_recv hK hP (ci := 2) (q0 := q37) rfl eq37, pz_pre hP hK hD hN⟩ rfl rfl hl.1 rfl (lv_room (Nat.le_of_ble_eq_true rfl)) dX2_readTest_45 ⟨Nat.le_of_ble_eq_true rfl, Nat.le_of_ble_eq_true rfl⟩) hS (fun q _ h => hFc q h) hFc (fun f40 t H1 locs ht hvm hw39 hB hz1 hk1 hS => ?_)
          refine tn_3 hw39 (fun hT hF41 hw39p => ?_); clear hw39
          have hR := hR.then hF41 (by decide)
          have hP := hB.1; rw [ht] at hP; have hD := tp_ad f40 hD; clear hB hFc hz1 hk1; subst ht; generalize t.heap = H at hP hS ⊢
          have hB := hw39p
          obtain ⟨z42, ez42⟩ : ∃ y : Int32, y = w11 + 1 := ⟨_, rfl⟩
          refine lv_iinc (v := z42) (lv' := [(1, .int z42), (2, .int r25), (0, .ref h0)]) hx hb dX2_readTest_48 hl (k := 1) rfl (by rw [ez42]; rfl) (by decide) rfl (fun ls hl => ?_)
          have iz42 : z42.toInt = w11.toInt + 1 := zi_add ez42 rfl rfl (by omega) (by omega)
          refine lv_goto (tgt := 11) hx hb dX2_readTest_51 (by decide) ?_
          exact ih13 _ _ _ _ (by rw [hn14]; omega) ⟨f40, z42, rfl, hT, hR, hB, (by omega), hP, hD, hS, lv_sub hl [0, 2] rfl⟩
        · have ic35 : r31.toInt = 0 := zi_nef rfl rfl c35
          refine lv_iconst (v := 0) hx hb dX2_readTest_41 (by decide) ?_
          exact W.zret (v := 0) hx hb hr rfl (fun t ht hW => ⟨⟨0, f33, rfl, ⟨hT, hR, (by first | decide | omega), hB⟩, by rw [ht]; exact hP, va_K.moved hW.alike hK, hD⟩, hS.F ht⟩) hS.2.2 dX2_readTest_42
  · have ic10 : r6.toInt = 0 := zi_nef rfl rfl c10
    refine lv_iconst (v := 0) hx hb dX2_readTest_7 (by decide) ?_
    exact W.zret (v := 0) hx hb hr rfl (fun t ht hW => ⟨⟨0, f8, rfl, ⟨hT, hR, (by first | decide | omega), hB⟩, by rw [ht]; exact hP, va_K.moved hW.alike hK, hD⟩, hS.F ht⟩) hS.2.2 dX2_readTest_8
end
section
theorem gX2_readClauses_X2_readClause : GoodIn WALL (wsV RX2 74 RX2 yX2_readClause wqX2_readClause) := wg_V wa_825 wa_826 wa_827 wa_23 wa_828
theorem gX2_readClauses_X2_passSign : GoodIn WALL (wsV RX2 80 RX2 yX2_passSign wqX2_passSign) := wg_V wa_930 wa_931 wa_932 wa_23 wa_933
theorem dX2_readClauses_0 : decode cX2_readClauses 0 = .ok (.iconst 0, 1) := od_3  (by decide +kernel)
theorem dX2_readClauses_1 : decode cX2_readClauses 1 = .ok (.istore_n 1, 1) := od_60  (by decide +kernel)
theorem dX2_readClauses_2 : decode cX2_readClauses 2 = .ok (.iload_n 1, 1) := od_27  (by decide +kernel)
theorem dX2_readClauses_3 : decode cX2_readClauses 3 = .ok (.bipush 12, 2) := od_16 (a := 12) (by decide +kernel) (by decide +kernel)
theorem dX2_readClauses_5 : decode cX2_readClauses 5 = .ok (.if_icmp .ge 38, 3) := od_162 (a := 0) (b := 38) (by decide +kernel) (by decide +kernel)
theorem dX2_readClauses_8 : decode cX2_readClauses 8 = .ok (.aload_n 0, 1) := od_42  (by decide +kernel)
theorem dX2_readClauses_9 : decode cX2_readClauses 9 = .ok (.invokevirtual 74, 3) := od_182 (a := 0) (b := 74) (by decide +kernel) (by decide)
theorem dX2_readClauses_12 : decode cX2_readClauses 12 = .ok (.ifCond .ne 5, 3) := od_154 (a := 0) (b := 5) (by decide +kernel) (by decide +kernel)
theorem dX2_readClauses_15 : decode cX2_readClauses 15 = .ok (.iconst 0, 1) := od_3  (by decide +kernel)
theorem dX2_readClauses_16 : decode cX2_readClauses 16 = .ok (.ireturn, 1) := od_172  (by decide +kernel)
theorem dX2_readClauses_17 : decode cX2_readClauses 17 = .ok (.aload_n 0, 1) := od_42  (by decide +kernel)
theorem dX2_readClauses_18 : decode cX2_readClauses 18 = .ok (.getfield 77, 3) := od_180 (a := 0) (b := 77) (by decide +kernel) (by decide)
theorem dX2_readClauses_21 : decode cX2_readClauses 21 = .ok (.ifCond .ne 5, 3) := od_154 (a := 0) (b := 5) (by decide +kernel) (by decide +kernel)
theorem dX2_readClauses_24 : decode cX2_readClauses 24 = .ok (.iconst 1, 1) := od_4  (by decide +kernel)
theorem dX2_readClauses_25 : decode cX2_readClauses 25 = .ok (.ireturn, 1) := od_172  (by decide +kernel)
theorem dX2_readClauses_26 : decode cX2_readClauses 26 = .ok (.aload_n 0, 1) := od_42  (by decide +kernel)
theorem dX2_readClauses_27 : decode cX2_readClauses 27 = .ok (.bipush 59, 2) := od_16 (a := 59) (by decide +kernel) (by decide +kernel)
theorem dX2_readClauses_29 : decode cX2_readClauses 29 = .ok (.invokevirtual 80, 3) := od_182 (a := 0) (b := 80) (by decide +kernel) (by decide)
theorem dX2_readClauses_32 : decode cX2_readClauses 32 = .ok (.ifCond .ne 5, 3) := od_154 (a := 0) (b := 5) (by decide +kernel) (by decide +kernel)
theorem dX2_readClauses_35 : decode cX2_readClauses 35 = .ok (.iconst 0, 1) := od_3  (by decide +kernel)
theorem dX2_readClauses_36 : decode cX2_readClauses 36 = .ok (.ireturn, 1) := od_172  (by decide +kernel)
theorem dX2_readClauses_37 : decode cX2_readClauses 37 = .ok (.iinc 1 1, 3) := od_132 (a := 1) (b := 1) (by decide +kernel) (by decide +kernel)
theorem dX2_readClauses_40 : decode cX2_readClauses 40 = .ok (.goto (-38), 3) := od_167 (a := 255) (b := 218) (by decide +kernel) (by decide +kernel)
theorem dX2_readClauses_43 : decode cX2_readClauses 43 = .ok (.iconst 0, 1) := od_3  (by decide +kernel)
theorem dX2_readClauses_44 : decode cX2_readClauses 44 = .ok (.ireturn, 1) := od_172  (by decide +kernel)
theorem gX2_readClause_X2_passWord : GoodIn WALL (wsV RX2 86 RX2 yX2_passWord wqX2_passWord) := wg_V wa_829 wa_830 wa_831 wa_23 wa_832
theorem gX2_readClause_X2_readWindow : GoodIn WALL (wsV RX2 90 RX2 yX2_readWindow wqX2_readWindow) := wg_V wa_886 wa_887 wa_888 wa_23 wa_889
theorem gX2_readClause_X2_isNumber : GoodIn WALL (wsV RX2 95 RX2 yX2_isNumber wqX2_isNumber) := wg_V wa_890 wa_891 wa_892 wa_23 wa_893
theorem gX2_readClause_X2_advance : GoodIn WALL (wsV RX2 53 RX2 yX2_advance wqX2_advance) := wg_V wa_807 wa_808 wa_809 wa_23 wa_810
theorem gX2_readClause_X2_readMoney : GoodIn WALL (wsV RX2 104 RX2 yX2_readMoney wqX2_readMoney) := wg_V wa_894 wa_895 wa_896 wa_23 wa_897
theorem dX2_readClause_0 : decode cX2_readClause 0 = .ok (.aload_n 0, 1) := od_42  (by decide +kernel)
theorem dX2_readClause_1 : decode cX2_readClause 1 = .ok (.ldc 84, 2) := od_18 (n := 84) (by decide +kernel)
theorem dX2_readClause_3 : decode cX2_readClause 3 = .ok (.invokevirtual 86, 3) := od_182 (a := 0) (b := 86) (by decide +kernel) (by decide)
theorem dX2_readClause_6 : decode cX2_readClause 6 = .ok (.ifCond .eq 8, 3) := od_153 (a := 0) (b := 8) (by decide +kernel) (by decide +kernel)
theorem dX2_readClause_9 : decode cX2_readClause 9 = .ok (.aload_n 0, 1) := od_42  (by decide +kernel)
theorem dX2_readClause_10 : decode cX2_readClause 10 = .ok (.invokevirtual 90, 3) := od_182 (a := 0) (b := 90) (by decide +kernel) (by decide)
theorem dX2_readClause_13 : decode cX2_readClause 13 = .ok (.ireturn, 1) := od_172  (by decide +kernel)
theorem dX2_readClause_14 : decode cX2_readClause 14 = .ok (.aload_n 0, 1) := od_42  (by decide +kernel)
theorem dX2_readClause_15 : decode cX2_readClause 15 = .ok (.ldc 93, 2) := od_18 (n := 93) (by decide +kernel)
theorem dX2_readClause_17 : decode cX2_readClause 17 = .ok (.invokevirtual 86, 3) := od_182 (a := 0) (b := 86) (by decide +kernel) (by decide)
theorem dX2_readClause_20 : decode cX2_readClause 20 = .ok (.ifCond .eq 28, 3) := od_153 (a := 0) (b := 28) (by decide +kernel) (by decide +kernel)
theorem dX2_readClause_23 : decode cX2_readClause 23 = .ok (.aload_n 0, 1) := od_42  (by decide +kernel)
theorem dX2_readClause_24 : decode cX2_readClause 24 = .ok (.iconst 0, 1) := od_3  (by decide +kernel)
theorem dX2_readClause_25 : decode cX2_readClause 25 = .ok (.iconst 5, 1) := od_8  (by decide +kernel)
theorem dX2_readClause_26 : decode cX2_readClause 26 = .ok (.invokevirtual 95, 3) := od_182 (a := 0) (b := 95) (by decide +kernel) (by decide)
theorem dX2_readClause_29 : decode cX2_readClause 29 = .ok (.ifCond .ne 5, 3) := od_154 (a := 0) (b := 5) (by decide +kernel) (by decide +kernel)
theorem dX2_readClause_32 : decode cX2_readClause 32 = .ok (.iconst 0, 1) := od_3  (by decide +kernel)
theorem dX2_readClause_33 : decode cX2_readClause 33 = .ok (.ireturn, 1) := od_172  (by decide +kernel)
theorem dX2_readClause_34 : decode cX2_readClause 34 = .ok (.aload_n 0, 1) := od_42  (by decide +kernel)
theorem dX2_readClause_35 : decode cX2_readClause 35 = .ok (.aload_n 0, 1) := od_42  (by decide +kernel)
theorem dX2_readClause_36 : decode cX2_readClause 36 = .ok (.getfield 99, 3) := od_180 (a := 0) (b := 99) (by decide +kernel) (by decide)
theorem dX2_readClause_39 : decode cX2_readClause 39 = .ok (.putfield 50, 3) := od_181 (a := 0) (b := 50) (by decide +kernel) (by decide)
theorem dX2_readClause_42 : decode cX2_readClause 42 = .ok (.aload_n 0, 1) := od_42  (by decide +kernel)
theorem dX2_readClause_43 : decode cX2_readClause 43 = .ok (.invokevirtual 53, 3) := od_182 (a := 0) (b := 53) (by decide +kernel) (by decide)
theorem dX2_readClause_46 : decode cX2_readClause 46 = .ok (.iconst 1, 1) := od_4  (by decide +kernel)
theorem dX2_readClause_47 : decode cX2_readClause 47 = .ok (.ireturn, 1) := od_172  (by decide +kernel)
theorem dX2_readClause_48 : decode cX2_readClause 48 = .ok (.aload_n 0, 1) := od_42  (by decide +kernel)
theorem dX2_readClause_49 : decode cX2_readClause 49 = .ok (.ldc 102, 2) := od_18 (n := 102) (by decide +kernel)
theorem dX2_readClause_51 : decode cX2_readClause 51 = .ok (.invokevirtual 86, 3) := od_182 (a := 0) (b := 86) (by decide +kernel) (by decide)
theorem dX2_readClause_54 : decode cX2_readClause 54 = .ok (.ifCond .eq 10, 3) := od_153 (a := 0) (b := 10) (by decide +kernel) (by decide +kernel)
theorem dX2_readClause_57 : decode cX2_readClause 57 = .ok (.aload_n 0, 1) := od_42  (by decide +kernel)
theorem dX2_readClause_58 : decode cX2_readClause 58 = .ok (.bipush (-22), 2) := od_16 (a := 234) (by decide +kernel) (by decide +kernel)
theorem dX2_readClause_60 : decode cX2_readClause 60 = .ok (.invokevirtual 104, 3) := od_182 (a := 0) (b := 104) (by decide +kernel) (by decide)
theorem dX2_readClause_63 : decode cX2_readClause 63 = .ok (.ireturn, 1) := od_172  (by decide +kernel)
theorem dX2_readClause_64 : decode cX2_readClause 64 = .ok (.aload_n 0, 1) := od_42  (by decide +kernel)
theorem dX2_readClause_65 : decode cX2_readClause 65 = .ok (.ldc 108, 2) := od_18 (n := 108) (by decide +kernel)
theorem dX2_readClause_67 : decode cX2_readClause 67 = .ok (.invokevirtual 86, 3) := od_182 (a := 0) (b := 86) (by decide +kernel) (by decide)
theorem dX2_readClause_70 : decode cX2_readClause 70 = .ok (.ifCond .eq 16, 3) := od_153 (a := 0) (b := 16) (by decide +kernel) (by decide +kernel)
theorem dX2_readClause_73 : decode cX2_readClause 73 = .ok (.aload_n 0, 1) := od_42  (by decide +kernel)
theorem dX2_readClause_74 : decode cX2_readClause 74 = .ok (.bipush (-23), 2) := od_16 (a := 233) (by decide +kernel) (by decide +kernel)
theorem dX2_readClause_76 : decode cX2_readClause 76 = .ok (.invokevirtual 104, 3) := od_182 (a := 0) (b := 104) (by decide +kernel) (by decide)
theorem dX2_readClause_79 : decode cX2_readClause 79 = .ok (.ifCond .eq 7, 3) := od_153 (a := 0) (b := 7) (by decide +kernel) (by decide +kernel)
theorem dX2_readClause_82 : decode cX2_readClause 82 = .ok (.iconst 1, 1) := od_4  (by decide +kernel)
theorem dX2_readClause_83 : decode cX2_readClause 83 = .ok (.goto 4, 3) := od_167 (a := 0) (b := 4) (by decide +kernel) (by decide +kernel)
theorem dX2_readClause_86 : decode cX2_readClause 86 = .ok (.iconst 0, 1) := od_3  (by decide +kernel)
theorem dX2_readClause_87 : decode cX2_readClause 87 = .ok (.ireturn, 1) := od_172  (by decide +kernel)
theorem gX2_readWindow_X2_isNumber : GoodIn WALL (wsV RX2 95 RX2 yX2_isNumber wqX2_isNumber) := wg_V wa_890 wa_891 wa_892 wa_23 wa_893
theorem gX2_readWindow_X2_advance : GoodIn WALL (wsV RX2 53 RX2 yX2_advance wqX2_advance) := wg_V wa_807 wa_808 wa_809 wa_23 wa_810
theorem gX2_readWindow_X2_passWord : GoodIn WALL (wsV RX2 86 RX2 yX2_passWord wqX2_passWord) := wg_V wa_829 wa_830 wa_831 wa_23 wa_832
theorem dX2_readWindow_0 : decode cX2_readWindow 0 = .ok (.aload_n 0, 1) := od_42  (by decide +kernel)
theorem dX2_readWindow_1 : decode cX2_readWindow 1 = .ok (.iconst 0, 1) := od_3  (by decide +kernel)
theorem dX2_readWindow_2 : decode cX2_readWindow 2 = .ok (.sipush 2399, 3) := od_17 (a := 9) (b := 95) (by decide +kernel) (by decide +kernel)
theorem dX2_readWindow_5 : decode cX2_readWindow 5 = .ok (.invokevirtual 95, 3) := od_182 (a := 0) (b := 95) (by decide +kernel) (by decide)
theorem dX2_readWindow_8 : decode cX2_readWindow 8 = .ok (.ifCond .ne 5, 3) := od_154 (a := 0) (b := 5) (by decide +kernel) (by decide +kernel)
theorem dX2_readWindow_11 : decode cX2_readWindow 11 = .ok (.iconst 0, 1) := od_3  (by decide +kernel)
theorem dX2_readWindow_12 : decode cX2_readWindow 12 = .ok (.ireturn, 1) := od_172  (by decide +kernel)
theorem dX2_readWindow_13 : decode cX2_readWindow 13 = .ok (.aload_n 0, 1) := od_42  (by decide +kernel)
theorem dX2_readWindow_14 : decode cX2_readWindow 14 = .ok (.getfield 99, 3) := od_180 (a := 0) (b := 99) (by decide +kernel) (by decide)
theorem dX2_readWindow_17 : decode cX2_readWindow 17 = .ok (.istore_n 1, 1) := od_60  (by decide +kernel)
theorem dX2_readWindow_18 : decode cX2_readWindow 18 = .ok (.aload_n 0, 1) := od_42  (by decide +kernel)
theorem dX2_readWindow_19 : decode cX2_readWindow 19 = .ok (.invokevirtual 53, 3) := od_182 (a := 0) (b := 53) (by decide +kernel) (by decide)
theorem dX2_readWindow_22 : decode cX2_readWindow 22 = .ok (.aload_n 0, 1) := od_42  (by decide +kernel)
theorem dX2_readWindow_23 : decode cX2_readWindow 23 = .ok (.ldc 110, 2) := od_18 (n := 110) (by decide +kernel)
theorem dX2_readWindow_25 : decode cX2_readWindow 25 = .ok (.invokevirtual 86, 3) := od_182 (a := 0) (b := 86) (by decide +kernel) (by decide)
theorem dX2_readWindow_28 : decode cX2_readWindow 28 = .ok (.ifCond .eq 14, 3) := od_153 (a := 0) (b := 14) (by decide +kernel) (by decide +kernel)
theorem dX2_readWindow_31 : decode cX2_readWindow 31 = .ok (.aload_n 0, 1) := od_42  (by decide +kernel)
theorem dX2_readWindow_32 : decode cX2_readWindow 32 = .ok (.iload_n 1, 1) := od_27  (by decide +kernel)
theorem dX2_readWindow_33 : decode cX2_readWindow 33 = .ok (.sipush 2399, 3) := od_17 (a := 9) (b := 95) (by decide +kernel) (by decide +kernel)
theorem dX2_readWindow_36 : decode cX2_readWindow 36 = .ok (.invokevirtual 95, 3) := od_182 (a := 0) (b := 95) (by decide +kernel) (by decide)
theorem dX2_readWindow_39 : decode cX2_readWindow 39 = .ok (.ifCond .ne 5, 3) := od_154 (a := 0) (b := 5) (by decide +kernel) (by decide +kernel)
theorem dX2_readWindow_42 : decode cX2_readWindow 42 = .ok (.iconst 0, 1) := od_3  (by decide +kernel)
theorem dX2_readWindow_43 : decode cX2_readWindow 43 = .ok (.ireturn, 1) := od_172  (by decide +kernel)
theorem dX2_readWindow_44 : decode cX2_readWindow 44 = .ok (.aload_n 0, 1) := od_42  (by decide +kernel)
theorem dX2_readWindow_45 : decode cX2_readWindow 45 = .ok (.iload_n 1, 1) := od_27  (by decide +kernel)
theorem dX2_readWindow_46 : decode cX2_readWindow 46 = .ok (.putfield 44, 3) := od_181 (a := 0) (b := 44) (by decide +kernel) (by decide)
theorem dX2_readWindow_49 : decode cX2_readWindow 49 = .ok (.aload_n 0, 1) := od_42  (by decide +kernel)
theorem dX2_readWindow_50 : decode cX2_readWindow 50 = .ok (.aload_n 0, 1) := od_42  (by decide +kernel)
theorem dX2_readWindow_51 : decode cX2_readWindow 51 = .ok (.getfield 99, 3) := od_180 (a := 0) (b := 99) (by decide +kernel) (by decide)
theorem dX2_readWindow_54 : decode cX2_readWindow 54 = .ok (.putfield 47, 3) := od_181 (a := 0) (b := 47) (by decide +kernel) (by decide)
theorem dX2_readWindow_57 : decode cX2_readWindow 57 = .ok (.aload_n 0, 1) := od_42  (by decide +kernel)
theorem dX2_readWindow_58 : decode cX2_readWindow 58 = .ok (.invokevirtual 53, 3) := od_182 (a := 0) (b := 53) (by decide +kernel) (by decide)
theorem dX2_readWindow_61 : decode cX2_readWindow 61 = .ok (.iconst 1, 1) := od_4  (by decide +kernel)
theorem dX2_readWindow_62 : decode cX2_readWindow 62 = .ok (.ireturn, 1) := od_172  (by decide +kernel)
theorem gX2_readMoney_X2_readSum : GoodIn WALL (wsV RX2 112 RX2 yX2_readSum wqX2_readSum) := wg_V wa_898 wa_899 wa_900 wa_23 wa_901
theorem gX2_readMoney_X2_passWord : GoodIn WALL (wsV RX2 86 RX2 yX2_passWord wqX2_passWord) := wg_V wa_829 wa_830 wa_831 wa_23 wa_832
theorem gX2_readMoney_X2_readTest : GoodIn WALL (wsV RX2 117 RX2 yX2_readTest wqX2_readTest) := wg_V wa_927 wa_928 wa_929 wa_23 wa_955
theorem gX2_readMoney_X2_emit : GoodIn WALL (wsV RX2 120 RX2 yX2_emit wqX2_emit) := wg_V wa_909 wa_910 wa_911 wa_23 wa_912
theorem dX2_readMoney_0 : decode cX2_readMoney 0 = .ok (.aload_n 0, 1) := od_42  (by decide +kernel)
theorem dX2_readMoney_1 : decode cX2_readMoney 1 = .ok (.getfield 35, 3) := od_180 (a := 0) (b := 35) (by decide +kernel) (by decide)
theorem dX2_readMoney_4 : decode cX2_readMoney 4 = .ok (.bipush 12, 2) := od_16 (a := 12) (by decide +kernel) (by decide +kernel)
theorem dX2_readMoney_6 : decode cX2_readMoney 6 = .ok (.if_icmp .ge 26, 3) := od_162 (a := 0) (b := 26) (by decide +kernel) (by decide +kernel)
theorem dX2_readMoney_9 : decode cX2_readMoney 9 = .ok (.aload_n 0, 1) := od_42  (by decide +kernel)
theorem dX2_readMoney_10 : decode cX2_readMoney 10 = .ok (.getfield 23, 3) := od_180 (a := 0) (b := 23) (by decide +kernel) (by decide)
theorem dX2_readMoney_13 : decode cX2_readMoney 13 = .ok (.aload_n 0, 1) := od_42  (by decide +kernel)
theorem dX2_readMoney_14 : decode cX2_readMoney 14 = .ok (.getfield 35, 3) := od_180 (a := 0) (b := 35) (by decide +kernel) (by decide)
theorem dX2_readMoney_17 : decode cX2_readMoney 17 = .ok (.aload_n 0, 1) := od_42  (by decide +kernel)
theorem dX2_readMoney_18 : decode cX2_readMoney 18 = .ok (.getfield 32, 3) := od_180 (a := 0) (b := 32) (by decide +kernel) (by decide)
theorem dX2_readMoney_21 : decode cX2_readMoney 21 = .ok (.iastore, 1) := od_79  (by decide +kernel)
theorem dX2_readMoney_22 : decode cX2_readMoney 22 = .ok (.aload_n 0, 1) := od_42  (by decide +kernel)
theorem dX2_readMoney_23 : decode cX2_readMoney 23 = .ok (.dup, 1) := od_89  (by decide +kernel)
theorem dX2_readMoney_24 : decode cX2_readMoney 24 = .ok (.getfield 35, 3) := od_180 (a := 0) (b := 35) (by decide +kernel) (by decide)
theorem dX2_readMoney_27 : decode cX2_readMoney 27 = .ok (.iconst 1, 1) := od_4  (by decide +kernel)
theorem dX2_readMoney_28 : decode cX2_readMoney 28 = .ok (.iadd, 1) := od_96  (by decide +kernel)
theorem dX2_readMoney_29 : decode cX2_readMoney 29 = .ok (.putfield 35, 3) := od_181 (a := 0) (b := 35) (by decide +kernel) (by decide)
theorem dX2_readMoney_32 : decode cX2_readMoney 32 = .ok (.aload_n 0, 1) := od_42  (by decide +kernel)
theorem dX2_readMoney_33 : decode cX2_readMoney 33 = .ok (.invokevirtual 112, 3) := od_182 (a := 0) (b := 112) (by decide +kernel) (by decide)
theorem dX2_readMoney_36 : decode cX2_readMoney 36 = .ok (.ifCond .ne 5, 3) := od_154 (a := 0) (b := 5) (by decide +kernel) (by decide +kernel)
theorem dX2_readMoney_39 : decode cX2_readMoney 39 = .ok (.iconst 0, 1) := od_3  (by decide +kernel)
theorem dX2_readMoney_40 : decode cX2_readMoney 40 = .ok (.ireturn, 1) := od_172  (by decide +kernel)
theorem dX2_readMoney_41 : decode cX2_readMoney 41 = .ok (.aload_n 0, 1) := od_42  (by decide +kernel)
theorem dX2_readMoney_42 : decode cX2_readMoney 42 = .ok (.ldc 115, 2) := od_18 (n := 115) (by decide +kernel)
theorem dX2_readMoney_44 : decode cX2_readMoney 44 = .ok (.invokevirtual 86, 3) := od_182 (a := 0) (b := 86) (by decide +kernel) (by decide)
theorem dX2_readMoney_47 : decode cX2_readMoney 47 = .ok (.ifCond .eq 18, 3) := od_153 (a := 0) (b := 18) (by decide +kernel) (by decide +kernel)
theorem dX2_readMoney_50 : decode cX2_readMoney 50 = .ok (.aload_n 0, 1) := od_42  (by decide +kernel)
theorem dX2_readMoney_51 : decode cX2_readMoney 51 = .ok (.invokevirtual 117, 3) := od_182 (a := 0) (b := 117) (by decide +kernel) (by decide)
theorem dX2_readMoney_54 : decode cX2_readMoney 54 = .ok (.ifCond .ne 5, 3) := od_154 (a := 0) (b := 5) (by decide +kernel) (by decide +kernel)
theorem dX2_readMoney_57 : decode cX2_readMoney 57 = .ok (.iconst 0, 1) := od_3  (by decide +kernel)
theorem dX2_readMoney_58 : decode cX2_readMoney 58 = .ok (.ireturn, 1) := od_172  (by decide +kernel)
theorem dX2_readMoney_59 : decode cX2_readMoney 59 = .ok (.aload_n 0, 1) := od_42  (by decide +kernel)
theorem dX2_readMoney_60 : decode cX2_readMoney 60 = .ok (.bipush (-21), 2) := od_16 (a := 235) (by decide +kernel) (by decide +kernel)
theorem dX2_readMoney_62 : decode cX2_readMoney 62 = .ok (.invokevirtual 120, 3) := od_182 (a := 0) (b := 120) (by decide +kernel) (by decide)
theorem dX2_readMoney_65 : decode cX2_readMoney 65 = .ok (.aload_n 0, 1) := od_42  (by decide +kernel)
theorem dX2_readMoney_66 : decode cX2_readMoney 66 = .ok (.iload_n 1, 1) := od_27  (by decide +kernel)
theorem dX2_readMoney_67 : decode cX2_readMoney 67 = .ok (.invokevirtual 120, 3) := od_182 (a := 0) (b := 120) (by decide +kernel) (by decide)
theorem dX2_readMoney_70 : decode cX2_readMoney 70 = .ok (.iconst 1, 1) := od_4  (by decide +kernel)
theorem dX2_readMoney_71 : decode cX2_readMoney 71 = .ok (.ireturn, 1) := od_172  (by decide +kernel)
end
section
set_option maxHeartbeats 4000000 in
set_option maxRecDepth 100000 in
theorem t_X2_readMoney (l : Launch) (dC : Nat → ClassId) (dI : Nat → Nat → Nat) (sz : Nat) (Ω : Nat → Nat → (Nat → Nat) → va_E → Prop) (κ : Nat → ClassId) (τ ν : Nat → Nat) (ρ : Nat → Nat → Nat) (L : List Nat) (f : Nat → va_E) (hG : tp_G τ ν ρ L) (hT : tp_T Ω κ τ ν ρ f) (adK adV : Nat → Nat) (zv : Option Nat) (h0 : Nat) (v : Int32) (B0 : Int) (ht_h0 : τ h0 = 3) (hr_v : -1000 ≤ v.toInt ∧ v.toInt ≤ 100001) (hB : tp_fld (f h0) 12 = B0) (hBr : B0 = 0) : Met l yX2_readMoney wqX2_readMoney ({ frames := 80, cells := 0, slots := 0, locals := 31600 }) (va_Pc [.ref h0, .int v] (pw_BZ dC dI (tp_K κ) (va_pl L f) sz adK adV zv)) (va_Qi (fun (r : Int32) (f1 : Nat → va_E) => tp_T Ω κ τ ν ρ f1 ∧ tp_F τ [3, 20, 28] f f1 ∧ (0 ≤ r.toInt ∧ r.toInt ≤ 1) ∧ tp_fld (f1 h0) 12 = B0) (fun (f1 : Nat → va_E) (t : State) => pz_E dC dI (tp_K κ) (va_A (va_pl L f) sz) (va_pl L f1) t) (va_A (va_pl L f) sz)) 0 0 (va_A (va_pl L f) sz) := by
  refine Met.ofW (cc := cX2_readMoney) (maxL := 2) (ret := some .boolean) (by decide) rfl ?_
  intro p e s m args below meth c s₁ B hml hv
  obtain ⟨rfl, ⟨hsz, hP, hK, hD0, hN⟩, hZ⟩ := hv
  have hx := B.exec
  have hb := B.bytes
  have hr := B.returns
  have hts := fun (w : Cond) (h : w ∈ WALL) => atoms_spec (ws := wqX2_readMoney) B.pre w (List.mem_cons_of_mem _ h)
  have hown : s.vm.findClass RX2 = some m.cls := findClass_of_methodNamed B.named
  have hlocks := B.notSynchronized
  subst hsz
  have hD := hD0.self (sz := s.heap.size)
  generalize hAe : va_A (va_pl L f) s.heap.size = A at hD hZ ⊢
  have hA : ∀ q : Nat, s.heap.size ≤ q → A q := fun q h => by rw [← hAe]; exact Or.inr h
  have hS : va_S A s.heap s.heap [] := va_S.rf
  have hR : tp_F τ [3, 20, 28] f f := tp_F.rf
  have hl := lv_entry ([.ref h0, .int v]) (n := 2) (Nat.le_of_ble_eq_true rfl)
  rw [lg_entry_eq]
  generalize (lg_sl ([.ref h0, .int v]) ++ List.replicate (2 - (lg_sl ([.ref h0, .int v])).length) Slot.unset).toArray = ls at hl ⊢
  have hl : lv_has ls 2 [(0, .ref h0), (1, .int v)] := hl
  refine lv_aload_n hx hb dX2_readMoney_0 rfl (lv_at hl 0 rfl) ?_
  refine tgk_3 hG ht_h0 (fun y1 y1n y2 y2n y3 y3n => ?_)
  refine tpk_3 hT ht_h0 (fun o4_x1 o4_x2 o4_x3 o4_x4 o4_x5 o4_x6 o4_x8 o4_x10 o4_x11 o4_x12 o4_x13 o4_x14 o4_x15 hf_o4 ro4_0 ro4_1 ro4_2 ro4_3 ro4_4 ro4_5 ro4_6 => ?_)
  have bo4 : o4_x12.toInt = B0 := by have q9 := hB; rw [hf_o4] at q9; exact q9
  refine tpk_pos (tp_in hG ht_h0 (by decide)) hf_o4 (fun q5 eq5 => ?_)
  have ro4_5 := tp_hu ro4_5
  refine va_get (D := (dC, dI)) (ci := 2) (v := .int o4_x10) (C := RX2) (T := TX2) (N := 16) hx hb hts hfX2 hown hK hP q5 eq5 rfl 10 (by decide) (hts (.fieldLink RX2 35 "ColdShips$Reader" "sums" "I") wa_797) (fun _ h9 => h9) rfl dX2_readMoney_1 ?_
  refine lv_bipush (v := 12) hx hb dX2_readMoney_4 (by decide) ?_
  refine tp_join 32 (fun H locs ls stk => ∃ f7 : Nat → va_E, stk = [] ∧ tp_T Ω κ τ ν ρ f7 ∧ tp_F τ [3, 20, 28] f f7 ∧ tp_fld (f7 h0) 12 = B0 ∧ va_P (dC, dI) vwCl (va_pl L f7) H ∧ va_D A (va_pl L f7) ∧ va_S A s.heap H locs ∧ lv_has ls 2 [(0, .ref h0), (1, .int v)]) ?_ (fun hj6 => ?_)
  · intro H locs ls stk hI
    refine Exists.elim hI (fun f7 hE90 => tn_8 hE90 (fun e90 hT hR hB hP hD hS hl => ?_))
    clear hE90 hI; subst e90
    refine lv_aload_n hx hb dX2_readMoney_32 rfl (lv_at hl 0 rfl) ?_
    refine tpk_3 hT ht_h0 (fun o8_x1 o8_x2 o8_x3 o8_x4 o8_x5 o8_x6 o8_x8 o8_x10 o8_x11 o8_x12 o8_x13 o8_x14 o8_x15 hf_o8 ro8_0 ro8_1 ro8_2 ro8_3 ro8_4 ro8_5 ro8_6 => ?_)
    have bo8 : o8_x12.toInt = B0 := by have q9 := hB; rw [hf_o8] at q9; exact q9
    refine tpk_pos (tp_in hG ht_h0 (by decide)) hf_o8 (fun q9 eq9 => ?_)
    have hFc := tp_fr hD hS hA
    refine va_calli (va_runV (As := []) (rest := []) ⟨hx, hb, hml, hown, hts⟩ (t_X2_readSum0 l dC dI _ Ω κ τ ν ρ L f7 hG hT adK adV zv h0 B0 ht_h0 hB (by omega)) (cwV 0 hts gX2_readMoney_X2_readSum rfl rfl rfl ⟨rfl, pd_X2_readSum⟩ ⟨Nat.le_of_ble_eq_true rfl, Nat.le_of_ble_eq_true rfl⟩) ⟨pw_blindZ, va_recv hK hP (ci := 2) (q0 := q9) rfl eq9, pw_preZ hP hK hD hN hZ hS (tp_fr hD hS hA)⟩ rfl rfl hl.1 rfl (lv_room (Nat.le_of_ble_eq_true rfl)) dX2_readMoney_33 ⟨Nat.le_of_ble_eq_true rfl, Nat.le_of_ble_eq_true rfl⟩) hS (fun q _ h => hFc q h) hFc (fun r10 f12 t H1 locs ht hvm hw11 hB hz1 hk1 hS => ?_)
    refine tn_4 hw11 (fun hT hF13 hw11r hw11p => ?_); clear hw11
    have hR := hR.then hF13 (by decide)
    have hP := hB.1; rw [ht] at hP; have hD := tp_ad f12 hD; clear hB hFc hz1 hk1; subst ht; generalize t.heap = H at hP hS ⊢
    have hB := hw11p
    refine lv_if_ne (tgt := 41) hx hb dX2_readMoney_36 (by decide) (fun c14 => ?_) (fun c14 => ?_)
    · have ic14 : r10.toInt ≠ 0 := zi_ne rfl rfl c14
      refine lv_aload_n hx hb dX2_readMoney_41 rfl (lv_at hl 0 rfl) ?_
      refine va_ldcS hx hb hown (show vk_R RX2 115 "if" (adK 5) s from hZ.2.2.2 5 (by decide)) dX2_readMoney_42 ?_
      refine tpk_3 hT ht_h0 (fun o15_x1 o15_x2 o15_x3 o15_x4 o15_x5 o15_x6 o15_x8 o15_x10 o15_x11 o15_x12 o15_x13 o15_x14 o15_x15 hf_o15 ro15_0 ro15_1 ro15_2 ro15_3 ro15_4 ro15_5 ro15_6 => ?_)
      have bo15 : o15_x12.toInt = B0 := by have q9 := hB; rw [hf_o15] at q9; exact q9
      refine tpk_pos (tp_in hG ht_h0 (by decide)) hf_o15 (fun q16 eq16 => ?_)
      have hFc := tp_fr hD hS hA
      refine va_calli (va_runV (As := [.ref (adK 5)]) (rest := []) ⟨hx, hb, hml, hown, hts⟩ (t_X2_passWord l dC dI _ Ω κ τ ν ρ L f12 hG hT adK adV zv h0 5 B0 ht_h0 (by decide) hB) (cwV 1 hts gX2_readMoney_X2_passWord rfl rfl rfl ⟨rfl, pd_X2_passWord⟩ ⟨Nat.le_of_ble_eq_true rfl, Nat.le_of_ble_eq_true rfl⟩) ⟨pw_blindZ, va_recv hK hP (ci := 2) (q0 := q16) rfl eq16, pw_preZ hP hK hD hN hZ hS (tp_fr hD hS hA)⟩ rfl rfl hl.1 rfl (lv_room (Nat.le_of_ble_eq_true rfl)) dX2_readMoney_44 ⟨Nat.le_of_ble_eq_true rfl, Nat.le_of_ble_eq_true rfl⟩) hS (fun q _ h => hFc q h) hFc (fun r17 f19 t H1 locs ht hvm hw18 hB hz1 hk1 hS => ?_)
      refine tn_4 hw18 (fun hT hF20 hw18r hw18p => ?_); clear hw18
      have hR := hR.then hF20 (by decide)
      have hP := hB.1; rw [ht] at hP; have hD := tp_ad f19 hD; clear hB hFc hz1 hk1; subst ht; generalize t.heap = H at hP hS ⊢
      have hB := hw18p
      refine lv_if_eq (tgt := 65) hx hb dX2_readMoney_47 (by decide) (fun c21 => ?_) (fun c21 => ?_)
      · have ic21 : r17.toInt = 0 := zi_eq rfl rfl c21
        refine lv_aload_n hx hb dX2_readMoney_65 rfl (lv_at hl 0 rfl) ?_
        refine lv_iload_n hx hb dX2_readMoney_66 rfl (lv_at hl 1 rfl) ?_
        refine tpk_3 hT ht_h0 (fun o22_x1 o22_x2 o22_x3 o22_x4 o22_x5 o22_x6 o22_x8 o22_x10 o22_x11 o22_x12 o22_x13 o22_x14 o22_x15 hf_o22 ro22_0 ro22_1 ro22_2 ro22_3 ro22_4 ro22_5 ro22_6 => ?_)
        have bo22 : o22_x12.toInt = B0 := by have q9 := hB; rw [hf_o22] at q9; exact q9
        refine tpk_pos (tp_in hG ht_h0 (by decide)) hf_o22 (fun q23 eq23 => ?_)
        have hFc := tp_fr hD hS hA
        refine va_callv (va_runV (As := [.int v]) (rest := []) ⟨hx, hb, hml, hown, hts⟩ (t_X2_emit l dC dI _ Ω κ τ ν ρ L f19 hG hT h0 v B0 ht_h0 (by first | decide | omega) hB) (cwV 1 hts gX2_readMoney_X2_emit rfl rfl rfl ⟨rfl, pd_X2_emit⟩ ⟨Nat.le_of_ble_eq_true rfl, Nat.le_of_ble_eq_true rfl⟩) ⟨pz_blind, va_recv hK hP (ci := 2) (q0 := q23) rfl eq23, pz_pre hP hK hD hN⟩ rfl rfl hl.1 rfl (lv_room (Nat.le_of_ble_eq_true rfl)) dX2_readMoney_67 ⟨Nat.le_of_ble_eq_true rfl, Nat.le_of_ble_eq_true rfl⟩) hS (fun q _ h => hFc q h) hFc (fun f26 t H1 locs ht hvm hw25 hB hz1 hk1 hS => ?_)
        refine tn_3 hw25 (fun hT hF27 hw25p => ?_); clear hw25
        have hR := hR.then hF27 (by decide)
        have hP := hB.1; rw [ht] at hP; have hD := tp_ad f26 hD; clear hB hFc hz1 hk1; subst ht; generalize t.heap = H at hP hS ⊢
        have hB := hw25p
        refine lv_iconst (v := 1) hx hb dX2_readMoney_70 (by decide) ?_
        exact W.zret (v := 1) hx hb hr rfl (fun t ht hW => ⟨⟨1, f26, rfl, ⟨hT, hR, (by first | decide | omega), hB⟩, by rw [ht]; exact hP, va_K.moved hW.alike hK, hD⟩, hS.F ht⟩) hS.2.2 dX2_readMoney_71
      · have ic21 : r17.toInt ≠ 0 := zi_eqf rfl rfl c21
        refine lv_aload_n hx hb dX2_readMoney_50 rfl (lv_at hl 0 rfl) ?_
        refine tpk_3 hT ht_h0 (fun o28_x1 o28_x2 o28_x3 o28_x4 o28_x5 o28_x6 o28_x8 o28_x10 o28_x11 o28_x12 o28_x13 o28_x14 o28_x15 hf_o28 ro28_0 ro28_1 ro28_2 ro28_3 ro28_4 ro28_5 ro28_6 => ?_)
        have bo28 : o28_x12.toInt = B0 := by have q9 := hB; rw [hf_o28] at q9; exact q9
        refine tpk_pos (tp_in hG ht_h0 (by decide)) hf_o28 (fun q29 eq29 => ?_)
        have hFc := tp_fr hD hS hA
        refine va_calli (va_runV (As := []) (rest := []) ⟨hx, hb, hml, hown, hts⟩ (t_X2_readTest0 l dC dI _ Ω κ τ ν ρ L f19 hG hT adK adV zv h0 B0 ht_h0 hB (by omega)) (cwV 0 hts gX2_readMoney_X2_readTest rfl rfl rfl ⟨rfl, pd_X2_readTest⟩ ⟨Nat.le_of_ble_eq_true rfl, Nat.le_of_ble_eq_true rfl⟩) ⟨pw_blindZ, va_recv hK hP (ci := 2) (q0 := q29) rfl eq29, pw_preZ hP hK hD hN hZ hS (tp_fr hD hS hA)⟩ rfl rfl hl.1 rfl (lv_room (Nat.le_of_ble_eq_true rfl)) dX2_readMoney_51 ⟨Nat.le_of_ble_eq_true rfl, Nat.le_of_ble_eq_true rfl⟩) hS (fun q _ h => hFc q h) hFc (fun r30 f32 t H1 locs ht hvm hw31 hB hz1 hk1 hS => ?_)
        refine tn_4 hw31 (fun hT hF33 hw31r hw31p => ?_); clear hw31
        have hR := hR.then hF33 (by decide)
        have hP := hB.1; rw [ht] at hP; have hD := tp_ad f32 hD; clear hB hFc hz1 hk1; subst ht; generalize t.heap = H at hP hS ⊢
        have hB := hw31p
        refine lv_if_ne (tgt := 59) hx hb dX2_readMoney_54 (by decide) (fun c34 => ?_) (fun c34 => ?_)
        · have ic34 : r30.toInt ≠ 0 := zi_ne rfl rfl c34
          refine lv_aload_n hx hb dX2_readMoney_59 rfl (lv_at hl 0 rfl) ?_
          refine lv_bipush (v := (-21)) hx hb dX2_readMoney_60 (by decide) ?_
          refine tpk_3 hT ht_h0 (fun o35_x1 o35_x2 o35_x3 o35_x4 o35_x5 o35_x6 o35_x8 o35_x10 o35_x11 o35_x12 o35_x13 o35_x14 o35_x15 hf_o35 ro35_0 ro35_1 ro35_2 ro35_3 ro35_4 ro35_5 ro35_6 => ?_)
          have bo35 : o35_x12.toInt = B0 := by have q9 := hB; rw [hf_o35] at q9; exact q9
          refine tpk_pos (tp_in hG ht_h0 (by decide)) hf_o35 (fun q36 eq36 => ?_)
          have hFc := tp_fr hD hS hA
          refine va_callv (va_runV (As := [.int (-21)]) (rest := []) ⟨hx, hb, hml, hown, hts⟩ (t_X2_emit l dC dI _ Ω κ τ ν ρ L f32 hG hT h0 ((-21)) B0 ht_h0 (by first | decide | omega) hB) (cwV 1 hts gX2_readMoney_X2_emit rfl rfl rfl ⟨rfl, pd_X2_emit⟩ ⟨Nat.le_of_ble_eq_true rfl, Nat.le_of_ble_eq_true rfl⟩) ⟨pz_blind, va_recv hK hP (ci := 2) (q0 := q36) rfl eq36, pz_pre hP hK hD hN⟩ rfl rfl hl.1 rfl (lv_room (Nat.le_of_ble_eq_true rfl)) dX2_readMoney_62 ⟨Nat.le_of_ble_eq_true rfl, Nat.le_of_ble_eq_true rfl⟩) hS (fun q _ h => hFc q h) hFc (fun f39 t H1 locs ht hvm hw38 hB hz1 hk1 hS => ?_)
          refine tn_3 hw38 (fun hT hF40 hw38p => ?_); clear hw38
          have hR := hR.then hF40 (by decide)
          have hP := hB.1; rw [ht] at hP; have hD := tp_ad f39 hD; clear hB hFc hz1 hk1; subst ht; generalize t.heap = H at hP hS ⊢
          have hB := hw38p
          refine lv_aload_n hx hb dX2_readMoney_65 rfl (lv_at hl 0 rfl) ?_
          refine lv_iload_n hx hb dX2_readMoney_66 rfl (lv_at hl 1 rfl) ?_
          refine tpk_3 hT ht_h0 (fun o41_x1 o41_x2 o41_x3 o41_x4 o41_x5 o41_x6 o41_x8 o41_x10 o41_x11 o41_x12 o41_x13 o41_x14 o41_x15 hf_o41 ro41_0 ro41_1 ro41_2 ro41_3 ro41_4 ro41_5 ro41_6 => ?_)
          have bo41 : o41_x12.toInt = B0 := by have q9 := hB; rw [hf_o41] at q9; exact q9
          refine tpk_pos (tp_in hG ht_h0 (by decide)) hf_o41 (fun q42 eq42 => ?_)
          have hFc := tp_fr hD hS hA
          refine va_callv (va_runV (As := [.int v]) (rest := []) ⟨hx, hb, hml, hown, hts⟩ (t_X2_emit l dC dI _ Ω κ τ ν ρ L f39 hG hT h0 v B0 ht_h0 (by first | decide | omega) hB) (cwV 1 hts gX2_readMoney_X2_emit rfl rfl rfl ⟨rfl, pd_X2_emit⟩ ⟨Nat.le_of_ble_eq_true rfl, Nat.le_of_ble_eq_true rfl⟩) ⟨pz_blind, va_recv hK hP (ci := 2) (q0 := q42) rfl eq42, pz_pre hP hK hD hN⟩ rfl rfl hl.1 rfl (lv_room (Nat.le_of_ble_eq_true rfl)) dX2_readMoney_67 ⟨Nat.le_of_ble_eq_true rfl, Nat.le_of_ble_eq_true rfl⟩) hS (fun q _ h => hFc q h) hFc (fun f45 t H1 locs ht hvm hw44 hB hz1 hk1 hS => ?_)
          refine tn_3 hw44 (fun hT hF46 hw44p => ?_); clear hw44
          have hR := hR.then hF46 (by decide)
          have hP := hB.1; rw [ht] at hP; have hD := tp_ad f45 hD; clear hB hFc hz1 hk1; subst ht; generalize t.heap = H at hP hS ⊢
          have hB := hw44p
          refine lv_iconst (v := 1) hx hb dX2_readMoney_70 (by decide) ?_
          exact W.zret (v := 1) hx hb hr rfl (fun t ht hW => ⟨⟨1, f45, rfl, ⟨hT, hR, (by first | decide | omega), hB⟩, by rw [ht]; exact hP, va_K.moved hW.alike hK, hD⟩, hS.F ht⟩) hS.2.2 dX2_readMoney_71
        · have ic34 : r30.toInt = 0 := zi_nef rfl rfl c34
          refine lv_iconst (v := 0) hx hb dX2_readMoney_57 (by decide) ?_
          exact W.zret (v := 0) hx hb hr rfl (fun t ht hW => ⟨⟨0, f32, rfl, ⟨hT, hR, (by first | decide | omega), hB⟩, by rw [ht]; exact hP, va_K.moved hW.alike hK, hD⟩, hS.F ht⟩) hS.2.2 dX2_readMoney_58
    · have ic14 : r10.toInt = 0 := zi_nef rfl rfl c14
      refine lv_iconst (v := 0) hx hb dX2_readMoney_39 (by decide) ?_
      exact W.zret (v := 0) hx hb hr rfl (fun t ht hW => ⟨⟨0, f12, rfl, ⟨hT, hR, (by first | decide | omega), hB⟩, by rw [ht]; exact hP, va_K.moved hW.alike hK, hD⟩, hS.F ht⟩) hS.2.2 dX2_readMoney_40
  · refine lv_icmp_ge (tgt := 32) hx hb dX2_readMoney_6 (by decide) (fun c47 => ?_) (fun c47 => ?_)
    · have ic47 : o4_x10.toInt ≥ 12 := zi_ge rfl rfl c47
      exact hj6 _ _ _ _ ⟨f, rfl, hT, hR, hB, hP, hD, hS, lv_sub hl [0, 1] rfl⟩
    · have ic47 : o4_x10.toInt < 12 := zi_gef rfl rfl c47
      refine lv_aload_n hx hb dX2_readMoney_9 rfl (lv_at hl 0 rfl) ?_
      refine va_get (D := (dC, dI)) (ci := 2) (v := .ref (ρ h0 9)) (C := RX2) (T := TX2) (N := 16) hx hb hts hfX2 hown hK hP q5 eq5 rfl 9 (by decide) (hts (.fieldLink RX2 23 "ColdShips$Reader" "starts" "[I") wa_122) (fun _ h9 => h9) rfl dX2_readMoney_10 ?_
      refine lv_aload_n hx hb dX2_readMoney_13 rfl (lv_at hl 0 rfl) ?_
      refine va_get (D := (dC, dI)) (ci := 2) (v := .int o4_x10) (C := RX2) (T := TX2) (N := 16) hx hb hts hfX2 hown hK hP q5 eq5 rfl 10 (by decide) (hts (.fieldLink RX2 35 "ColdShips$Reader" "sums" "I") wa_797) (fun _ h9 => h9) rfl dX2_readMoney_14 ?_
      refine lv_aload_n hx hb dX2_readMoney_17 rfl (lv_at hl 0 rfl) ?_
      have ro4_4 := tp_hu ro4_4
      refine va_get (D := (dC, dI)) (ci := 2) (v := .int o4_x8) (C := RX2) (T := TX2) (N := 16) hx hb hts hfX2 hown hK hP q5 eq5 rfl 8 (by decide) (hts (.fieldLink RX2 32 "ColdShips$Reader" "cells" "I") wa_796) (fun _ h9 => h9) rfl dX2_readMoney_18 ?_
      refine tpk_20 hT y3 y3n (fun g49 hf_o48 => ?_)
      refine tpk_pos (tp_in hG y3 (by decide)) hf_o48 (fun q50 eq50 => ?_)
      refine va_iast hx hb hK hP hD hS q50 0 eq50 rfl (vp_in_iff.mpr ⟨by omega, by omega⟩) dX2_readMoney_21 (tp_k (.inl (κ 0, 13, .inl (upd g49 o4_x10.toNatClampNeg o4_x8))) hD (tp_in hG y3 (by decide)) eq50 (fun f51 H locs hP hD hS g53 k52 => ?_))
      have hT := hT.up y3 g53 k52 (tp_o20 y3n)
      have hR := hR.up y3 (by decide) k52
      have hB : tp_fld (f51 h0) 12 = B0 := by rw [k52 _ (tp_ne ht_h0 y3 (by decide))]; exact hB
      generalize (upd g49 o4_x10.toNatClampNeg o4_x8) = g54 at g53
      refine lv_aload_n hx hb dX2_readMoney_22 rfl (lv_at hl 0 rfl) ?_
      refine lv_dup hx hb dX2_readMoney_23 rfl ?_
      have hf_55 : f51 h0 = .inr (2, [.ref (ρ h0 0), .int o4_x1, .int o4_x2, .int o4_x3, .int o4_x4, .int o4_x5, .int o4_x6, .ref (ρ h0 7), .int o4_x8, .ref (ρ h0 9), .int o4_x10, .int o4_x11, .int o4_x12, .int o4_x13, .int o4_x14, .int o4_x15]) := (k52 _ (tp_ne ht_h0 y3 (by decide))).trans hf_o4
      refine tpk_pos (tp_in hG ht_h0 (by decide)) hf_55 (fun q56 eq56 => ?_)
      refine va_get (D := (dC, dI)) (ci := 2) (v := .int o4_x10) (C := RX2) (T := TX2) (N := 16) hx hb hts hfX2 hown hK hP q56 eq56 rfl 10 (by decide) (hts (.fieldLink RX2 35 "ColdShips$Reader" "sums" "I") wa_797) (fun _ h9 => h9) rfl dX2_readMoney_24 ?_
      refine lv_iconst (v := 1) hx hb dX2_readMoney_27 (by decide) ?_
      refine lv_iadd hx hb dX2_readMoney_28 ?_
      refine lv_topi (fun z57 ez57 => ?_)
      have iz57 : z57.toInt = o4_x10.toInt + 1 := zi_add ez57 rfl rfl (by omega) (by omega)
      refine va_put (D := (dC, dI)) (ci := 2) (v := .int z57) (ty := .int) (C := RX2) (T := TX2) (N := 16) hx hb hts hfX2 tyX2 tyX2_ok nmX2 hown hK hP hD hS q56 eq56 rfl 10 (by decide) (hts (.fieldLink RX2 35 "ColdShips$Reader" "sums" "I") wa_797) (fun _ h9 => h9) rfl (tyX2_ok 10 (by decide)) rfl rfl (Nat.le_of_ble_eq_true rfl) dX2_readMoney_29 (tp_k (.inr (2, [.ref (ρ h0 0), .int o4_x1, .int o4_x2, .int o4_x3, .int o4_x4, .int o4_x5, .int o4_x6, .ref (ρ h0 7), .int o4_x8, .ref (ρ h0 9), .int z57, .int o4_x11, .int o4_x12, .int o4_x13, .int o4_x14, .int o4_x15])) hD (tp_in hG ht_h0 (by decide)) eq56 (fun f58 H locs hP hD hS g60 k59 => ?_))
      have hT := hT.up ht_h0 g60 k59 ⟨_, _, _, _, _, _, _, _, _, _, _, _, _, rfl, ro4_0, ro4_1, ro4_2, ro4_3, ro4_4, (by first | decide | omega | (omega)), ro4_6⟩
      have hR := hR.up ht_h0 (by decide) k59
      have hB : tp_fld (f58 h0) 12 = B0 := by rw [g60]; show (o4_x12).toInt = B0; omega
      exact hj6 _ _ _ _ ⟨f58, rfl, hT, hR, hB, hP, hD, hS, lv_sub hl [0, 1] rfl⟩
set_option maxHeartbeats 4000000 in
set_option maxRecDepth 100000 in
theorem t_X2_readWindow (l : Launch) (dC : Nat → ClassId) (dI : Nat → Nat → Nat) (sz : Nat) (Ω : Nat → Nat → (Nat → Nat) → va_E → Prop) (κ : Nat → ClassId) (τ ν : Nat → Nat) (ρ : Nat → Nat → Nat) (L : List Nat) (f : Nat → va_E) (hG : tp_G τ ν ρ L) (hT : tp_T Ω κ τ ν ρ f) (adK adV : Nat → Nat) (zv : Option Nat) (h0 : Nat) (B0 : Int) (ht_h0 : τ h0 = 3) (hB : tp_fld (f h0) 12 = B0) (hBr : B0 = 0) : Met l yX2_readWindow wqX2_readWindow ({ frames := 8, cells := 0, slots := 0, locals := 2800 }) (va_Pc [.ref h0] (pw_BZ dC dI (tp_K κ) (va_pl L f) sz adK adV zv)) (va_Qi (fun (r : Int32) (f1 : Nat → va_E) => tp_T Ω κ τ ν ρ f1 ∧ tp_F τ [3, 20, 28] f f1 ∧ (0 ≤ r.toInt ∧ r.toInt ≤ 1) ∧ tp_fld (f1 h0) 12 = B0) (fun (f1 : Nat → va_E) (t : State) => pz_E dC dI (tp_K κ) (va_A (va_pl L f) sz) (va_pl L f1) t) (va_A (va_pl L f) sz)) 0 0 (va_A (va_pl L f) sz) := by
  refine Met.ofW (cc := cX2_readWindow) (maxL := 2) (ret := some .boolean) (by decide) rfl ?_
  intro p e s m args below meth c s₁ B hml hv
  obtain ⟨rfl, ⟨hsz, hP, hK, hD0, hN⟩, hZ⟩ := hv
  have hx := B.exec
  have hb := B.bytes
  have hr := B.returns
  have hts := fun (w : Cond) (h : w ∈ WALL) => atoms_spec (ws := wqX2_readWindow) B.pre w (List.mem_cons_of_mem _ h)
  have hown : s.vm.findClass RX2 = some m.cls := findClass_of_methodNamed B.named
  have hlocks := B.notSynchronized
  subst hsz
  have hD := hD0.self (sz := s.heap.size)
  generalize hAe : va_A (va_pl L f) s.heap.size = A at hD hZ ⊢
  have hA : ∀ q : Nat, s.heap.size ≤ q → A q := fun q h => by rw [← hAe]; exact Or.inr h
  have hS : va_S A s.heap s.heap [] := va_S.rf
  have hR : tp_F τ [3, 20, 28] f f := tp_F.rf
  have hl := lv_entry ([.ref h0]) (n := 2) (Nat.le_of_ble_eq_true rfl)
  rw [lg_entry_eq]
  generalize (lg_sl ([.ref h0]) ++ List.replicate (2 - (lg_sl ([.ref h0])).length) Slot.unset).toArray = ls at hl ⊢
  have hl : lv_has ls 2 [(0, .ref h0)] := hl
  refine lv_aload_n hx hb dX2_readWindow_0 rfl (lv_at hl 0 rfl) ?_
  refine lv_iconst (v := 0) hx hb dX2_readWindow_1 (by decide) ?_
  refine lv_sipush (v := 2399) hx hb dX2_readWindow_2 (by decide) ?_
  refine tgk_3 hG ht_h0 (fun y1 y1n y2 y2n y3 y3n => ?_)
  refine tpk_3 hT ht_h0 (fun o4_x1 o4_x2 o4_x3 o4_x4 o4_x5 o4_x6 o4_x8 o4_x10 o4_x11 o4_x12 o4_x13 o4_x14 o4_x15 hf_o4 ro4_0 ro4_1 ro4_2 ro4_3 ro4_4 ro4_5 ro4_6 => ?_)
  have bo4 : o4_x12.toInt = B0 := by have q9 := hB; rw [hf_o4] at q9; exact q9
  refine tpk_pos (tp_in hG ht_h0 (by decide)) hf_o4 (fun q5 eq5 => ?_)
  refine pz_calli (va_runV (As := [.int 0, .int 2399]) (rest := []) ⟨hx, hb, hml, hown, hts⟩ (t_X2_isNumber l dC dI _ Ω κ τ ν ρ L f hG hT h0 (0) (2399) ht_h0) (cwV 2 hts gX2_readWindow_X2_isNumber rfl rfl rfl ⟨rfl, pd_X2_isNumber⟩ ⟨Nat.le_of_ble_eq_true rfl, Nat.le_of_ble_eq_true rfl⟩) ⟨pz_blind, va_recv hK hP (ci := 2) (q0 := q5) rfl eq5, pz_pre hP hK hD hN⟩ rfl rfl hl.1 rfl (lv_room (Nat.le_of_ble_eq_true rfl)) dX2_readWindow_5 ⟨Nat.le_of_ble_eq_true rfl, Nat.le_of_ble_eq_true rfl⟩) (fun r6 hw7 => ?_)
  obtain ⟨hw7r, hw7p⟩ := hw7
  refine lv_if_ne (tgt := 13) hx hb dX2_readWindow_8 (by decide) (fun c8 => ?_) (fun c8 => ?_)
  · have ic8 : r6.toInt ≠ 0 := zi_ne rfl rfl c8
    refine lv_aload_n hx hb dX2_readWindow_13 rfl (lv_at hl 0 rfl) ?_
    have ro4_3 := tp_hu ro4_3
    refine va_get (D := (dC, dI)) (ci := 2) (v := .int o4_x6) (C := RX2) (T := TX2) (N := 16) hx hb hts hfX2 hown hK hP q5 eq5 rfl 6 (by decide) (hts (.fieldLink RX2 99 "ColdShips$Reader" "value" "I") wa_812) (fun _ h9 => h9) rfl dX2_readWindow_14 ?_
    refine lv_istore_n (lv' := [(1, .int o4_x6), (0, .ref h0)]) hx hb dX2_readWindow_17 rfl hl (by decide) rfl (fun ls hl => ?_)
    refine lv_aload_n hx hb dX2_readWindow_18 rfl (lv_at hl 1 rfl) ?_
    have hFc := tp_fr hD hS hA
    refine va_callv (va_runV (As := []) (rest := []) ⟨hx, hb, hml, hown, hts⟩ (t_X2_advance l dC dI _ Ω κ τ ν ρ L f hG hT h0 B0 ht_h0 hB) (cwV 0 hts gX2_readWindow_X2_advance rfl rfl rfl ⟨rfl, pd_X2_advance⟩ ⟨Nat.le_of_ble_eq_true rfl, Nat.le_of_ble_eq_true rfl⟩) ⟨pz_blind, va_recv hK hP (ci := 2) (q0 := q5) rfl eq5, pz_pre hP hK hD hN⟩ rfl rfl hl.1 rfl (lv_room (Nat.le_of_ble_eq_true rfl)) dX2_readWindow_19 ⟨Nat.le_of_ble_eq_true rfl, Nat.le_of_ble_eq_true rfl⟩) hS (fun q _ h => hFc q h) hFc (fun f11 t H1 locs ht hvm hw10 hB hz1 hk1 hS => ?_)
    refine tn_3 hw10 (fun hT hF12 hw10p => ?_); clear hw10
    have hR := hR.then hF12 (by decide)
    have hP := hB.1; rw [ht] at hP; have hD := tp_ad f11 hD; clear hB hFc hz1 hk1; subst ht; generalize t.heap = H at hP hS ⊢
    have hB := hw10p
    refine lv_aload_n hx hb dX2_readWindow_22 rfl (lv_at hl 1 rfl) ?_
    refine va_ldcS hx hb hown (show vk_R RX2 110 "to" (adK 4) s from hZ.2.2.2 4 (by decide)) dX2_readWindow_23 ?_
    refine tpk_3 hT ht_h0 (fun o13_x1 o13_x2 o13_x3 o13_x4 o13_x5 o13_x6 o13_x8 o13_x10 o13_x11 o13_x12 o13_x13 o13_x14 o13_x15 hf_o13 ro13_0 ro13_1 ro13_2 ro13_3 ro13_4 ro13_5 ro13_6 => ?_)
    have bo13 : o13_x12.toInt = B0 := by have q9 := hB; rw [hf_o13] at q9; exact q9
    refine tpk_pos (tp_in hG ht_h0 (by decide)) hf_o13 (fun q14 eq14 => ?_)
    have hFc := tp_fr hD hS hA
    refine va_calli (va_runV (As := [.ref (adK 4)]) (rest := []) ⟨hx, hb, hml, hown, hts⟩ (t_X2_passWord l dC dI _ Ω κ τ ν ρ L f11 hG hT adK adV zv h0 4 B0 ht_h0 (by decide) hB) (cwV 1 hts gX2_readWindow_X2_passWord rfl rfl rfl ⟨rfl, pd_X2_passWord⟩ ⟨Nat.le_of_ble_eq_true rfl, Nat.le_of_ble_eq_true rfl⟩) ⟨pw_blindZ, va_recv hK hP (ci := 2) (q0 := q14) rfl eq14, pw_preZ hP hK hD hN hZ hS (tp_fr hD hS hA)⟩ rfl rfl hl.1 rfl (lv_room (Nat.le_of_ble_eq_true rfl)) dX2_readWindow_25 ⟨Nat.le_of_ble_eq_true rfl, Nat.le_of_ble_eq_true rfl⟩) hS (fun q _ h => hFc q h) hFc (fun r15 f17 t H1 locs ht hvm hw16 hB hz1 hk1 hS => ?_)
    refine tn_4 hw16 (fun hT hF18 hw16r hw16p => ?_); clear hw16
    have hR := hR.then hF18 (by decide)
    have hP := hB.1; rw [ht] at hP; have hD := tp_ad f17 hD; clear hB hFc hz1 hk1; subst ht; generalize t.heap = H at hP hS ⊢
    have hB := hw16p
    refine lv_if_eq (tgt := 42) hx hb dX2_readWindow_28 (by decide) (fun c19 => ?_) (fun c19 => ?_)
    · have ic19 : r15.toInt = 0 := zi_eq rfl rfl c19
      refine lv_iconst (v := 0) hx hb dX2_readWindow_42 (by decide) ?_
      exact W.zret (v := 0) hx hb hr rfl (fun t ht hW => ⟨⟨0, f17, rfl, ⟨hT, hR, (by first | decide | omega), hB⟩, by rw [ht]; exact hP, va_K.moved hW.alike hK, hD⟩, hS.F ht⟩) hS.2.2 dX2_readWindow_43
    · have ic19 : r15.toInt ≠ 0 := zi_eqf rfl rfl c19
      refine lv_aload_n hx hb dX2_readWindow_31 rfl (lv_at hl 1 rfl) ?_
      refine lv_iload_n hx hb dX2_readWindow_32 rfl (lv_at hl 0 rfl) ?_
      refine lv_sipush (v := 2399) hx hb dX2_readWindow_33 (by decide) ?_
      refine tpk_3 hT ht_h0 (fun o20_x1 o20_x2 o20_x3 o20_x4 o20_x5 o20_x6 o20_x8 o20_x10 o20_x11 o20_x12 o20_x13 o20_x14 o20_x15 hf_o20 ro20_0 ro20_1 ro20_2 ro20_3 ro20_4 ro20_5 ro20_6 => ?_)
      have bo20 : o20_x12.toInt = B0 := by have q9 := hB; rw [hf_o20] at q9; exact q9
      refine tpk_pos (tp_in hG ht_h0 (by decide)) hf_o20 (fun q21 eq21 => ?_)
      refine pz_calli (va_runV (As := [.int o4_x6, .int 2399]) (rest := []) ⟨hx, hb, hml, hown, hts⟩ (t_X2_isNumber l dC dI _ Ω κ τ ν ρ L f17 hG hT h0 o4_x6 (2399) ht_h0) (cwV 2 hts gX2_readWindow_X2_isNumber rfl rfl rfl ⟨rfl, pd_X2_isNumber⟩ ⟨Nat.le_of_ble_eq_true rfl, Nat.le_of_ble_eq_true rfl⟩) ⟨pz_blind, va_recv hK hP (ci := 2) (q0 := q21) rfl eq21, pz_pre hP hK hD hN⟩ rfl rfl hl.1 rfl (lv_room (Nat.le_of_ble_eq_true rfl)) dX2_readWindow_36 ⟨Nat.le_of_ble_eq_true rfl, Nat.le_of_ble_eq_true rfl⟩) (fun r22 hw23 => ?_)
      obtain ⟨hw23r, hw23p⟩ := hw23
      refine lv_if_ne (tgt := 44) hx hb dX2_readWindow_39 (by decide) (fun c24 => ?_) (fun c24 => ?_)
      · have ic24 : r22.toInt ≠ 0 := zi_ne rfl rfl c24
        refine lv_aload_n hx hb dX2_readWindow_44 rfl (lv_at hl 1 rfl) ?_
        refine lv_iload_n hx hb dX2_readWindow_45 rfl (lv_at hl 0 rfl) ?_
        refine va_put (D := (dC, dI)) (ci := 2) (v := .int o4_x6) (ty := .int) (C := RX2) (T := TX2) (N := 16) hx hb hts hfX2 tyX2 tyX2_ok nmX2 hown hK hP hD hS q21 eq21 rfl 13 (by decide) (hts (.fieldLink RX2 44 "ColdShips$Reader" "windowFrom" "I") wa_800) (fun _ h9 => h9) rfl (tyX2_ok 13 (by decide)) rfl rfl (Nat.le_of_ble_eq_true rfl) dX2_readWindow_46 (tp_k (.inr (2, [.ref (ρ h0 0), .int o20_x1, .int o20_x2, .int o20_x3, .int o20_x4, .int o20_x5, .int o20_x6, .ref (ρ h0 7), .int o20_x8, .ref (ρ h0 9), .int o20_x10, .int o20_x11, .int o20_x12, .int o4_x6, .int o20_x14, .int o20_x15])) hD (tp_in hG ht_h0 (by decide)) eq21 (fun f25 H locs hP hD hS g27 k26 => ?_))
        have hT := hT.up ht_h0 g27 k26 ⟨_, _, _, _, _, _, _, _, _, _, _, _, _, rfl, ro20_0, ro20_1, ro20_2, ro20_3, ro20_4, ro20_5, ro20_6⟩
        have hR := hR.up ht_h0 (by decide) k26
        have hB : tp_fld (f25 h0) 12 = B0 := by rw [g27]; show (o20_x12).toInt = B0; omega
        refine lv_aload_n hx hb dX2_readWindow_49 rfl (lv_at hl 1 rfl) ?_
        refine lv_aload_n hx hb dX2_readWindow_50 rfl (lv_at hl 1 rfl) ?_
        refine tpk_pos (tp_in hG ht_h0 (by decide)) g27 (fun q28 eq28 => ?_)
        have ro20_3 := tp_hu ro20_3
        refine va_get (D := (dC, dI)) (ci := 2) (v := .int o20_x6) (C := RX2) (T := TX2) (N := 16) hx hb hts hfX2 hown hK hP q28 eq28 rfl 6 (by decide) (hts (.fieldLink RX2 99 "ColdShips$Reader" "value" "I") wa_812) (fun _ h9 => h9) rfl dX2_readWindow_51 ?_
        refine va_put (D := (dC, dI)) (ci := 2) (v := .int o20_x6) (ty := .int) (C := RX2) (T := TX2) (N := 16) hx hb hts hfX2 tyX2 tyX2_ok nmX2 hown hK hP hD hS q28 eq28 rfl 14 (by decide) (hts (.fieldLink RX2 47 "ColdShips$Reader" "windowTo" "I") wa_801) (fun _ h9 => h9) rfl (tyX2_ok 14 (by decide)) rfl rfl (Nat.le_of_ble_eq_true rfl) dX2_readWindow_54 (tp_k (.inr (2, [.ref (ρ h0 0), .int o20_x1, .int o20_x2, .int o20_x3, .int o20_x4, .int o20_x5, .int o20_x6, .ref (ρ h0 7), .int o20_x8, .ref (ρ h0 9), .int o20_x10, .int o20_x11, .int o20_x12, .int o4_x6, .int o20_x6, .int o20_x15])) hD (tp_in hG ht_h0 (by decide)) eq28 (fun f29 H locs hP hD hS g31 k30 => ?_))
        have hT := hT.up ht_h0 g31 k30 ⟨_, _, _, _, _, _, _, _, _, _, _, _, _, rfl, ro20_0, ro20_1, ro20_2, ro20_3, ro20_4, ro20_5, ro20_6⟩
        have hR := hR.up ht_h0 (by decide) k30
        have hB : tp_fld (f29 h0) 12 = B0 := by rw [g31]; show (o20_x12).toInt = B0; omega
        refine lv_aload_n hx hb dX2_readWindow_57 rfl (lv_at hl 1 rfl) ?_
        refine tpk_pos (tp_in hG ht_h0 (by decide)) g31 (fun q32 eq32 => ?_)
        have hFc := tp_fr hD hS hA
        refine va_callv (va_runV (As := []) (rest := []) ⟨hx, hb, hml, hown, hts⟩ (t_X2_advance l dC dI _ Ω κ τ ν ρ L f29 hG hT h0 B0 ht_h0 hB) (cwV 0 hts gX2_readWindow_X2_advance rfl rfl rfl ⟨rfl, pd_X2_advance⟩ ⟨Nat.le_of_ble_eq_true rfl, Nat.le_of_ble_eq_true rfl⟩) ⟨pz_blind, va_recv hK hP (ci := 2) (q0 := q32) rfl eq32, pz_pre hP hK hD hN⟩ rfl rfl hl.1 rfl (lv_room (Nat.le_of_ble_eq_true rfl)) dX2_readWindow_58 ⟨Nat.le_of_ble_eq_true rfl, Nat.le_of_ble_eq_true rfl⟩) hS (fun q _ h => hFc q h) hFc (fun f35 t H1 locs ht hvm hw34 hB hz1 hk1 hS => ?_)
        refine tn_3 hw34 (fun hT hF36 hw34p => ?_); clear hw34
        have hR := hR.then hF36 (by decide)
        have hP := hB.1; rw [ht] at hP; have hD := tp_ad f35 hD; clear hB hFc hz1 hk1; subst ht; generalize t.heap = H at hP hS ⊢
        have hB := hw34p
        refine lv_iconst (v := 1) hx hb dX2_readWindow_61 (by decide) ?_
        exact W.zret (v := 1) hx hb hr rfl (fun t ht hW => ⟨⟨1, f35, rfl, ⟨hT, hR, (by first | decide | omega), hB⟩, by rw [ht]; exact hP, va_K.moved hW.alike hK, hD⟩, hS.F ht⟩) hS.2.2 dX2_readWindow_62
      · have ic24 : r22.toInt = 0 := zi_nef rfl rfl c24
        refine lv_iconst (v := 0) hx hb dX2_readWindow_42 (by decide) ?_
        exact W.zret (v := 0) hx hb hr rfl (fun t ht hW => ⟨⟨0, f17, rfl, ⟨hT, hR, (by first | decide | omega), hB⟩, by rw [ht]; exact hP, va_K.moved hW.alike hK, hD⟩, hS.F ht⟩) hS.2.2 dX2_readWindow_43
  · have ic8 : r6.toInt = 0 := zi_nef rfl rfl c8
    refine lv_iconst (v := 0) hx hb dX2_readWindow_11 (by decide) ?_
    exact W.zret (v := 0) hx hb hr rfl (fun t ht hW => ⟨⟨0, f, rfl, ⟨hT, hR, (by first | decide | omega), hB⟩, by rw [ht]; exact hP, va_K.moved hW.alike hK, hD⟩, hS.F ht⟩) hS.2.2 dX2_readWindow_12
set_option maxHeartbeats 4000000 in
set_option maxRecDepth 100000 in
theorem t_X2_readClause (l : Launch) (dC : Nat → ClassId) (dI : Nat → Nat → Nat) (sz : Nat) (Ω : Nat → Nat → (Nat → Nat) → va_E → Prop) (κ : Nat → ClassId) (τ ν : Nat → Nat) (ρ : Nat → Nat → Nat) (L : List Nat) (f : Nat → va_E) (hG : tp_G τ ν ρ L) (hT : tp_T Ω κ τ ν ρ f) (adK adV : Nat → Nat) (zv : Option Nat) (h0 : Nat) (B0 : Int) (ht_h0 : τ h0 = 3) (hB : tp_fld (f h0) 12 = B0) (hBr : B0 = 0) : Met l yX2_readClause wqX2_readClause ({ frames := 81, cells := 0, slots := 0, locals := 32000 }) (va_Pc [.ref h0] (pw_BZ dC dI (tp_K κ) (va_pl L f) sz adK adV zv)) (va_Qi (fun (r : Int32) (f1 : Nat → va_E) => tp_T Ω κ τ ν ρ f1 ∧ tp_F τ [3, 20, 28] f f1 ∧ (0 ≤ r.toInt ∧ r.toInt ≤ 1) ∧ tp_fld (f1 h0) 12 = B0) (fun (f1 : Nat → va_E) (t : State) => pz_E dC dI (tp_K κ) (va_A (va_pl L f) sz) (va_pl L f1) t) (va_A (va_pl L f) sz)) 0 0 (va_A (va_pl L f) sz) := by
  refine Met.ofW (cc := cX2_readClause) (maxL := 1) (ret := some .boolean) (by decide) rfl ?_
  intro p e s m args below meth c s₁ B hml hv
  obtain ⟨rfl, ⟨hsz, hP, hK, hD0, hN⟩, hZ⟩ := hv
  have hx := B.exec
  have hb := B.bytes
  have hr := B.returns
  have hts := fun (w : Cond) (h : w ∈ WALL) => atoms_spec (ws := wqX2_readClause) B.pre w (List.mem_cons_of_mem _ h)
  have hown : s.vm.findClass RX2 = some m.cls := findClass_of_methodNamed B.named
  have hlocks := B.notSynchronized
  subst hsz
  have hD := hD0.self (sz := s.heap.size)
  generalize hAe : va_A (va_pl L f) s.heap.size = A at hD hZ ⊢
  have hA : ∀ q : Nat, s.heap.size ≤ q → A q := fun q h => by rw [← hAe]; exact Or.inr h
  have hS : va_S A s.heap s.heap [] := va_S.rf
  have hR : tp_F τ [3, 20, 28] f f := tp_F.rf
  have hl := lv_entry ([.ref h0]) (n := 1) (Nat.le_of_ble_eq_true rfl)
  rw [lg_entry_eq]
  generalize (lg_sl ([.ref h0]) ++ List.replicate (1 - (lg_sl ([.ref h0])).length) Slot.unset).toArray = ls at hl ⊢
  have hl : lv_has ls 1 [(0, .ref h0)] := hl
  refine lv_aload_n hx hb dX2_readClause_0 rfl (lv_at hl 0 rfl) ?_
  refine va_ldcS hx hb hown (show vk_R RX2 84 "window" (adK 0) s from hZ.2.2.2 0 (by decide)) dX2_readClause_1 ?_
  refine tgk_3 hG ht_h0 (fun y1 y1n y2 y2n y3 y3n => ?_)
  refine tpk_3 hT ht_h0 (fun o4_x1 o4_x2 o4_x3 o4_x4 o4_x5 o4_x6 o4_x8 o4_x10 o4_x11 o4_x12 o4_x13 o4_x14 o4_x15 hf_o4 ro4_0 ro4_1 ro4_2 ro4_3 ro4_4 ro4_5 ro4_6 => ?_)
  have bo4 : o4_x12.toInt = B0 := by have q9 := hB; rw [hf_o4] at q9; exact q9
  refine tpk_pos (tp_in hG ht_h0 (by decide)) hf_o4 (fun q5 eq5 => ?_)
  have hFc := tp_fr hD hS hA
  refine va_calli (va_runV (As := [.ref (adK 0)]) (rest := []) ⟨hx, hb, hml, hown, hts⟩ (t_X2_passWord l dC dI _ Ω κ τ ν ρ L f hG hT adK adV zv h0 0 B0 ht_h0 (by decide) hB) (cwV 1 hts gX2_readClause_X2_passWord rfl rfl rfl ⟨rfl, pd_X2_passWord⟩ ⟨Nat.le_of_ble_eq_true rfl, Nat.le_of_ble_eq_true rfl⟩) ⟨pw_blindZ, va_recv hK hP (ci := 2) (q0 := q5) rfl eq5, pw_preZ hP hK hD hN hZ hS (tp_fr hD hS hA)⟩ rfl rfl hl.1 rfl (lv_room (Nat.le_of_ble_eq_true rfl)) dX2_readClause_3 ⟨Nat.le_of_ble_eq_true rfl, Nat.le_of_ble_eq_true rfl⟩) hS (fun q _ h => hFc q h) hFc (fun r6 f8 t H1 locs ht hvm hw7 hB hz1 hk1 hS => ?_)
  refine tn_4 hw7 (fun hT hF9 hw7r hw7p => ?_); clear hw7
  have hR := hR.then hF9 (by decide)
  have hP := hB.1; rw [ht] at hP; have hD := tp_ad f8 hD; clear hB hFc hz1 hk1; subst ht; generalize t.heap = H at hP hS ⊢
  have hB := hw7p
  refine lv_if_eq (tgt := 14) hx hb dX2_readClause_6 (by decide) (fun c10 => ?_) (fun c10 => ?_)
  · have ic10 : r6.toInt = 0 := zi_eq rfl rfl c10
    refine lv_aload_n hx hb dX2_readClause_14 rfl (lv_at hl 0 rfl) ?_
    refine va_ldcS hx hb hown (show vk_R RX2 93 "at" (adK 1) s from hZ.2.2.2 1 (by decide)) dX2_readClause_15 ?_
    refine tpk_3 hT ht_h0 (fun o11_x1 o11_x2 o11_x3 o11_x4 o11_x5 o11_x6 o11_x8 o11_x10 o11_x11 o11_x12 o11_x13 o11_x14 o11_x15 hf_o11 ro11_0 ro11_1 ro11_2 ro11_3 ro11_4 ro11_5 ro11_6 => ?_)
    have bo11 : o11_x12.toInt = B0 := by have q9 := hB; rw [hf_o11] at q9; exact q9
    refine tpk_pos (tp_in hG ht_h0 (by decide)) hf_o11 (fun q12 eq12 => ?_)
    have hFc := tp_fr hD hS hA
    refine va_calli (va_runV (As := [.ref (adK 1)]) (rest := []) ⟨hx, hb, hml, hown, hts⟩ (t_X2_passWord l dC dI _ Ω κ τ ν ρ L f8 hG hT adK adV zv h0 1 B0 ht_h0 (by decide) hB) (cwV 1 hts gX2_readClause_X2_passWord rfl rfl rfl ⟨rfl, pd_X2_passWord⟩ ⟨Nat.le_of_ble_eq_true rfl, Nat.le_of_ble_eq_true rfl⟩) ⟨pw_blindZ, va_recv hK hP (ci := 2) (q0 := q12) rfl eq12, pw_preZ hP hK hD hN hZ hS (tp_fr hD hS hA)⟩ rfl rfl hl.1 rfl (lv_room (Nat.le_of_ble_eq_true rfl)) dX2_readClause_17 ⟨Nat.le_of_ble_eq_true rfl, Nat.le_of_ble_eq_true rfl⟩) hS (fun q _ h => hFc q h) hFc (fun r13 f15 t H1 locs ht hvm hw14 hB hz1 hk1 hS => ?_)
    refine tn_4 hw14 (fun hT hF16 hw14r hw14p => ?_); clear hw14
    have hR := hR.then hF16 (by decide)
    have hP := hB.1; rw [ht] at hP; have hD := tp_ad f15 hD; clear hB hFc hz1 hk1; subst ht; generalize t.heap = H at hP hS ⊢
    have hB := hw14p
    refine lv_if_eq (tgt := 48) hx hb dX2_readClause_20 (by decide) (fun c17 => ?_) (fun c17 => ?_)
    · have ic17 : r13.toInt = 0 := zi_eq rfl rfl c17
      refine lv_aload_n hx hb dX2_readClause_48 rfl (lv_at hl 0 rfl) ?_
      refine va_ldcS hx hb hown (show vk_R RX2 102 "pay" (adK 2) s from hZ.2.2.2 2 (by decide)) dX2_readClause_49 ?_
      refine tpk_3 hT ht_h0 (fun o18_x1 o18_x2 o18_x3 o18_x4 o18_x5 o18_x6 o18_x8 o18_x10 o18_x11 o18_x12 o18_x13 o18_x14 o18_x15 hf_o18 ro18_0 ro18_1 ro18_2 ro18_3 ro18_4 ro18_5 ro18_6 => ?_)
      have bo18 : o18_x12.toInt = B0 := by have q9 := hB; rw [hf_o18] at q9; exact q9
      refine tpk_pos (tp_in hG ht_h0 (by decide)) hf_o18 (fun q19 eq19 => ?_)
      have hFc := tp_fr hD hS hA
      refine va_calli (va_runV (As := [.ref (adK 2)]) (rest := []) ⟨hx, hb, hml, hown, hts⟩ (t_X2_passWord l dC dI _ Ω κ τ ν ρ L f15 hG hT adK adV zv h0 2 B0 ht_h0 (by decide) hB) (cwV 1 hts gX2_readClause_X2_passWord rfl rfl rfl ⟨rfl, pd_X2_passWord⟩ ⟨Nat.le_of_ble_eq_true rfl, Nat.le_of_ble_eq_true rfl⟩) ⟨pw_blindZ, va_recv hK hP (ci := 2) (q0 := q19) rfl eq19, pw_preZ hP hK hD hN hZ hS (tp_fr hD hS hA)⟩ rfl rfl hl.1 rfl (lv_room (Nat.le_of_ble_eq_true rfl)) dX2_readClause_51 ⟨Nat.le_of_ble_eq_true rfl, Nat.le_of_ble_eq_true rfl⟩) hS (fun q _ h => hFc q h) hFc (fun r20 f22 t H1 locs ht hvm hw21 hB hz1 hk1 hS => ?_)
      refine tn_4 hw21 (fun hT hF23 hw21r hw21p => ?_); clear hw21
      have hR := hR.then hF23 (by decide)
      have hP := hB.1; rw [ht] at hP; have hD := tp_ad f22 hD; clear hB hFc hz1 hk1; subst ht; generalize t.heap = H at hP hS ⊢
      have hB := hw21p
      refine lv_if_eq (tgt := 64) hx hb dX2_readClause_54 (by decide) (fun c24 => ?_) (fun c24 => ?_)
      · have ic24 : r20.toInt = 0 := zi_eq rfl rfl c24
        refine lv_aload_n hx hb dX2_readClause_64 rfl (lv_at hl 0 rfl) ?_
        refine va_ldcS hx hb hown (show vk_R RX2 108 "fine" (adK 3) s from hZ.2.2.2 3 (by decide)) dX2_readClause_65 ?_
        refine tpk_3 hT ht_h0 (fun o25_x1 o25_x2 o25_x3 o25_x4 o25_x5 o25_x6 o25_x8 o25_x10 o25_x11 o25_x12 o25_x13 o25_x14 o25_x15 hf_o25 ro25_0 ro25_1 ro25_2 ro25_3 ro25_4 ro25_5 ro25_6 => ?_)
        have bo25 : o25_x12.toInt = B0 := by have q9 := hB; rw [hf_o25] at q9; exact q9
        refine tpk_pos (tp_in hG ht_h0 (by decide)) hf_o25 (fun q26 eq26 => ?_)
        have hFc := tp_fr hD hS hA
        refine va_calli (va_runV (As := [.ref (adK 3)]) (rest := []) ⟨hx, hb, hml, hown, hts⟩ (t_X2_passWord l dC dI _ Ω κ τ ν ρ L f22 hG hT adK adV zv h0 3 B0 ht_h0 (by decide) hB) (cwV 1 hts gX2_readClause_X2_passWord rfl rfl rfl ⟨rfl, pd_X2_passWord⟩ ⟨Nat.le_of_ble_eq_true rfl, Nat.le_of_ble_eq_true rfl⟩) ⟨pw_blindZ, va_recv hK hP (ci := 2) (q0 := q26) rfl eq26, pw_preZ hP hK hD hN hZ hS (tp_fr hD hS hA)⟩ rfl rfl hl.1 rfl (lv_room (Nat.le_of_ble_eq_true rfl)) dX2_readClause_67 ⟨Nat.le_of_ble_eq_true rfl, Nat.le_of_ble_eq_true rfl⟩) hS (fun q _ h => hFc q h) hFc (fun r27 f29 t H1 locs ht hvm hw28 hB hz1 hk1 hS => ?_)
        refine tn_4 hw28 (fun hT hF30 hw28r hw28p => ?_); clear hw28
        have hR := hR.then hF30 (by decide)
        have hP := hB.1; rw [ht] at hP; have hD := tp_ad f29 hD; clear hB hFc hz1 hk1; subst ht; generalize t.heap = H at hP hS ⊢
        have hB := hw28p
        refine lv_if_eq (tgt := 86) hx hb dX2_readClause_70 (by decide) (fun c31 => ?_) (fun c31 => ?_)
        · have ic31 : r27.toInt = 0 := zi_eq rfl rfl c31
          refine lv_iconst (v := 0) hx hb dX2_readClause_86 (by decide) ?_
          exact W.zret (v := 0) hx hb hr rfl (fun t ht hW => ⟨⟨0, f29, rfl, ⟨hT, hR, (by first | decide | omega), hB⟩, by rw [ht]; exact hP, va_K.moved hW.alike hK, hD⟩, hS.F ht⟩) hS.2.2 dX2_readClause_87
        · have ic31 : r27.toInt ≠ 0 := zi_eqf rfl rfl c31
          refine lv_aload_n hx hb dX2_readClause_73 rfl (lv_at hl 0 rfl) ?_
          refine lv_bipush (v := (-23)) hx hb dX2_readClause_74 (by decide) ?_
          refine tpk_3 hT ht_h0 (fun o32_x1 o32_x2 o32_x3 o32_x4 o32_x5 o32_x6 o32_x8 o32_x10 o32_x11 o32_x12 o32_x13 o32_x14 o32_x15 hf_o32 ro32_0 ro32_1 ro32_2 ro32_3 ro32_4 ro32_5 ro32_6 => ?_)
          have bo32 : o32_x12.toInt = B0 := by have q9 := hB; rw [hf_o32] at q9; exact q9
          refine tpk_pos (tp_in hG ht_h0 (by decide)) hf_o32 (fun q33 eq33 => ?_)
          have hFc := tp_fr hD hS hA
          refine va_calli (va_runV (As := [.int (-23)]) (rest := []) ⟨hx, hb, hml, hown, hts⟩ (t_X2_readMoney l dC dI _ Ω κ τ ν ρ L f29 hG hT adK adV zv h0 ((-23)) B0 ht_h0 (by first | decide | omega) hB (by first | omega | (have : ((-23) : Int32).toInt = (-23) := rfl; omega))) (cwV 1 hts gX2_readClause_X2_readMoney rfl rfl rfl ⟨rfl, pd_X2_readMoney⟩ ⟨Nat.le_of_ble_eq_true rfl, Nat.le_of_ble_eq_true rfl⟩) ⟨pw_blindZ, va_recv hK hP (ci := 2) (q0 := q33) rfl eq33, pw_preZ hP hK hD hN hZ hS (tp_fr hD hS hA)⟩ rfl rfl hl.1 rfl (lv_room (Nat.le_of_ble_eq_true rfl)) dX2_readClause_76 ⟨Nat.le_of_ble_eq_true rfl, Nat.le_of_ble_eq_true rfl⟩) hS (fun q _ h => hFc q h) hFc (fun r34 f36 t H1 locs ht hvm hw35 hB hz1 hk1 hS => ?_)
          refine tn_4 hw35 (fun hT hF37 hw35r hw35p => ?_); clear hw35
          have hR := hR.then hF37 (by decide)
          have hP := hB.1; rw [ht] at hP; have hD := tp_ad f36 hD; clear hB hFc hz1 hk1; subst ht; generalize t.heap = H at hP hS ⊢
          have hB := hw35p
          refine lv_if_eq (tgt := 86) hx hb dX2_readClause_79 (by decide) (fun c38 => ?_) (fun c38 => ?_)
          · have ic38 : r34.toInt = 0 := zi_eq rfl rfl c38
            refine lv_iconst (v := 0) hx hb dX2_readClause_86 (by decide) ?_
            exact W.zret (v := 0) hx hb hr rfl (fun t ht hW => ⟨⟨0, f36, rfl, ⟨hT, hR, (by first | decide | omega), hB⟩, by rw [ht]; exact hP, va_K.moved hW.alike hK, hD⟩, hS.F ht⟩) hS.2.2 dX2_readClause_87
          · have ic38 : r34.toInt ≠ 0 := zi_eqf rfl rfl c38
            refine lv_iconst (v := 1) hx hb dX2_readClause_82 (by decide) ?_
            refine lv_goto (tgt := 87) hx hb dX2_readClause_83 (by decide) ?_
            exact W.zret (v := 1) hx hb hr rfl (fun t ht hW => ⟨⟨1, f36, rfl, ⟨hT, hR, (by first | decide | omega), hB⟩, by rw [ht]; exact hP, va_K.moved hW.alike hK, hD⟩, hS.F ht⟩) hS.2.2 dX2_readClause_87
      · have ic24 : r20.toInt ≠ 0 := zi_eqf rfl rfl c24
        refine lv_aload_n hx hb dX2_readClause_57 rfl (lv_at hl 0 rfl) ?_
        refine lv_bipush (v := (-22)) hx hb dX2_readClause_58 (by decide) ?_
        refine tpk_3 hT ht_h0 (fun o39_x1 o39_x2 o39_x3 o39_x4 o39_x5 o39_x6 o39_x8 o39_x10 o39_x11 o39_x12 o39_x13 o39_x14 o39_x15 hf_o39 ro39_0 ro39_1 ro39_2 ro39_3 ro39_4 ro39_5 ro39_6 => ?_)
        have bo39 : o39_x12.toInt = B0 := by have q9 := hB; rw [hf_o39] at q9; exact q9
        refine tpk_pos (tp_in hG ht_h0 (by decide)) hf_o39 (fun q40 eq40 => ?_)
        have hFc := tp_fr hD hS hA
        refine va_calli (va_runV (As := [.int (-22)]) (rest := []) ⟨hx, hb, hml, hown, hts⟩ (t_X2_readMoney l dC dI _ Ω κ τ ν ρ L f22 hG hT adK adV zv h0 ((-22)) B0 ht_h0 (by first | decide | omega) hB (by first | omega | (have : ((-22) : Int32).toInt = (-22) := rfl; omega))) (cwV 1 hts gX2_readClause_X2_readMoney rfl rfl rfl ⟨rfl, pd_X2_readMoney⟩ ⟨Nat.le_of_ble_eq_true rfl, Nat.le_of_ble_eq_true rfl⟩) ⟨pw_blindZ, va_recv hK hP (ci := 2) (q0 := q40) rfl eq40, pw_preZ hP hK hD hN hZ hS (tp_fr hD hS hA)⟩ rfl rfl hl.1 rfl (lv_room (Nat.le_of_ble_eq_true rfl)) dX2_readClause_60 ⟨Nat.le_of_ble_eq_true rfl, Nat.le_of_ble_eq_true rfl⟩) hS (fun q _ h => hFc q h) hFc (fun r41 f43 t H1 locs ht hvm hw42 hB hz1 hk1 hS => ?_)
        refine tn_4 hw42 (fun hT hF44 hw42r hw42p => ?_); clear hw42
        have hR := hR.then hF44 (by decide)
        have hP := hB.1; rw [ht] at hP; have hD := tp_ad f43 hD; clear hB hFc hz1 hk1; subst ht; generalize t.heap = H at hP hS ⊢
        have hB := hw42p
        exact W.zret (v := r41) hx hb hr (zi_narZ (by omega) (by omega)) (fun t ht hW => ⟨⟨r41, f43, rfl, ⟨hT, hR, (by first | decide | omega), hB⟩, by rw [ht]; exact hP, va_K.moved hW.alike hK, hD⟩, hS.F ht⟩) hS.2.2 dX2_readClause_63
    · have ic17 : r13.toInt ≠ 0 := zi_eqf rfl rfl c17
      refine lv_aload_n hx hb dX2_readClause_23 rfl (lv_at hl 0 rfl) ?_
      refine lv_iconst (v := 0) hx hb dX2_readClause_24 (by decide) ?_
      refine lv_iconst (v := 5) hx hb dX2_readClause_25 (by decide) ?_
      refine tpk_3 hT ht_h0 (fun o45_x1 o45_x2 o45_x3 o45_x4 o45_x5 o45_x6 o45_x8 o45_x10 o45_x11 o45_x12 o45_x13 o45_x14 o45_x15 hf_o45 ro45_0 ro45_1 ro45_2 ro45_3 ro45_4 ro45_5 ro45_6 => ?_)
      have bo45 : o45_x12.toInt = B0 := by have q9 := hB; rw [hf_o45] at q9; exact q9
      refine tpk_pos (tp_in hG ht_h0 (by decide)) hf_o45 (fun q46 eq46 => ?_)
      refine pz_calli (va_runV (As := [.int 0, .int 5]) (rest := []) ⟨hx, hb, hml, hown, hts⟩ (t_X2_isNumber l dC dI _ Ω κ τ ν ρ L f15 hG hT h0 (0) (5) ht_h0) (cwV 2 hts gX2_readClause_X2_isNumber rfl rfl rfl ⟨rfl, pd_X2_isNumber⟩ ⟨Nat.le_of_ble_eq_true rfl, Nat.le_of_ble_eq_true rfl⟩) ⟨pz_blind, va_recv hK hP (ci := 2) (q0 := q46) rfl eq46, pz_pre hP hK hD hN⟩ rfl rfl hl.1 rfl (lv_room (Nat.le_of_ble_eq_true rfl)) dX2_readClause_26 ⟨Nat.le_of_ble_eq_true rfl, Nat.le_of_ble_eq_true rfl⟩) (fun r47 hw48 => ?_)
      obtain ⟨hw48r, hw48p⟩ := hw48
      refine lv_if_ne (tgt := 34) hx hb dX2_readClause_29 (by decide) (fun c49 => ?_) (fun c49 => ?_)
      · have ic49 : r47.toInt ≠ 0 := zi_ne rfl rfl c49
        refine lv_aload_n hx hb dX2_readClause_34 rfl (lv_at hl 0 rfl) ?_
        refine lv_aload_n hx hb dX2_readClause_35 rfl (lv_at hl 0 rfl) ?_
        have ro45_3 := tp_hu ro45_3
        refine va_get (D := (dC, dI)) (ci := 2) (v := .int o45_x6) (C := RX2) (T := TX2) (N := 16) hx hb hts hfX2 hown hK hP q46 eq46 rfl 6 (by decide) (hts (.fieldLink RX2 99 "ColdShips$Reader" "value" "I") wa_812) (fun _ h9 => h9) rfl dX2_readClause_36 ?_
        refine va_put (D := (dC, dI)) (ci := 2) (v := .int o45_x6) (ty := .int) (C := RX2) (T := TX2) (N := 16) hx hb hts hfX2 tyX2 tyX2_ok nmX2 hown hK hP hD hS q46 eq46 rfl 15 (by decide) (hts (.fieldLink RX2 50 "ColdShips$Reader" "wantedPlace" "I") wa_802) (fun _ h9 => h9) rfl (tyX2_ok 15 (by decide)) rfl rfl (Nat.le_of_ble_eq_true rfl) dX2_readClause_39 (tp_k (.inr (2, [.ref (ρ h0 0), .int o45_x1, .int o45_x2, .int o45_x3, .int o45_x4, .int o45_x5, .int o45_x6, .ref (ρ h0 7), .int o45_x8, .ref (ρ h0 9), .int o45_x10, .int o45_x11, .int o45_x12, .int o45_x13, .int o45_x14, .int o45_x6])) hD (tp_in hG ht_h0 (by decide)) eq46 (fun f50 H locs hP hD hS g52 k51 => ?_))
        have hT := hT.up ht_h0 g52 k51 ⟨_, _, _, _, _, _, _, _, _, _, _, _, _, rfl, ro45_0, ro45_1, ro45_2, ro45_3, ro45_4, ro45_5, ro45_6⟩
        have hR := hR.up ht_h0 (by decide) k51
        have hB : tp_fld (f50 h0) 12 = B0 := by rw [g52]; show (o45_x12).toInt = B0; omega
        refine lv_aload_n hx hb dX2_readClause_42 rfl (lv_at hl 0 rfl) ?_
        refine tpk_pos (tp_in hG ht_h0 (by decide)) g52 (fun q53 eq53 => ?_)
        have hFc := tp_fr hD hS hA
        refine va_callv (va_runV (As := []) (rest := []) ⟨hx, hb, hml, hown, hts⟩ (t_X2_advance l dC dI _ Ω κ τ ν ρ L f50 hG hT h0 B0 ht_h0 hB) (cwV 0 hts gX2_readClause_X2_advance rfl rfl rfl ⟨rfl, pd_X2_advance⟩ ⟨Nat.le_of_ble_eq_true rfl, Nat.le_of_ble_eq_true rfl⟩) ⟨pz_blind, va_recv hK hP (ci := 2) (q0 := q53) rfl eq53, pz_pre hP hK hD hN⟩ rfl rfl hl.1 rfl (lv_room (Nat.le_of_ble_eq_true rfl)) dX2_readClause_43 ⟨Nat.le_of_ble_eq_true rfl, Nat.le_of_ble_eq_true rfl⟩) hS (fun q _ h => hFc q h) hFc (fun f56 t H1 locs ht hvm hw55 hB hz1 hk1 hS => ?_)
        refine tn_3 hw55 (fun hT hF57 hw55p => ?_); clear hw55
        have hR := hR.then hF57 (by decide)
        have hP := hB.1; rw [ht] at hP; have hD := tp_ad f56 hD; clear hB hFc hz1 hk1; subst ht; generalize t.heap = H at hP hS ⊢
        have hB := hw55p
        refine lv_iconst (v := 1) hx hb dX2_readClause_46 (by decide) ?_
        exact W.zret (v := 1) hx hb hr rfl (fun t ht hW => ⟨⟨1, f56, rfl, ⟨hT, hR, (by first | decide | omega), hB⟩, by rw [ht]; exact hP, va_K.moved hW.alike hK, hD⟩, hS.F ht⟩) hS.2.2 dX2_readClause_47
      · have ic49 : r47.toInt = 0 := zi_nef rfl rfl c49
        refine lv_iconst (v := 0) hx hb dX2_readClause_32 (by decide) ?_
        exact W.zret (v := 0) hx hb hr rfl (fun t ht hW => ⟨⟨0, f15, rfl, ⟨hT, hR, (by first | decide | omega), hB⟩, by rw [ht]; exact hP, va_K.moved hW.alike hK, hD⟩, hS.F ht⟩) hS.2.2 dX2_readClause_33
  · have ic10 : r6.toInt ≠ 0 := zi_eqf rfl rfl c10
    refine lv_aload_n hx hb dX2_readClause_9 rfl (lv_at hl 0 rfl) ?_
    refine tpk_3 hT ht_h0 (fun o58_x1 o58_x2 o58_x3 o58_x4 o58_x5 o58_x6 o58_x8 o58_x10 o58_x11 o58_x12 o58_x13 o58_x14 o58_x15 hf_o58 ro58_0 ro58_1 ro58_2 ro58_3 ro58_4 ro58_5 ro58_6 => ?_)
    have bo58 : o58_x12.toInt = B0 := by have q9 := hB; rw [hf_o58] at q9; exact q9
    refine tpk_pos (tp_in hG ht_h0 (by decide)) hf_o58 (fun q59 eq59 => ?_)
    have hFc := tp_fr hD hS hA
    refine va_calli (va_runV (As := []) (rest := []) ⟨hx, hb, hml, hown, hts⟩ (t_X2_readWindow l dC dI _ Ω κ τ ν ρ L f8 hG hT adK adV zv h0 B0 ht_h0 hB (by omega)) (cwV 0 hts gX2_readClause_X2_readWindow rfl rfl rfl ⟨rfl, pd_X2_readWindow⟩ ⟨Nat.le_of_ble_eq_true rfl, Nat.le_of_ble_eq_true rfl⟩) ⟨pw_blindZ, va_recv hK hP (ci := 2) (q0 := q59) rfl eq59, pw_preZ hP hK hD hN hZ hS (tp_fr hD hS hA)⟩ rfl rfl hl.1 rfl (lv_room (Nat.le_of_ble_eq_true rfl)) dX2_readClause_10 ⟨Nat.le_of_ble_eq_true rfl, Nat.le_of_ble_eq_true rfl⟩) hS (fun q _ h => hFc q h) hFc (fun r60 f62 t H1 locs ht hvm hw61 hB hz1 hk1 hS => ?_)
    refine tn_4 hw61 (fun hT hF63 hw61r hw61p => ?_); clear hw61
    have hR := hR.then hF63 (by decide)
    have hP := hB.1; rw [ht] at hP; have hD := tp_ad f62 hD; clear hB hFc hz1 hk1; subst ht; generalize t.heap = H at hP hS ⊢
    have hB := hw61p
    exact W.zret (v := r60) hx hb hr (zi_narZ (by omega) (by omega)) (fun t ht hW => ⟨⟨r60, f62, rfl, ⟨hT, hR, (by first | decide | omega), hB⟩, by rw [ht]; exact hP, va_K.moved hW.alike hK, hD⟩, hS.F ht⟩) hS.2.2 dX2_readClause_13
set_option maxHeartbeats 4000000 in
set_option maxRecDepth 100000 in
theorem t_X2_readClauses (l : Launch) (dC : Nat → ClassId) (dI : Nat → Nat → Nat) (sz : Nat) (Ω : Nat → Nat → (Nat → Nat) → va_E → Prop) (κ : Nat → ClassId) (τ ν : Nat → Nat) (ρ : Nat → Nat → Nat) (L : List Nat) (f : Nat → va_E) (hG : tp_G τ ν ρ L) (hT : tp_T Ω κ τ ν ρ f) (adK adV : Nat → Nat) (zv : Option Nat) (h0 : Nat) (B0 : Int) (ht_h0 : τ h0 = 3) (hB : tp_fld (f h0) 12 = B0) (hBr : B0 = 0) : Met l yX2_readClauses wqX2_readClauses ({ frames := 82, cells := 0, slots := 0, locals := 32400 }) (va_Pc [.ref h0] (pw_BZ dC dI (tp_K κ) (va_pl L f) sz adK adV zv)) (va_Qi (fun (r : Int32) (f1 : Nat → va_E) => tp_T Ω κ τ ν ρ f1 ∧ tp_F τ [3, 20, 28] f f1 ∧ (0 ≤ r.toInt ∧ r.toInt ≤ 1) ∧ tp_fld (f1 h0) 12 = B0) (fun (f1 : Nat → va_E) (t : State) => pz_E dC dI (tp_K κ) (va_A (va_pl L f) sz) (va_pl L f1) t) (va_A (va_pl L f) sz)) 0 0 (va_A (va_pl L f) sz) := by
  refine Met.ofW (cc := cX2_readClauses) (maxL := 2) (ret := some .boolean) (by decide) rfl ?_
  intro p e s m args below meth c s₁ B hml hv
  obtain ⟨rfl, ⟨hsz, hP, hK, hD0, hN⟩, hZ⟩ := hv
  have hx := B.exec
  have hb := B.bytes
  have hr := B.returns
  have hts := fun (w : Cond) (h : w ∈ WALL) => atoms_spec (ws := wqX2_readClauses) B.pre w (List.mem_cons_of_mem _ h)
  have hown : s.vm.findClass RX2 = some m.cls := findClass_of_methodNamed B.named
  have hlocks := B.notSynchronized
  subst hsz
  have hD := hD0.self (sz := s.heap.size)
  generalize hAe : va_A (va_pl L f) s.heap.size = A at hD hZ ⊢
  have hA : ∀ q : Nat, s.heap.size ≤ q → A q := fun q h => by rw [← hAe]; exact Or.inr h
  have hS : va_S A s.heap s.heap [] := va_S.rf
  have hR : tp_F τ [3, 20, 28] f f := tp_F.rf
  have hl := lv_entry ([.ref h0]) (n := 2) (Nat.le_of_ble_eq_true rfl)
  rw [lg_entry_eq]
  generalize (lg_sl ([.ref h0]) ++ List.replicate (2 - (lg_sl ([.ref h0])).length) Slot.unset).toArray = ls at hl ⊢
  have hl : lv_has ls 2 [(0, .ref h0)] := hl
  refine lv_iconst (v := 0) hx hb dX2_readClauses_0 (by decide) ?_
  refine lv_istore_n (lv' := [(1, .int 0), (0, .ref h0)]) hx hb dX2_readClauses_1 rfl hl (by decide) rfl (fun ls hl => ?_)
  refine pz_loop (fun n0 H locs ls => ∃ f2 : Nat → va_E, ∃ w1 : Int32, n0 = (12 - (w1.toInt)).toNat ∧ tp_T Ω κ τ ν ρ f2 ∧ tp_F τ [3, 20, 28] f f2 ∧ tp_fld (f2 h0) 12 = B0 ∧ (0 ≤ w1.toInt ∧ w1.toInt ≤ 12) ∧ va_P (dC, dI) vwCl (va_pl L f2) H ∧ va_D A (va_pl L f2) ∧ va_S A s.heap H locs ∧ lv_has ls 2 [(1, .int w1), (0, .ref h0)]) ?_ _ _ _ _ ⟨f, 0, rfl, hT, hR, hB, (by have : (0 : Int32).toInt = 0 := rfl; omega), hP, hD, hS, lv_sub hl [0, 1] rfl⟩
  intro n0 H locs ls hI ih3
  refine Exists.elim hI (fun f2 hE90 => Exists.elim hE90 (fun w1 hE91 => tn_9 hE91 (fun hn4 hT hR hB rw1 hP hD hS hl => ?_)))
  clear hE91 hE90 hI
  refine lv_iload_n hx hb dX2_readClauses_2 rfl (lv_at hl 0 rfl) ?_
  refine lv_bipush (v := 12) hx hb dX2_readClauses_3 (by decide) ?_
  refine lv_icmp_ge (tgt := 43) hx hb dX2_readClauses_5 (by decide) (fun c5 => ?_) (fun c5 => ?_)
  · have ic5 : w1.toInt ≥ 12 := zi_ge rfl rfl c5
    refine lv_iconst (v := 0) hx hb dX2_readClauses_43 (by decide) ?_
    exact W.zret (v := 0) hx hb hr rfl (fun t ht hW => ⟨⟨0, f2, rfl, ⟨hT, hR, (by first | decide | omega), hB⟩, by rw [ht]; exact hP, va_K.moved hW.alike hK, hD⟩, hS.F ht⟩) hS.2.2 dX2_readClauses_44
  · have ic5 : w1.toInt < 12 := zi_gef rfl rfl c5
    refine lv_aload_n hx hb dX2_readClauses_8 rfl (lv_at hl 1 rfl) ?_
    refine tgk_3 hG ht_h0 (fun y6 y6n y7 y7n y8 y8n => ?_)
    refine tpk_3 hT ht_h0 (fun o9_x1 o9_x2 o9_x3 o9_x4 o9_x5 o9_x6 o9_x8 o9_x10 o9_x11 o9_x12 o9_x13 o9_x14 o9_x15 hf_o9 ro9_0 ro9_1 ro9_2 ro9_3 ro9_4 ro9_5 ro9_6 => ?_)
    have bo9 : o9_x12.toInt = B0 := by have q9 := hB; rw [hf_o9] at q9; exact q9
    refine tpk_pos (tp_in hG ht_h0 (by decide)) hf_o9 (fun q10 eq10 => ?_)
    have hFc := tp_fr hD hS hA
    refine va_calli (va_runV (As := []) (rest := []) ⟨hx, hb, hml, hown, hts⟩ (t_X2_readClause l dC dI _ Ω κ τ ν ρ L f2 hG hT adK adV zv h0 B0 ht_h0 hB (by omega)) (cwV 0 hts gX2_readClauses_X2_readClause rfl rfl rfl ⟨rfl, pd_X2_readClause⟩ ⟨Nat.le_of_ble_eq_true rfl, Nat.le_of_ble_eq_true rfl⟩) ⟨pw_blindZ, va_recv hK hP (ci := 2) (q0 := q10) rfl eq10, pw_preZ hP hK hD hN hZ hS (tp_fr hD hS hA)⟩ rfl rfl hl.1 rfl (lv_room (Nat.le_of_ble_eq_true rfl)) dX2_readClauses_9 ⟨Nat.le_of_ble_eq_true rfl, Nat.le_of_ble_eq_true rfl⟩) hS (fun q _ h => hFc q h) hFc (fun r11 f13 t H1 locs ht hvm hw12 hB hz1 hk1 hS => ?_)
    refine tn_4 hw12 (fun hT hF14 hw12r hw12p => ?_); clear hw12
    have hR := hR.then hF14 (by decide)
    have hP := hB.1; rw [ht] at hP; have hD := tp_ad f13 hD; clear hB hFc hz1 hk1; subst ht; generalize t.heap = H at hP hS ⊢
    have hB := hw12p
    refine lv_if_ne (tgt := 17) hx hb dX2_readClauses_12 (by decide) (fun c15 => ?_) (fun c15 => ?_)
    · have ic15 : r11.toInt ≠ 0 := zi_ne rfl rfl c15
      refine lv_aload_n hx hb dX2_readClauses_17 rfl (lv_at hl 1 rfl) ?_
      refine tpk_3 hT ht_h0 (fun o16_x1 o16_x2 o16_x3 o16_x4 o16_x5 o16_x6 o16_x8 o16_x10 o16_x11 o16_x12 o16_x13 o16_x14 o16_x15 hf_o16 ro16_0 ro16_1 ro16_2 ro16_3 ro16_4 ro16_5 ro16_6 => ?_)
      have bo16 : o16_x12.toInt = B0 := by have q9 := hB; rw [hf_o16] at q9; exact q9
      refine tpk_pos (tp_in hG ht_h0 (by decide)) hf_o16 (fun q17 eq17 => ?_)
      have ro16_6 := tp_hu ro16_6
      refine va_get (D := (dC, dI)) (ci := 2) (v := .int o16_x4) (C := RX2) (T := TX2) (N := 16) hx hb hts hfX2 hown hK hP q17 eq17 rfl 4 (by decide) (hts (.fieldLink RX2 77 "ColdShips$Reader" "kind" "I") wa_811) (fun _ h9 => h9) rfl dX2_readClauses_18 ?_
      refine lv_if_ne (tgt := 26) hx hb dX2_readClauses_21 (by decide) (fun c18 => ?_) (fun c18 => ?_)
      · have ic18 : o16_x4.toInt ≠ 0 := zi_ne rfl rfl c18
        refine lv_aload_n hx hb dX2_readClauses_26 rfl (lv_at hl 1 rfl) ?_
        refine lv_bipush (v := 59) hx hb dX2_readClauses_27 (by decide) ?_
        have hFc := tp_fr hD hS hA
        refine va_calli (va_runV (As := [.int 59]) (rest := []) ⟨hx, hb, hml, hown, hts⟩ (t_X2_passSign l dC dI _ Ω κ τ ν ρ L f13 hG hT h0 (59) B0 ht_h0 hB) (cwV 1 hts gX2_readClauses_X2_passSign rfl rfl rfl ⟨rfl, pd_X2_passSign⟩ ⟨Nat.le_of_ble_eq_true rfl, Nat.le_of_ble_eq_true rfl⟩) ⟨pz_blind, va_recv hK hP (ci := 2) (q0 := q17) rfl eq17, pz_pre hP hK hD hN⟩ rfl rfl hl.1 rfl (lv_room (Nat.le_of_ble_eq_true rfl)) dX2_readClauses_29 ⟨Nat.le_of_ble_eq_true rfl, Nat.le_of_ble_eq_true rfl⟩) hS (fun q _ h => hFc q h) hFc (fun r19 f21 t H1 locs ht hvm hw20 hB hz1 hk1 hS => ?_)
        refine tn_4 hw20 (fun hT hF22 hw20r hw20p => ?_); clear hw20
        have hR := hR.then hF22 (by decide)
        have hP := hB.1; rw [ht] at hP; have hD := tp_ad f21 hD; clear hB hFc hz1 hk1; subst ht; generalize t.heap = H at hP hS ⊢
        have hB := hw20p
        refine lv_if_ne (tgt := 37) hx hb dX2_readClauses_32 (by decide) (fun c23 => ?_) (fun c23 => ?_)
        · have ic23 : r19.toInt ≠ 0 := zi_ne rfl rfl c23
          obtain ⟨z24, ez24⟩ : ∃ y : Int32, y = w1 + 1 := ⟨_, rfl⟩
          refine lv_iinc (v := z24) (lv' := [(1, .int z24), (0, .ref h0)]) hx hb dX2_readClauses_37 hl (k := 0) rfl (by rw [ez24]; rfl) (by decide) rfl (fun ls hl => ?_)
          have iz24 : z24.toInt = w1.toInt + 1 := zi_add ez24 rfl rfl (by omega) (by omega)
          refine lv_goto (tgt := 2) hx hb dX2_readClauses_40 (by decide) ?_
          exact ih3 _ _ _ _ (by rw [hn4]; omega) ⟨f21, z24, rfl, hT, hR, hB, (by omega), hP, hD, hS, lv_sub hl [0, 1] rfl⟩
        · have ic23 : r19.toInt = 0 := zi_nef rfl rfl c23
          refine lv_iconst (v := 0) hx hb dX2_readClauses_35 (by decide) ?_
          exact W.zret (v := 0) hx hb hr rfl (fun t ht hW => ⟨⟨0, f21, rfl, ⟨hT, hR, (by first | decide | omega), hB⟩, by rw [ht]; exact hP, va_K.moved hW.alike hK, hD⟩, hS.F ht⟩) hS.2.2 dX2_readClauses_36
      · have ic18 : o16_x4.toInt = 0 := zi_nef rfl rfl c18
        refine lv_iconst (v := 1) hx hb dX2_readClauses_24 (by decide) ?_
        exact W.zret (v := 1) hx hb hr rfl (fun t ht hW => ⟨⟨1, f13, rfl, ⟨hT, hR, (by first | decide | omega), hB⟩, by rw [ht]; exact hP, va_K.moved hW.alike hK, hD⟩, hS.F ht⟩) hS.2.2 dX2_readClauses_25
    · have ic15 : r11.toInt = 0 := zi_nef rfl rfl c15
      refine lv_iconst (v := 0) hx hb dX2_readClauses_15 (by decide) ?_
      exact W.zret (v := 0) hx hb hr rfl (fun t ht hW => ⟨⟨0, f13, rfl, ⟨hT, hR, (by first | decide | omega), hB⟩, by rw [ht]; exact hP, va_K.moved hW.alike hK, hD⟩, hS.F ht⟩) hS.2.2 dX2_readClauses_16
end
section
theorem gX11_terminal_X11_within : GoodIn WALL (va_wsS RX11 51 yX11_within wqX11_within) := wg_S wa_180 wa_181 wa_2 wa_182
theorem gX11_terminal_X11_refuse : GoodIn WALL (wsV RX11 55 RX11 yX11_refuse wqX11_refuse) := wg_V wa_183 wa_184 wa_185 wa_2 wa_186
theorem gX11_terminal_X8_begin : GoodIn WALL (wsV RX11 67 RX8 yX8_begin wqX8_begin) := wg_V wa_188 wa_189 wa_190 wa_62 wa_191
theorem gX11_terminal_X11_accept : GoodIn WALL (wsV RX11 73 RX11 yX11_accept wqX11_accept) := wg_V wa_201 wa_202 wa_203 wa_2 wa_204
theorem dX11_terminal_0 : decode cX11_terminal 0 = .ok (.iload_n 2, 1) := od_28  (by decide +kernel)
theorem dX11_terminal_1 : decode cX11_terminal 1 = .ok (.iconst 0, 1) := od_3  (by decide +kernel)
theorem dX11_terminal_2 : decode cX11_terminal 2 = .ok (.ldc 50, 2) := od_18 (n := 50) (by decide +kernel)
theorem dX11_terminal_4 : decode cX11_terminal 4 = .ok (.invokestatic 51, 3) := od_184 (a := 0) (b := 51) (by decide +kernel) (by decide)
theorem dX11_terminal_7 : decode cX11_terminal 7 = .ok (.ifCond .eq 34, 3) := od_153 (a := 0) (b := 34) (by decide +kernel) (by decide +kernel)
theorem dX11_terminal_10 : decode cX11_terminal 10 = .ok (.iload_n 1, 1) := od_27  (by decide +kernel)
theorem dX11_terminal_11 : decode cX11_terminal 11 = .ok (.iconst 0, 1) := od_3  (by decide +kernel)
theorem dX11_terminal_12 : decode cX11_terminal 12 = .ok (.iload_n 2, 1) := od_28  (by decide +kernel)
theorem dX11_terminal_13 : decode cX11_terminal 13 = .ok (.invokestatic 51, 3) := od_184 (a := 0) (b := 51) (by decide +kernel) (by decide)
theorem dX11_terminal_16 : decode cX11_terminal 16 = .ok (.ifCond .eq 25, 3) := od_153 (a := 0) (b := 25) (by decide +kernel) (by decide +kernel)
theorem dX11_terminal_19 : decode cX11_terminal 19 = .ok (.iload_n 3, 1) := od_29  (by decide +kernel)
theorem dX11_terminal_20 : decode cX11_terminal 20 = .ok (.iconst 1, 1) := od_4  (by decide +kernel)
theorem dX11_terminal_21 : decode cX11_terminal 21 = .ok (.sipush 10000, 3) := od_17 (a := 39) (b := 16) (by decide +kernel) (by decide +kernel)
theorem dX11_terminal_24 : decode cX11_terminal 24 = .ok (.invokestatic 51, 3) := od_184 (a := 0) (b := 51) (by decide +kernel) (by decide)
theorem dX11_terminal_27 : decode cX11_terminal 27 = .ok (.ifCond .eq 14, 3) := od_153 (a := 0) (b := 14) (by decide +kernel) (by decide +kernel)
theorem dX11_terminal_30 : decode cX11_terminal 30 = .ok (.iload 4, 2) := od_21 (n := 4) (by decide +kernel)
theorem dX11_terminal_32 : decode cX11_terminal 32 = .ok (.iconst 0, 1) := od_3  (by decide +kernel)
theorem dX11_terminal_33 : decode cX11_terminal 33 = .ok (.bipush 30, 2) := od_16 (a := 30) (by decide +kernel) (by decide +kernel)
theorem dX11_terminal_35 : decode cX11_terminal 35 = .ok (.invokestatic 51, 3) := od_184 (a := 0) (b := 51) (by decide +kernel) (by decide)
theorem dX11_terminal_38 : decode cX11_terminal 38 = .ok (.ifCond .ne 9, 3) := od_154 (a := 0) (b := 9) (by decide +kernel) (by decide +kernel)
theorem dX11_terminal_41 : decode cX11_terminal 41 = .ok (.aload_n 0, 1) := od_42  (by decide +kernel)
theorem dX11_terminal_42 : decode cX11_terminal 42 = .ok (.iconst (-1), 1) := od_2  (by decide +kernel)
theorem dX11_terminal_43 : decode cX11_terminal 43 = .ok (.invokevirtual 55, 3) := od_182 (a := 0) (b := 55) (by decide +kernel) (by decide)
theorem dX11_terminal_46 : decode cX11_terminal 46 = .ok (.ireturn, 1) := od_172  (by decide +kernel)
theorem dX11_terminal_47 : decode cX11_terminal 47 = .ok (.aload_n 0, 1) := od_42  (by decide +kernel)
theorem dX11_terminal_48 : decode cX11_terminal 48 = .ok (.getfield 10, 3) := od_180 (a := 0) (b := 10) (by decide +kernel) (by decide)
theorem dX11_terminal_51 : decode cX11_terminal 51 = .ok (.getfield 59, 3) := od_180 (a := 0) (b := 59) (by decide +kernel) (by decide)
theorem dX11_terminal_54 : decode cX11_terminal 54 = .ok (.bipush 6, 2) := od_16 (a := 6) (by decide +kernel) (by decide +kernel)
theorem dX11_terminal_56 : decode cX11_terminal 56 = .ok (.if_icmp .lt 10, 3) := od_161 (a := 0) (b := 10) (by decide +kernel) (by decide +kernel)
theorem dX11_terminal_59 : decode cX11_terminal 59 = .ok (.aload_n 0, 1) := od_42  (by decide +kernel)
theorem dX11_terminal_60 : decode cX11_terminal 60 = .ok (.bipush (-5), 2) := od_16 (a := 251) (by decide +kernel) (by decide +kernel)
theorem dX11_terminal_62 : decode cX11_terminal 62 = .ok (.invokevirtual 55, 3) := od_182 (a := 0) (b := 55) (by decide +kernel) (by decide)
theorem dX11_terminal_65 : decode cX11_terminal 65 = .ok (.ireturn, 1) := od_172  (by decide +kernel)
theorem dX11_terminal_66 : decode cX11_terminal 66 = .ok (.aload_n 0, 1) := od_42  (by decide +kernel)
theorem dX11_terminal_67 : decode cX11_terminal 67 = .ok (.getfield 10, 3) := od_180 (a := 0) (b := 10) (by decide +kernel) (by decide)
theorem dX11_terminal_70 : decode cX11_terminal 70 = .ok (.getfield 59, 3) := od_180 (a := 0) (b := 59) (by decide +kernel) (by decide)
theorem dX11_terminal_73 : decode cX11_terminal 73 = .ok (.istore 5, 2) := od_54 (n := 5) (by decide +kernel)
theorem dX11_terminal_75 : decode cX11_terminal 75 = .ok (.aload_n 0, 1) := od_42  (by decide +kernel)
theorem dX11_terminal_76 : decode cX11_terminal 76 = .ok (.getfield 10, 3) := od_180 (a := 0) (b := 10) (by decide +kernel) (by decide)
theorem dX11_terminal_79 : decode cX11_terminal 79 = .ok (.getfield 63, 3) := od_180 (a := 0) (b := 63) (by decide +kernel) (by decide)
theorem dX11_terminal_82 : decode cX11_terminal 82 = .ok (.iload 5, 2) := od_21 (n := 5) (by decide +kernel)
theorem dX11_terminal_84 : decode cX11_terminal 84 = .ok (.aaload, 1) := od_50  (by decide +kernel)
theorem dX11_terminal_85 : decode cX11_terminal 85 = .ok (.iload_n 1, 1) := od_27  (by decide +kernel)
theorem dX11_terminal_86 : decode cX11_terminal 86 = .ok (.iload_n 2, 1) := od_28  (by decide +kernel)
theorem dX11_terminal_87 : decode cX11_terminal 87 = .ok (.iload_n 3, 1) := od_29  (by decide +kernel)
theorem dX11_terminal_88 : decode cX11_terminal 88 = .ok (.iload 4, 2) := od_21 (n := 4) (by decide +kernel)
theorem dX11_terminal_90 : decode cX11_terminal 90 = .ok (.invokevirtual 67, 3) := od_182 (a := 0) (b := 67) (by decide +kernel) (by decide)
theorem dX11_terminal_93 : decode cX11_terminal 93 = .ok (.aload_n 0, 1) := od_42  (by decide +kernel)
theorem dX11_terminal_94 : decode cX11_terminal 94 = .ok (.getfield 10, 3) := od_180 (a := 0) (b := 10) (by decide +kernel) (by decide)
theorem dX11_terminal_97 : decode cX11_terminal 97 = .ok (.dup, 1) := od_89  (by decide +kernel)
theorem dX11_terminal_98 : decode cX11_terminal 98 = .ok (.getfield 59, 3) := od_180 (a := 0) (b := 59) (by decide +kernel) (by decide)
theorem dX11_terminal_101 : decode cX11_terminal 101 = .ok (.iconst 1, 1) := od_4  (by decide +kernel)
theorem dX11_terminal_102 : decode cX11_terminal 102 = .ok (.iadd, 1) := od_96  (by decide +kernel)
theorem dX11_terminal_103 : decode cX11_terminal 103 = .ok (.putfield 59, 3) := od_181 (a := 0) (b := 59) (by decide +kernel) (by decide)
theorem dX11_terminal_106 : decode cX11_terminal 106 = .ok (.aload_n 0, 1) := od_42  (by decide +kernel)
theorem dX11_terminal_107 : decode cX11_terminal 107 = .ok (.iload 5, 2) := od_21 (n := 5) (by decide +kernel)
theorem dX11_terminal_109 : decode cX11_terminal 109 = .ok (.invokevirtual 73, 3) := od_182 (a := 0) (b := 73) (by decide +kernel) (by decide)
theorem dX11_terminal_112 : decode cX11_terminal 112 = .ok (.ireturn, 1) := od_172  (by decide +kernel)
theorem gX11_ship_X11_within : GoodIn WALL (va_wsS RX11 51 yX11_within wqX11_within) := wg_S wa_180 wa_181 wa_2 wa_182
theorem gX11_ship_X11_refuse : GoodIn WALL (wsV RX11 55 RX11 yX11_refuse wqX11_refuse) := wg_V wa_183 wa_184 wa_185 wa_2 wa_186
theorem gX11_ship_X10_hasTerminal : GoodIn WALL (wsV RX11 77 RX10 yX10_hasTerminal wqX10_hasTerminal) := wg_V wa_233 wa_234 wa_235 wa_14 wa_236
theorem gX11_ship_X5_begin : GoodIn WALL (wsV RX11 88 RX5 yX5_begin wqX5_begin) := wg_V wa_238 wa_239 wa_240 wa_64 wa_241
theorem gX11_ship_X11_accept : GoodIn WALL (wsV RX11 73 RX11 yX11_accept wqX11_accept) := wg_V wa_201 wa_202 wa_203 wa_2 wa_204
theorem dX11_ship_0 : decode cX11_ship 0 = .ok (.iload_n 2, 1) := od_28  (by decide +kernel)
theorem dX11_ship_1 : decode cX11_ship 1 = .ok (.sipush 1000, 3) := od_17 (a := 3) (b := 232) (by decide +kernel) (by decide +kernel)
theorem dX11_ship_4 : decode cX11_ship 4 = .ok (.ldc 76, 2) := od_18 (n := 76) (by decide +kernel)
theorem dX11_ship_6 : decode cX11_ship 6 = .ok (.invokestatic 51, 3) := od_184 (a := 0) (b := 51) (by decide +kernel) (by decide)
theorem dX11_ship_9 : decode cX11_ship 9 = .ok (.ifCond .eq 13, 3) := od_153 (a := 0) (b := 13) (by decide +kernel) (by decide +kernel)
theorem dX11_ship_12 : decode cX11_ship 12 = .ok (.iload_n 3, 1) := od_29  (by decide +kernel)
theorem dX11_ship_13 : decode cX11_ship 13 = .ok (.iconst 1, 1) := od_4  (by decide +kernel)
theorem dX11_ship_14 : decode cX11_ship 14 = .ok (.bipush 50, 2) := od_16 (a := 50) (by decide +kernel) (by decide +kernel)
theorem dX11_ship_16 : decode cX11_ship 16 = .ok (.invokestatic 51, 3) := od_184 (a := 0) (b := 51) (by decide +kernel) (by decide)
theorem dX11_ship_19 : decode cX11_ship 19 = .ok (.ifCond .ne 9, 3) := od_154 (a := 0) (b := 9) (by decide +kernel) (by decide +kernel)
theorem dX11_ship_22 : decode cX11_ship 22 = .ok (.aload_n 0, 1) := od_42  (by decide +kernel)
theorem dX11_ship_23 : decode cX11_ship 23 = .ok (.iconst (-1), 1) := od_2  (by decide +kernel)
theorem dX11_ship_24 : decode cX11_ship 24 = .ok (.invokevirtual 55, 3) := od_182 (a := 0) (b := 55) (by decide +kernel) (by decide)
theorem dX11_ship_27 : decode cX11_ship 27 = .ok (.ireturn, 1) := od_172  (by decide +kernel)
theorem dX11_ship_28 : decode cX11_ship 28 = .ok (.aload_n 0, 1) := od_42  (by decide +kernel)
theorem dX11_ship_29 : decode cX11_ship 29 = .ok (.getfield 10, 3) := od_180 (a := 0) (b := 10) (by decide +kernel) (by decide)
theorem dX11_ship_32 : decode cX11_ship 32 = .ok (.iload_n 1, 1) := od_27  (by decide +kernel)
theorem dX11_ship_33 : decode cX11_ship 33 = .ok (.invokevirtual 77, 3) := od_182 (a := 0) (b := 77) (by decide +kernel) (by decide)
theorem dX11_ship_36 : decode cX11_ship 36 = .ok (.ifCond .ne 10, 3) := od_154 (a := 0) (b := 10) (by decide +kernel) (by decide +kernel)
theorem dX11_ship_39 : decode cX11_ship 39 = .ok (.aload_n 0, 1) := od_42  (by decide +kernel)
theorem dX11_ship_40 : decode cX11_ship 40 = .ok (.bipush (-2), 2) := od_16 (a := 254) (by decide +kernel) (by decide +kernel)
theorem dX11_ship_42 : decode cX11_ship 42 = .ok (.invokevirtual 55, 3) := od_182 (a := 0) (b := 55) (by decide +kernel) (by decide)
theorem dX11_ship_45 : decode cX11_ship 45 = .ok (.ireturn, 1) := od_172  (by decide +kernel)
theorem dX11_ship_46 : decode cX11_ship 46 = .ok (.aload_n 0, 1) := od_42  (by decide +kernel)
theorem dX11_ship_47 : decode cX11_ship 47 = .ok (.getfield 10, 3) := od_180 (a := 0) (b := 10) (by decide +kernel) (by decide)
theorem dX11_ship_50 : decode cX11_ship 50 = .ok (.getfield 81, 3) := od_180 (a := 0) (b := 81) (by decide +kernel) (by decide)
theorem dX11_ship_53 : decode cX11_ship 53 = .ok (.bipush 6, 2) := od_16 (a := 6) (by decide +kernel) (by decide +kernel)
theorem dX11_ship_55 : decode cX11_ship 55 = .ok (.if_icmp .lt 10, 3) := od_161 (a := 0) (b := 10) (by decide +kernel) (by decide +kernel)
theorem dX11_ship_58 : decode cX11_ship 58 = .ok (.aload_n 0, 1) := od_42  (by decide +kernel)
theorem dX11_ship_59 : decode cX11_ship 59 = .ok (.bipush (-5), 2) := od_16 (a := 251) (by decide +kernel) (by decide +kernel)
theorem dX11_ship_61 : decode cX11_ship 61 = .ok (.invokevirtual 55, 3) := od_182 (a := 0) (b := 55) (by decide +kernel) (by decide)
theorem dX11_ship_64 : decode cX11_ship 64 = .ok (.ireturn, 1) := od_172  (by decide +kernel)
theorem dX11_ship_65 : decode cX11_ship 65 = .ok (.aload_n 0, 1) := od_42  (by decide +kernel)
theorem dX11_ship_66 : decode cX11_ship 66 = .ok (.getfield 10, 3) := od_180 (a := 0) (b := 10) (by decide +kernel) (by decide)
theorem dX11_ship_69 : decode cX11_ship 69 = .ok (.getfield 81, 3) := od_180 (a := 0) (b := 81) (by decide +kernel) (by decide)
theorem dX11_ship_72 : decode cX11_ship 72 = .ok (.istore 4, 2) := od_54 (n := 4) (by decide +kernel)
theorem dX11_ship_74 : decode cX11_ship 74 = .ok (.aload_n 0, 1) := od_42  (by decide +kernel)
theorem dX11_ship_75 : decode cX11_ship 75 = .ok (.getfield 10, 3) := od_180 (a := 0) (b := 10) (by decide +kernel) (by decide)
theorem dX11_ship_78 : decode cX11_ship 78 = .ok (.getfield 84, 3) := od_180 (a := 0) (b := 84) (by decide +kernel) (by decide)
theorem dX11_ship_81 : decode cX11_ship 81 = .ok (.iload 4, 2) := od_21 (n := 4) (by decide +kernel)
theorem dX11_ship_83 : decode cX11_ship 83 = .ok (.aaload, 1) := od_50  (by decide +kernel)
theorem dX11_ship_84 : decode cX11_ship 84 = .ok (.iload_n 1, 1) := od_27  (by decide +kernel)
theorem dX11_ship_85 : decode cX11_ship 85 = .ok (.iload_n 2, 1) := od_28  (by decide +kernel)
theorem dX11_ship_86 : decode cX11_ship 86 = .ok (.iload_n 3, 1) := od_29  (by decide +kernel)
theorem dX11_ship_87 : decode cX11_ship 87 = .ok (.invokevirtual 88, 3) := od_182 (a := 0) (b := 88) (by decide +kernel) (by decide)
theorem dX11_ship_90 : decode cX11_ship 90 = .ok (.aload_n 0, 1) := od_42  (by decide +kernel)
theorem dX11_ship_91 : decode cX11_ship 91 = .ok (.getfield 10, 3) := od_180 (a := 0) (b := 10) (by decide +kernel) (by decide)
theorem dX11_ship_94 : decode cX11_ship 94 = .ok (.dup, 1) := od_89  (by decide +kernel)
theorem dX11_ship_95 : decode cX11_ship 95 = .ok (.getfield 81, 3) := od_180 (a := 0) (b := 81) (by decide +kernel) (by decide)
theorem dX11_ship_98 : decode cX11_ship 98 = .ok (.iconst 1, 1) := od_4  (by decide +kernel)
theorem dX11_ship_99 : decode cX11_ship 99 = .ok (.iadd, 1) := od_96  (by decide +kernel)
theorem dX11_ship_100 : decode cX11_ship 100 = .ok (.putfield 81, 3) := od_181 (a := 0) (b := 81) (by decide +kernel) (by decide)
theorem dX11_ship_103 : decode cX11_ship 103 = .ok (.aload_n 0, 1) := od_42  (by decide +kernel)
theorem dX11_ship_104 : decode cX11_ship 104 = .ok (.iload 4, 2) := od_21 (n := 4) (by decide +kernel)
theorem dX11_ship_106 : decode cX11_ship 106 = .ok (.invokevirtual 73, 3) := od_182 (a := 0) (b := 73) (by decide +kernel) (by decide)
theorem dX11_ship_109 : decode cX11_ship 109 = .ok (.ireturn, 1) := od_172  (by decide +kernel)
theorem gX11_way_X11_within : GoodIn WALL (va_wsS RX11 51 yX11_within wqX11_within) := wg_S wa_180 wa_181 wa_2 wa_182
theorem gX11_way_X11_refuse : GoodIn WALL (wsV RX11 55 RX11 yX11_refuse wqX11_refuse) := wg_V wa_183 wa_184 wa_185 wa_2 wa_186
theorem gX11_way_X10_hasTerminal : GoodIn WALL (wsV RX11 77 RX10 yX10_hasTerminal wqX10_hasTerminal) := wg_V wa_233 wa_234 wa_235 wa_14 wa_236
theorem gX11_way_X8_tellWay : GoodIn WALL (wsV RX11 93 RX8 yX8_tellWay wqX8_tellWay) := wg_V wa_285 wa_286 wa_287 wa_62 wa_288
theorem gX11_way_X11_accept : GoodIn WALL (wsV RX11 73 RX11 yX11_accept wqX11_accept) := wg_V wa_201 wa_202 wa_203 wa_2 wa_204
theorem dX11_way_0 : decode cX11_way 0 = .ok (.iload_n 3, 1) := od_29  (by decide +kernel)
theorem dX11_way_1 : decode cX11_way 1 = .ok (.iconst 1, 1) := od_4  (by decide +kernel)
theorem dX11_way_2 : decode cX11_way 2 = .ok (.sipush 400, 3) := od_17 (a := 1) (b := 144) (by decide +kernel) (by decide +kernel)
theorem dX11_way_5 : decode cX11_way 5 = .ok (.invokestatic 51, 3) := od_184 (a := 0) (b := 51) (by decide +kernel) (by decide)
theorem dX11_way_8 : decode cX11_way 8 = .ok (.ifCond .ne 9, 3) := od_154 (a := 0) (b := 9) (by decide +kernel) (by decide +kernel)
theorem dX11_way_11 : decode cX11_way 11 = .ok (.aload_n 0, 1) := od_42  (by decide +kernel)
theorem dX11_way_12 : decode cX11_way 12 = .ok (.iconst (-1), 1) := od_2  (by decide +kernel)
theorem dX11_way_13 : decode cX11_way 13 = .ok (.invokevirtual 55, 3) := od_182 (a := 0) (b := 55) (by decide +kernel) (by decide)
theorem dX11_way_16 : decode cX11_way 16 = .ok (.ireturn, 1) := od_172  (by decide +kernel)
theorem dX11_way_17 : decode cX11_way 17 = .ok (.aload_n 0, 1) := od_42  (by decide +kernel)
theorem dX11_way_18 : decode cX11_way 18 = .ok (.getfield 10, 3) := od_180 (a := 0) (b := 10) (by decide +kernel) (by decide)
theorem dX11_way_21 : decode cX11_way 21 = .ok (.iload_n 1, 1) := od_27  (by decide +kernel)
theorem dX11_way_22 : decode cX11_way 22 = .ok (.invokevirtual 77, 3) := od_182 (a := 0) (b := 77) (by decide +kernel) (by decide)
theorem dX11_way_25 : decode cX11_way 25 = .ok (.ifCond .eq 14, 3) := od_153 (a := 0) (b := 14) (by decide +kernel) (by decide +kernel)
theorem dX11_way_28 : decode cX11_way 28 = .ok (.aload_n 0, 1) := od_42  (by decide +kernel)
theorem dX11_way_29 : decode cX11_way 29 = .ok (.getfield 10, 3) := od_180 (a := 0) (b := 10) (by decide +kernel) (by decide)
theorem dX11_way_32 : decode cX11_way 32 = .ok (.iload_n 2, 1) := od_28  (by decide +kernel)
theorem dX11_way_33 : decode cX11_way 33 = .ok (.invokevirtual 77, 3) := od_182 (a := 0) (b := 77) (by decide +kernel) (by decide)
theorem dX11_way_36 : decode cX11_way 36 = .ok (.ifCond .ne 10, 3) := od_154 (a := 0) (b := 10) (by decide +kernel) (by decide +kernel)
theorem dX11_way_39 : decode cX11_way 39 = .ok (.aload_n 0, 1) := od_42  (by decide +kernel)
theorem dX11_way_40 : decode cX11_way 40 = .ok (.bipush (-2), 2) := od_16 (a := 254) (by decide +kernel) (by decide +kernel)
theorem dX11_way_42 : decode cX11_way 42 = .ok (.invokevirtual 55, 3) := od_182 (a := 0) (b := 55) (by decide +kernel) (by decide)
theorem dX11_way_45 : decode cX11_way 45 = .ok (.ireturn, 1) := od_172  (by decide +kernel)
theorem dX11_way_46 : decode cX11_way 46 = .ok (.iload_n 1, 1) := od_27  (by decide +kernel)
theorem dX11_way_47 : decode cX11_way 47 = .ok (.iload_n 2, 1) := od_28  (by decide +kernel)
theorem dX11_way_48 : decode cX11_way 48 = .ok (.if_icmp .ne 10, 3) := od_160 (a := 0) (b := 10) (by decide +kernel) (by decide +kernel)
theorem dX11_way_51 : decode cX11_way 51 = .ok (.aload_n 0, 1) := od_42  (by decide +kernel)
theorem dX11_way_52 : decode cX11_way 52 = .ok (.bipush (-3), 2) := od_16 (a := 253) (by decide +kernel) (by decide +kernel)
theorem dX11_way_54 : decode cX11_way 54 = .ok (.invokevirtual 55, 3) := od_182 (a := 0) (b := 55) (by decide +kernel) (by decide)
theorem dX11_way_57 : decode cX11_way 57 = .ok (.ireturn, 1) := od_172  (by decide +kernel)
theorem dX11_way_58 : decode cX11_way 58 = .ok (.aload_n 0, 1) := od_42  (by decide +kernel)
theorem dX11_way_59 : decode cX11_way 59 = .ok (.getfield 10, 3) := od_180 (a := 0) (b := 10) (by decide +kernel) (by decide)
theorem dX11_way_62 : decode cX11_way 62 = .ok (.getfield 63, 3) := od_180 (a := 0) (b := 63) (by decide +kernel) (by decide)
theorem dX11_way_65 : decode cX11_way 65 = .ok (.iload_n 1, 1) := od_27  (by decide +kernel)
theorem dX11_way_66 : decode cX11_way 66 = .ok (.aaload, 1) := od_50  (by decide +kernel)
theorem dX11_way_67 : decode cX11_way 67 = .ok (.iload_n 2, 1) := od_28  (by decide +kernel)
theorem dX11_way_68 : decode cX11_way 68 = .ok (.iload_n 3, 1) := od_29  (by decide +kernel)
theorem dX11_way_69 : decode cX11_way 69 = .ok (.iload 4, 2) := od_21 (n := 4) (by decide +kernel)
theorem dX11_way_71 : decode cX11_way 71 = .ok (.invokevirtual 93, 3) := od_182 (a := 0) (b := 93) (by decide +kernel) (by decide)
theorem dX11_way_74 : decode cX11_way 74 = .ok (.aload_n 0, 1) := od_42  (by decide +kernel)
theorem dX11_way_75 : decode cX11_way 75 = .ok (.getfield 10, 3) := od_180 (a := 0) (b := 10) (by decide +kernel) (by decide)
theorem dX11_way_78 : decode cX11_way 78 = .ok (.getfield 63, 3) := od_180 (a := 0) (b := 63) (by decide +kernel) (by decide)
theorem dX11_way_81 : decode cX11_way 81 = .ok (.iload_n 2, 1) := od_28  (by decide +kernel)
theorem dX11_way_82 : decode cX11_way 82 = .ok (.aaload, 1) := od_50  (by decide +kernel)
theorem dX11_way_83 : decode cX11_way 83 = .ok (.iload_n 1, 1) := od_27  (by decide +kernel)
theorem dX11_way_84 : decode cX11_way 84 = .ok (.iload_n 3, 1) := od_29  (by decide +kernel)
theorem dX11_way_85 : decode cX11_way 85 = .ok (.iload 4, 2) := od_21 (n := 4) (by decide +kernel)
theorem dX11_way_87 : decode cX11_way 87 = .ok (.invokevirtual 93, 3) := od_182 (a := 0) (b := 93) (by decide +kernel) (by decide)
theorem dX11_way_90 : decode cX11_way 90 = .ok (.aload_n 0, 1) := od_42  (by decide +kernel)
theorem dX11_way_91 : decode cX11_way 91 = .ok (.iconst 0, 1) := od_3  (by decide +kernel)
theorem dX11_way_92 : decode cX11_way 92 = .ok (.invokevirtual 73, 3) := od_182 (a := 0) (b := 73) (by decide +kernel) (by decide)
theorem dX11_way_95 : decode cX11_way 95 = .ok (.ireturn, 1) := od_172  (by decide +kernel)
theorem gX11_tide_X11_within : GoodIn WALL (va_wsS RX11 51 yX11_within wqX11_within) := wg_S wa_180 wa_181 wa_2 wa_182
theorem gX11_tide_X11_refuse : GoodIn WALL (wsV RX11 55 RX11 yX11_refuse wqX11_refuse) := wg_V wa_183 wa_184 wa_185 wa_2 wa_186
theorem gX11_tide_X11_accept : GoodIn WALL (wsV RX11 73 RX11 yX11_accept wqX11_accept) := wg_V wa_201 wa_202 wa_203 wa_2 wa_204
theorem dX11_tide_0 : decode cX11_tide 0 = .ok (.iload_n 1, 1) := od_27  (by decide +kernel)
theorem dX11_tide_1 : decode cX11_tide 1 = .ok (.iconst 0, 1) := od_3  (by decide +kernel)
theorem dX11_tide_2 : decode cX11_tide 2 = .ok (.bipush 24, 2) := od_16 (a := 24) (by decide +kernel) (by decide +kernel)
theorem dX11_tide_4 : decode cX11_tide 4 = .ok (.invokestatic 51, 3) := od_184 (a := 0) (b := 51) (by decide +kernel) (by decide)
theorem dX11_tide_7 : decode cX11_tide 7 = .ok (.ifCond .eq 13, 3) := od_153 (a := 0) (b := 13) (by decide +kernel) (by decide +kernel)
theorem dX11_tide_10 : decode cX11_tide 10 = .ok (.iload_n 2, 1) := od_28  (by decide +kernel)
theorem dX11_tide_11 : decode cX11_tide 11 = .ok (.iconst 0, 1) := od_3  (by decide +kernel)
theorem dX11_tide_12 : decode cX11_tide 12 = .ok (.bipush 9, 2) := od_16 (a := 9) (by decide +kernel) (by decide +kernel)
theorem dX11_tide_14 : decode cX11_tide 14 = .ok (.invokestatic 51, 3) := od_184 (a := 0) (b := 51) (by decide +kernel) (by decide)
theorem dX11_tide_17 : decode cX11_tide 17 = .ok (.ifCond .ne 9, 3) := od_154 (a := 0) (b := 9) (by decide +kernel) (by decide +kernel)
theorem dX11_tide_20 : decode cX11_tide 20 = .ok (.aload_n 0, 1) := od_42  (by decide +kernel)
theorem dX11_tide_21 : decode cX11_tide 21 = .ok (.iconst (-1), 1) := od_2  (by decide +kernel)
theorem dX11_tide_22 : decode cX11_tide 22 = .ok (.invokevirtual 55, 3) := od_182 (a := 0) (b := 55) (by decide +kernel) (by decide)
theorem dX11_tide_25 : decode cX11_tide 25 = .ok (.ireturn, 1) := od_172  (by decide +kernel)
theorem dX11_tide_26 : decode cX11_tide 26 = .ok (.aload_n 0, 1) := od_42  (by decide +kernel)
theorem dX11_tide_27 : decode cX11_tide 27 = .ok (.getfield 10, 3) := od_180 (a := 0) (b := 10) (by decide +kernel) (by decide)
theorem dX11_tide_30 : decode cX11_tide 30 = .ok (.getfield 97, 3) := od_180 (a := 0) (b := 97) (by decide +kernel) (by decide)
theorem dX11_tide_33 : decode cX11_tide 33 = .ok (.iload_n 1, 1) := od_27  (by decide +kernel)
theorem dX11_tide_34 : decode cX11_tide 34 = .ok (.iload_n 2, 1) := od_28  (by decide +kernel)
theorem dX11_tide_35 : decode cX11_tide 35 = .ok (.iastore, 1) := od_79  (by decide +kernel)
theorem dX11_tide_36 : decode cX11_tide 36 = .ok (.aload_n 0, 1) := od_42  (by decide +kernel)
theorem dX11_tide_37 : decode cX11_tide 37 = .ok (.iconst 0, 1) := od_3  (by decide +kernel)
theorem dX11_tide_38 : decode cX11_tide 38 = .ok (.invokevirtual 73, 3) := od_182 (a := 0) (b := 73) (by decide +kernel) (by decide)
theorem dX11_tide_41 : decode cX11_tide 41 = .ok (.ireturn, 1) := od_172  (by decide +kernel)
theorem gX11_sea_X11_within : GoodIn WALL (va_wsS RX11 51 yX11_within wqX11_within) := wg_S wa_180 wa_181 wa_2 wa_182
theorem gX11_sea_X11_refuse : GoodIn WALL (wsV RX11 55 RX11 yX11_refuse wqX11_refuse) := wg_V wa_183 wa_184 wa_185 wa_2 wa_186
theorem gX11_sea_X11_accept : GoodIn WALL (wsV RX11 73 RX11 yX11_accept wqX11_accept) := wg_V wa_201 wa_202 wa_203 wa_2 wa_204
theorem dX11_sea_0 : decode cX11_sea 0 = .ok (.iload_n 1, 1) := od_27  (by decide +kernel)
theorem dX11_sea_1 : decode cX11_sea 1 = .ok (.iconst 0, 1) := od_3  (by decide +kernel)
theorem dX11_sea_2 : decode cX11_sea 2 = .ok (.bipush 99, 2) := od_16 (a := 99) (by decide +kernel) (by decide +kernel)
theorem dX11_sea_4 : decode cX11_sea 4 = .ok (.invokestatic 51, 3) := od_184 (a := 0) (b := 51) (by decide +kernel) (by decide)
theorem dX11_sea_7 : decode cX11_sea 7 = .ok (.ifCond .eq 13, 3) := od_153 (a := 0) (b := 13) (by decide +kernel) (by decide +kernel)
theorem dX11_sea_10 : decode cX11_sea 10 = .ok (.iload_n 2, 1) := od_28  (by decide +kernel)
theorem dX11_sea_11 : decode cX11_sea 11 = .ok (.iconst 0, 1) := od_3  (by decide +kernel)
theorem dX11_sea_12 : decode cX11_sea 12 = .ok (.bipush 9, 2) := od_16 (a := 9) (by decide +kernel) (by decide +kernel)
theorem dX11_sea_14 : decode cX11_sea 14 = .ok (.invokestatic 51, 3) := od_184 (a := 0) (b := 51) (by decide +kernel) (by decide)
theorem dX11_sea_17 : decode cX11_sea 17 = .ok (.ifCond .ne 9, 3) := od_154 (a := 0) (b := 9) (by decide +kernel) (by decide +kernel)
theorem dX11_sea_20 : decode cX11_sea 20 = .ok (.aload_n 0, 1) := od_42  (by decide +kernel)
theorem dX11_sea_21 : decode cX11_sea 21 = .ok (.iconst (-1), 1) := od_2  (by decide +kernel)
theorem dX11_sea_22 : decode cX11_sea 22 = .ok (.invokevirtual 55, 3) := od_182 (a := 0) (b := 55) (by decide +kernel) (by decide)
theorem dX11_sea_25 : decode cX11_sea 25 = .ok (.ireturn, 1) := od_172  (by decide +kernel)
theorem dX11_sea_26 : decode cX11_sea 26 = .ok (.aload_n 0, 1) := od_42  (by decide +kernel)
theorem dX11_sea_27 : decode cX11_sea 27 = .ok (.getfield 10, 3) := od_180 (a := 0) (b := 10) (by decide +kernel) (by decide)
theorem dX11_sea_30 : decode cX11_sea 30 = .ok (.getfield 101, 3) := od_180 (a := 0) (b := 101) (by decide +kernel) (by decide)
theorem dX11_sea_33 : decode cX11_sea 33 = .ok (.iload_n 1, 1) := od_27  (by decide +kernel)
theorem dX11_sea_34 : decode cX11_sea 34 = .ok (.iload_n 2, 1) := od_28  (by decide +kernel)
theorem dX11_sea_35 : decode cX11_sea 35 = .ok (.iastore, 1) := od_79  (by decide +kernel)
theorem dX11_sea_36 : decode cX11_sea 36 = .ok (.aload_n 0, 1) := od_42  (by decide +kernel)
theorem dX11_sea_37 : decode cX11_sea 37 = .ok (.iconst 0, 1) := od_3  (by decide +kernel)
theorem dX11_sea_38 : decode cX11_sea 38 = .ok (.invokevirtual 73, 3) := od_182 (a := 0) (b := 73) (by decide +kernel) (by decide)
theorem dX11_sea_41 : decode cX11_sea 41 = .ok (.ireturn, 1) := od_172  (by decide +kernel)
theorem gX11_slot_X11_isSpan : GoodIn WALL (va_wsS RX11 104 yX11_isSpan wqX11_isSpan) := wg_S wa_320 wa_321 wa_2 wa_322
theorem gX11_slot_X11_refuse : GoodIn WALL (wsV RX11 55 RX11 yX11_refuse wqX11_refuse) := wg_V wa_183 wa_184 wa_185 wa_2 wa_186
theorem gX11_slot_X10_hasTerminal : GoodIn WALL (wsV RX11 77 RX10 yX10_hasTerminal wqX10_hasTerminal) := wg_V wa_233 wa_234 wa_235 wa_14 wa_236
theorem gX11_slot_X10_hasShip : GoodIn WALL (wsV RX11 108 RX10 yX10_hasShip wqX10_hasShip) := wg_V wa_326 wa_327 wa_328 wa_14 wa_329
theorem gX11_slot_X11_slotOwner : GoodIn WALL (va_wsS RX11 115 yX11_slotOwner wqX11_slotOwner) := wg_S wa_331 wa_332 wa_2 wa_333
theorem gX11_slot_X6_meets : GoodIn WALL (wsV RX11 119 RX6 yX6_meets wqX6_meets) := wg_V wa_334 wa_335 wa_336 wa_50 wa_337
theorem gX11_slot_X6_add : GoodIn WALL (wsV RX11 125 RX6 yX6_add wqX6_add) := wg_V wa_339 wa_340 wa_341 wa_50 wa_342
theorem gX11_slot_X11_acceptOrFull : GoodIn WALL (wsV RX11 129 RX11 yX11_acceptOrFull wqX11_acceptOrFull) := wg_V wa_343 wa_344 wa_345 wa_2 wa_346
theorem dX11_slot_0 : decode cX11_slot 0 = .ok (.iload_n 3, 1) := od_29  (by decide +kernel)
theorem dX11_slot_1 : decode cX11_slot 1 = .ok (.iload 4, 2) := od_21 (n := 4) (by decide +kernel)
theorem dX11_slot_3 : decode cX11_slot 3 = .ok (.invokestatic 104, 3) := od_184 (a := 0) (b := 104) (by decide +kernel) (by decide)
theorem dX11_slot_6 : decode cX11_slot 6 = .ok (.ifCond .ne 9, 3) := od_154 (a := 0) (b := 9) (by decide +kernel) (by decide +kernel)
theorem dX11_slot_9 : decode cX11_slot 9 = .ok (.aload_n 0, 1) := od_42  (by decide +kernel)
theorem dX11_slot_10 : decode cX11_slot 10 = .ok (.iconst (-1), 1) := od_2  (by decide +kernel)
theorem dX11_slot_11 : decode cX11_slot 11 = .ok (.invokevirtual 55, 3) := od_182 (a := 0) (b := 55) (by decide +kernel) (by decide)
theorem dX11_slot_14 : decode cX11_slot 14 = .ok (.ireturn, 1) := od_172  (by decide +kernel)
theorem dX11_slot_15 : decode cX11_slot 15 = .ok (.aload_n 0, 1) := od_42  (by decide +kernel)
theorem dX11_slot_16 : decode cX11_slot 16 = .ok (.getfield 10, 3) := od_180 (a := 0) (b := 10) (by decide +kernel) (by decide)
theorem dX11_slot_19 : decode cX11_slot 19 = .ok (.iload_n 1, 1) := od_27  (by decide +kernel)
theorem dX11_slot_20 : decode cX11_slot 20 = .ok (.invokevirtual 77, 3) := od_182 (a := 0) (b := 77) (by decide +kernel) (by decide)
theorem dX11_slot_23 : decode cX11_slot 23 = .ok (.ifCond .eq 14, 3) := od_153 (a := 0) (b := 14) (by decide +kernel) (by decide +kernel)
theorem dX11_slot_26 : decode cX11_slot 26 = .ok (.aload_n 0, 1) := od_42  (by decide +kernel)
theorem dX11_slot_27 : decode cX11_slot 27 = .ok (.getfield 10, 3) := od_180 (a := 0) (b := 10) (by decide +kernel) (by decide)
theorem dX11_slot_30 : decode cX11_slot 30 = .ok (.iload_n 2, 1) := od_28  (by decide +kernel)
theorem dX11_slot_31 : decode cX11_slot 31 = .ok (.invokevirtual 108, 3) := od_182 (a := 0) (b := 108) (by decide +kernel) (by decide)
theorem dX11_slot_34 : decode cX11_slot 34 = .ok (.ifCond .ne 10, 3) := od_154 (a := 0) (b := 10) (by decide +kernel) (by decide +kernel)
theorem dX11_slot_37 : decode cX11_slot 37 = .ok (.aload_n 0, 1) := od_42  (by decide +kernel)
theorem dX11_slot_38 : decode cX11_slot 38 = .ok (.bipush (-2), 2) := od_16 (a := 254) (by decide +kernel) (by decide +kernel)
theorem dX11_slot_40 : decode cX11_slot 40 = .ok (.invokevirtual 55, 3) := od_182 (a := 0) (b := 55) (by decide +kernel) (by decide)
theorem dX11_slot_43 : decode cX11_slot 43 = .ok (.ireturn, 1) := od_172  (by decide +kernel)
theorem dX11_slot_44 : decode cX11_slot 44 = .ok (.aload_n 0, 1) := od_42  (by decide +kernel)
theorem dX11_slot_45 : decode cX11_slot 45 = .ok (.getfield 10, 3) := od_180 (a := 0) (b := 10) (by decide +kernel) (by decide)
theorem dX11_slot_48 : decode cX11_slot 48 = .ok (.getfield 111, 3) := od_180 (a := 0) (b := 111) (by decide +kernel) (by decide)
theorem dX11_slot_51 : decode cX11_slot 51 = .ok (.iload_n 1, 1) := od_27  (by decide +kernel)
theorem dX11_slot_52 : decode cX11_slot 52 = .ok (.iconst 0, 1) := od_3  (by decide +kernel)
theorem dX11_slot_53 : decode cX11_slot 53 = .ok (.invokestatic 115, 3) := od_184 (a := 0) (b := 115) (by decide +kernel) (by decide)
theorem dX11_slot_56 : decode cX11_slot 56 = .ok (.iload_n 1, 1) := od_27  (by decide +kernel)
theorem dX11_slot_57 : decode cX11_slot 57 = .ok (.iconst 5, 1) := od_8  (by decide +kernel)
theorem dX11_slot_58 : decode cX11_slot 58 = .ok (.invokestatic 115, 3) := od_184 (a := 0) (b := 115) (by decide +kernel) (by decide)
theorem dX11_slot_61 : decode cX11_slot 61 = .ok (.iload_n 3, 1) := od_29  (by decide +kernel)
theorem dX11_slot_62 : decode cX11_slot 62 = .ok (.iload 4, 2) := od_21 (n := 4) (by decide +kernel)
theorem dX11_slot_64 : decode cX11_slot 64 = .ok (.invokevirtual 119, 3) := od_182 (a := 0) (b := 119) (by decide +kernel) (by decide)
theorem dX11_slot_67 : decode cX11_slot 67 = .ok (.ifCond .eq 10, 3) := od_153 (a := 0) (b := 10) (by decide +kernel) (by decide +kernel)
theorem dX11_slot_70 : decode cX11_slot 70 = .ok (.aload_n 0, 1) := od_42  (by decide +kernel)
theorem dX11_slot_71 : decode cX11_slot 71 = .ok (.bipush (-3), 2) := od_16 (a := 253) (by decide +kernel) (by decide +kernel)
theorem dX11_slot_73 : decode cX11_slot 73 = .ok (.invokevirtual 55, 3) := od_182 (a := 0) (b := 55) (by decide +kernel) (by decide)
theorem dX11_slot_76 : decode cX11_slot 76 = .ok (.ireturn, 1) := od_172  (by decide +kernel)
theorem dX11_slot_77 : decode cX11_slot 77 = .ok (.aload_n 0, 1) := od_42  (by decide +kernel)
theorem dX11_slot_78 : decode cX11_slot 78 = .ok (.aload_n 0, 1) := od_42  (by decide +kernel)
theorem dX11_slot_79 : decode cX11_slot 79 = .ok (.getfield 10, 3) := od_180 (a := 0) (b := 10) (by decide +kernel) (by decide)
theorem dX11_slot_82 : decode cX11_slot 82 = .ok (.getfield 111, 3) := od_180 (a := 0) (b := 111) (by decide +kernel) (by decide)
theorem dX11_slot_85 : decode cX11_slot 85 = .ok (.iload_n 1, 1) := od_27  (by decide +kernel)
theorem dX11_slot_86 : decode cX11_slot 86 = .ok (.iload_n 2, 1) := od_28  (by decide +kernel)
theorem dX11_slot_87 : decode cX11_slot 87 = .ok (.invokestatic 115, 3) := od_184 (a := 0) (b := 115) (by decide +kernel) (by decide)
theorem dX11_slot_90 : decode cX11_slot 90 = .ok (.iload_n 3, 1) := od_29  (by decide +kernel)
theorem dX11_slot_91 : decode cX11_slot 91 = .ok (.iload 4, 2) := od_21 (n := 4) (by decide +kernel)
theorem dX11_slot_93 : decode cX11_slot 93 = .ok (.invokevirtual 125, 3) := od_182 (a := 0) (b := 125) (by decide +kernel) (by decide)
theorem dX11_slot_96 : decode cX11_slot 96 = .ok (.invokevirtual 129, 3) := od_182 (a := 0) (b := 129) (by decide +kernel) (by decide)
theorem dX11_slot_99 : decode cX11_slot 99 = .ok (.ireturn, 1) := od_172  (by decide +kernel)
theorem gX11_broken_X11_isSpan : GoodIn WALL (va_wsS RX11 104 yX11_isSpan wqX11_isSpan) := wg_S wa_320 wa_321 wa_2 wa_322
theorem gX11_broken_X11_refuse : GoodIn WALL (wsV RX11 55 RX11 yX11_refuse wqX11_refuse) := wg_V wa_183 wa_184 wa_185 wa_2 wa_186
theorem gX11_broken_X10_hasTerminal : GoodIn WALL (wsV RX11 77 RX10 yX10_hasTerminal wqX10_hasTerminal) := wg_V wa_233 wa_234 wa_235 wa_14 wa_236
theorem gX11_broken_X6_add : GoodIn WALL (wsV RX11 125 RX6 yX6_add wqX6_add) := wg_V wa_339 wa_340 wa_341 wa_50 wa_342
theorem gX11_broken_X11_acceptOrFull : GoodIn WALL (wsV RX11 129 RX11 yX11_acceptOrFull wqX11_acceptOrFull) := wg_V wa_343 wa_344 wa_345 wa_2 wa_346
theorem dX11_broken_0 : decode cX11_broken 0 = .ok (.iload_n 2, 1) := od_28  (by decide +kernel)
theorem dX11_broken_1 : decode cX11_broken 1 = .ok (.iload_n 3, 1) := od_29  (by decide +kernel)
theorem dX11_broken_2 : decode cX11_broken 2 = .ok (.invokestatic 104, 3) := od_184 (a := 0) (b := 104) (by decide +kernel) (by decide)
theorem dX11_broken_5 : decode cX11_broken 5 = .ok (.ifCond .ne 9, 3) := od_154 (a := 0) (b := 9) (by decide +kernel) (by decide +kernel)
theorem dX11_broken_8 : decode cX11_broken 8 = .ok (.aload_n 0, 1) := od_42  (by decide +kernel)
theorem dX11_broken_9 : decode cX11_broken 9 = .ok (.iconst (-1), 1) := od_2  (by decide +kernel)
theorem dX11_broken_10 : decode cX11_broken 10 = .ok (.invokevirtual 55, 3) := od_182 (a := 0) (b := 55) (by decide +kernel) (by decide)
theorem dX11_broken_13 : decode cX11_broken 13 = .ok (.ireturn, 1) := od_172  (by decide +kernel)
theorem dX11_broken_14 : decode cX11_broken 14 = .ok (.aload_n 0, 1) := od_42  (by decide +kernel)
theorem dX11_broken_15 : decode cX11_broken 15 = .ok (.getfield 10, 3) := od_180 (a := 0) (b := 10) (by decide +kernel) (by decide)
theorem dX11_broken_18 : decode cX11_broken 18 = .ok (.iload_n 1, 1) := od_27  (by decide +kernel)
theorem dX11_broken_19 : decode cX11_broken 19 = .ok (.invokevirtual 77, 3) := od_182 (a := 0) (b := 77) (by decide +kernel) (by decide)
theorem dX11_broken_22 : decode cX11_broken 22 = .ok (.ifCond .ne 10, 3) := od_154 (a := 0) (b := 10) (by decide +kernel) (by decide +kernel)
theorem dX11_broken_25 : decode cX11_broken 25 = .ok (.aload_n 0, 1) := od_42  (by decide +kernel)
theorem dX11_broken_26 : decode cX11_broken 26 = .ok (.bipush (-2), 2) := od_16 (a := 254) (by decide +kernel) (by decide +kernel)
theorem dX11_broken_28 : decode cX11_broken 28 = .ok (.invokevirtual 55, 3) := od_182 (a := 0) (b := 55) (by decide +kernel) (by decide)
theorem dX11_broken_31 : decode cX11_broken 31 = .ok (.ireturn, 1) := od_172  (by decide +kernel)
theorem dX11_broken_32 : decode cX11_broken 32 = .ok (.aload_n 0, 1) := od_42  (by decide +kernel)
theorem dX11_broken_33 : decode cX11_broken 33 = .ok (.aload_n 0, 1) := od_42  (by decide +kernel)
theorem dX11_broken_34 : decode cX11_broken 34 = .ok (.getfield 10, 3) := od_180 (a := 0) (b := 10) (by decide +kernel) (by decide)
theorem dX11_broken_37 : decode cX11_broken 37 = .ok (.getfield 132, 3) := od_180 (a := 0) (b := 132) (by decide +kernel) (by decide)
theorem dX11_broken_40 : decode cX11_broken 40 = .ok (.iload_n 1, 1) := od_27  (by decide +kernel)
theorem dX11_broken_41 : decode cX11_broken 41 = .ok (.iload_n 2, 1) := od_28  (by decide +kernel)
theorem dX11_broken_42 : decode cX11_broken 42 = .ok (.iload_n 3, 1) := od_29  (by decide +kernel)
theorem dX11_broken_43 : decode cX11_broken 43 = .ok (.invokevirtual 125, 3) := od_182 (a := 0) (b := 125) (by decide +kernel) (by decide)
theorem dX11_broken_46 : decode cX11_broken 46 = .ok (.invokevirtual 129, 3) := od_182 (a := 0) (b := 129) (by decide +kernel) (by decide)
theorem dX11_broken_49 : decode cX11_broken 49 = .ok (.ireturn, 1) := od_172  (by decide +kernel)
theorem gX11_terms_X11_within : GoodIn WALL (va_wsS RX11 51 yX11_within wqX11_within) := wg_S wa_180 wa_181 wa_2 wa_182
theorem gX11_terms_X11_refuse : GoodIn WALL (wsV RX11 55 RX11 yX11_refuse wqX11_refuse) := wg_V wa_183 wa_184 wa_185 wa_2 wa_186
theorem gX11_terms_X11_accept : GoodIn WALL (wsV RX11 73 RX11 yX11_accept wqX11_accept) := wg_V wa_201 wa_202 wa_203 wa_2 wa_204
theorem dX11_terms_0 : decode cX11_terms 0 = .ok (.iload_n 1, 1) := od_27  (by decide +kernel)
theorem dX11_terms_1 : decode cX11_terms 1 = .ok (.iconst 0, 1) := od_3  (by decide +kernel)
theorem dX11_terms_2 : decode cX11_terms 2 = .ok (.bipush 100, 2) := od_16 (a := 100) (by decide +kernel) (by decide +kernel)
theorem dX11_terms_4 : decode cX11_terms 4 = .ok (.invokestatic 51, 3) := od_184 (a := 0) (b := 51) (by decide +kernel) (by decide)
theorem dX11_terms_7 : decode cX11_terms 7 = .ok (.ifCond .eq 14, 3) := od_153 (a := 0) (b := 14) (by decide +kernel) (by decide +kernel)
theorem dX11_terms_10 : decode cX11_terms 10 = .ok (.iload_n 2, 1) := od_28  (by decide +kernel)
theorem dX11_terms_11 : decode cX11_terms 11 = .ok (.iconst 1, 1) := od_4  (by decide +kernel)
theorem dX11_terms_12 : decode cX11_terms 12 = .ok (.sipush 1000, 3) := od_17 (a := 3) (b := 232) (by decide +kernel) (by decide +kernel)
theorem dX11_terms_15 : decode cX11_terms 15 = .ok (.invokestatic 51, 3) := od_184 (a := 0) (b := 51) (by decide +kernel) (by decide)
theorem dX11_terms_18 : decode cX11_terms 18 = .ok (.ifCond .ne 9, 3) := od_154 (a := 0) (b := 9) (by decide +kernel) (by decide +kernel)
theorem dX11_terms_21 : decode cX11_terms 21 = .ok (.aload_n 0, 1) := od_42  (by decide +kernel)
theorem dX11_terms_22 : decode cX11_terms 22 = .ok (.iconst (-1), 1) := od_2  (by decide +kernel)
theorem dX11_terms_23 : decode cX11_terms 23 = .ok (.invokevirtual 55, 3) := od_182 (a := 0) (b := 55) (by decide +kernel) (by decide)
theorem dX11_terms_26 : decode cX11_terms 26 = .ok (.ireturn, 1) := od_172  (by decide +kernel)
theorem dX11_terms_27 : decode cX11_terms 27 = .ok (.aload_n 0, 1) := od_42  (by decide +kernel)
theorem dX11_terms_28 : decode cX11_terms 28 = .ok (.getfield 10, 3) := od_180 (a := 0) (b := 10) (by decide +kernel) (by decide)
theorem dX11_terms_31 : decode cX11_terms 31 = .ok (.iload_n 1, 1) := od_27  (by decide +kernel)
theorem dX11_terms_32 : decode cX11_terms 32 = .ok (.putfield 135, 3) := od_181 (a := 0) (b := 135) (by decide +kernel) (by decide)
theorem dX11_terms_35 : decode cX11_terms 35 = .ok (.aload_n 0, 1) := od_42  (by decide +kernel)
theorem dX11_terms_36 : decode cX11_terms 36 = .ok (.getfield 10, 3) := od_180 (a := 0) (b := 10) (by decide +kernel) (by decide)
theorem dX11_terms_39 : decode cX11_terms 39 = .ok (.iload_n 2, 1) := od_28  (by decide +kernel)
theorem dX11_terms_40 : decode cX11_terms 40 = .ok (.putfield 138, 3) := od_181 (a := 0) (b := 138) (by decide +kernel) (by decide)
theorem dX11_terms_43 : decode cX11_terms 43 = .ok (.aload_n 0, 1) := od_42  (by decide +kernel)
theorem dX11_terms_44 : decode cX11_terms 44 = .ok (.iconst 0, 1) := od_3  (by decide +kernel)
theorem dX11_terms_45 : decode cX11_terms 45 = .ok (.invokevirtual 73, 3) := od_182 (a := 0) (b := 73) (by decide +kernel) (by decide)
theorem dX11_terms_48 : decode cX11_terms 48 = .ok (.ireturn, 1) := od_172  (by decide +kernel)
theorem gX11_order_X11_isOrder : GoodIn WALL (va_wsS RX11 141 yX11_isOrder wqX11_isOrder) := wg_S wa_380 wa_381 wa_2 wa_382
theorem gX11_order_X11_refuse : GoodIn WALL (wsV RX11 55 RX11 yX11_refuse wqX11_refuse) := wg_V wa_183 wa_184 wa_185 wa_2 wa_186
theorem gX11_order_X10_hasShip : GoodIn WALL (wsV RX11 108 RX10 yX10_hasShip wqX10_hasShip) := wg_V wa_326 wa_327 wa_328 wa_14 wa_329
theorem gX11_order_X10_hasTerminal : GoodIn WALL (wsV RX11 77 RX10 yX10_hasTerminal wqX10_hasTerminal) := wg_V wa_233 wa_234 wa_235 wa_14 wa_236
theorem gX11_order_X5_addOrder : GoodIn WALL (wsV RX11 150 RX5 yX5_addOrder wqX5_addOrder) := wg_V wa_383 wa_384 wa_385 wa_64 wa_386
theorem gX11_order_X11_accept : GoodIn WALL (wsV RX11 73 RX11 yX11_accept wqX11_accept) := wg_V wa_201 wa_202 wa_203 wa_2 wa_204
theorem dX11_order_0 : decode cX11_order 0 = .ok (.iload_n 2, 1) := od_28  (by decide +kernel)
theorem dX11_order_1 : decode cX11_order 1 = .ok (.iload_n 3, 1) := od_29  (by decide +kernel)
theorem dX11_order_2 : decode cX11_order 2 = .ok (.invokestatic 141, 3) := od_184 (a := 0) (b := 141) (by decide +kernel) (by decide)
theorem dX11_order_5 : decode cX11_order 5 = .ok (.ifCond .ne 9, 3) := od_154 (a := 0) (b := 9) (by decide +kernel) (by decide +kernel)
theorem dX11_order_8 : decode cX11_order 8 = .ok (.aload_n 0, 1) := od_42  (by decide +kernel)
theorem dX11_order_9 : decode cX11_order 9 = .ok (.iconst (-1), 1) := od_2  (by decide +kernel)
theorem dX11_order_10 : decode cX11_order 10 = .ok (.invokevirtual 55, 3) := od_182 (a := 0) (b := 55) (by decide +kernel) (by decide)
theorem dX11_order_13 : decode cX11_order 13 = .ok (.ireturn, 1) := od_172  (by decide +kernel)
theorem dX11_order_14 : decode cX11_order 14 = .ok (.aload_n 0, 1) := od_42  (by decide +kernel)
theorem dX11_order_15 : decode cX11_order 15 = .ok (.getfield 10, 3) := od_180 (a := 0) (b := 10) (by decide +kernel) (by decide)
theorem dX11_order_18 : decode cX11_order 18 = .ok (.iload_n 1, 1) := od_27  (by decide +kernel)
theorem dX11_order_19 : decode cX11_order 19 = .ok (.invokevirtual 108, 3) := od_182 (a := 0) (b := 108) (by decide +kernel) (by decide)
theorem dX11_order_22 : decode cX11_order 22 = .ok (.ifCond .eq 18, 3) := od_153 (a := 0) (b := 18) (by decide +kernel) (by decide +kernel)
theorem dX11_order_25 : decode cX11_order 25 = .ok (.iload_n 2, 1) := od_28  (by decide +kernel)
theorem dX11_order_26 : decode cX11_order 26 = .ok (.ifCond .ne 21, 3) := od_154 (a := 0) (b := 21) (by decide +kernel) (by decide +kernel)
theorem dX11_order_29 : decode cX11_order 29 = .ok (.aload_n 0, 1) := od_42  (by decide +kernel)
theorem dX11_order_30 : decode cX11_order 30 = .ok (.getfield 10, 3) := od_180 (a := 0) (b := 10) (by decide +kernel) (by decide)
theorem dX11_order_33 : decode cX11_order 33 = .ok (.iload_n 3, 1) := od_29  (by decide +kernel)
theorem dX11_order_34 : decode cX11_order 34 = .ok (.invokevirtual 77, 3) := od_182 (a := 0) (b := 77) (by decide +kernel) (by decide)
theorem dX11_order_37 : decode cX11_order 37 = .ok (.ifCond .ne 10, 3) := od_154 (a := 0) (b := 10) (by decide +kernel) (by decide +kernel)
theorem dX11_order_40 : decode cX11_order 40 = .ok (.aload_n 0, 1) := od_42  (by decide +kernel)
theorem dX11_order_41 : decode cX11_order 41 = .ok (.bipush (-2), 2) := od_16 (a := 254) (by decide +kernel) (by decide +kernel)
theorem dX11_order_43 : decode cX11_order 43 = .ok (.invokevirtual 55, 3) := od_182 (a := 0) (b := 55) (by decide +kernel) (by decide)
theorem dX11_order_46 : decode cX11_order 46 = .ok (.ireturn, 1) := od_172  (by decide +kernel)
theorem dX11_order_47 : decode cX11_order 47 = .ok (.aload_n 0, 1) := od_42  (by decide +kernel)
theorem dX11_order_48 : decode cX11_order 48 = .ok (.getfield 10, 3) := od_180 (a := 0) (b := 10) (by decide +kernel) (by decide)
theorem dX11_order_51 : decode cX11_order 51 = .ok (.getfield 84, 3) := od_180 (a := 0) (b := 84) (by decide +kernel) (by decide)
theorem dX11_order_54 : decode cX11_order 54 = .ok (.iload_n 1, 1) := od_27  (by decide +kernel)
theorem dX11_order_55 : decode cX11_order 55 = .ok (.aaload, 1) := od_50  (by decide +kernel)
theorem dX11_order_56 : decode cX11_order 56 = .ok (.astore 4, 2) := od_58 (n := 4) (by decide +kernel)
theorem dX11_order_58 : decode cX11_order 58 = .ok (.aload 4, 2) := od_25 (n := 4) (by decide +kernel)
theorem dX11_order_60 : decode cX11_order 60 = .ok (.getfield 144, 3) := od_180 (a := 0) (b := 144) (by decide +kernel) (by decide)
theorem dX11_order_63 : decode cX11_order 63 = .ok (.bipush 20, 2) := od_16 (a := 20) (by decide +kernel) (by decide +kernel)
theorem dX11_order_65 : decode cX11_order 65 = .ok (.if_icmp .ge 16, 3) := od_162 (a := 0) (b := 16) (by decide +kernel) (by decide +kernel)
theorem dX11_order_68 : decode cX11_order 68 = .ok (.aload_n 0, 1) := od_42  (by decide +kernel)
theorem dX11_order_69 : decode cX11_order 69 = .ok (.getfield 10, 3) := od_180 (a := 0) (b := 10) (by decide +kernel) (by decide)
theorem dX11_order_72 : decode cX11_order 72 = .ok (.getfield 147, 3) := od_180 (a := 0) (b := 147) (by decide +kernel) (by decide)
theorem dX11_order_75 : decode cX11_order 75 = .ok (.sipush 400, 3) := od_17 (a := 1) (b := 144) (by decide +kernel) (by decide +kernel)
theorem dX11_order_78 : decode cX11_order 78 = .ok (.if_icmp .lt 10, 3) := od_161 (a := 0) (b := 10) (by decide +kernel) (by decide +kernel)
theorem dX11_order_81 : decode cX11_order 81 = .ok (.aload_n 0, 1) := od_42  (by decide +kernel)
theorem dX11_order_82 : decode cX11_order 82 = .ok (.bipush (-5), 2) := od_16 (a := 251) (by decide +kernel) (by decide +kernel)
theorem dX11_order_84 : decode cX11_order 84 = .ok (.invokevirtual 55, 3) := od_182 (a := 0) (b := 55) (by decide +kernel) (by decide)
theorem dX11_order_87 : decode cX11_order 87 = .ok (.ireturn, 1) := od_172  (by decide +kernel)
theorem dX11_order_88 : decode cX11_order 88 = .ok (.aload 4, 2) := od_25 (n := 4) (by decide +kernel)
theorem dX11_order_90 : decode cX11_order 90 = .ok (.iload_n 2, 1) := od_28  (by decide +kernel)
theorem dX11_order_91 : decode cX11_order 91 = .ok (.iload_n 3, 1) := od_29  (by decide +kernel)
theorem dX11_order_92 : decode cX11_order 92 = .ok (.invokevirtual 150, 3) := od_182 (a := 0) (b := 150) (by decide +kernel) (by decide)
theorem dX11_order_95 : decode cX11_order 95 = .ok (.aload_n 0, 1) := od_42  (by decide +kernel)
theorem dX11_order_96 : decode cX11_order 96 = .ok (.getfield 10, 3) := od_180 (a := 0) (b := 10) (by decide +kernel) (by decide)
theorem dX11_order_99 : decode cX11_order 99 = .ok (.dup, 1) := od_89  (by decide +kernel)
theorem dX11_order_100 : decode cX11_order 100 = .ok (.getfield 147, 3) := od_180 (a := 0) (b := 147) (by decide +kernel) (by decide)
theorem dX11_order_103 : decode cX11_order 103 = .ok (.iconst 1, 1) := od_4  (by decide +kernel)
theorem dX11_order_104 : decode cX11_order 104 = .ok (.iadd, 1) := od_96  (by decide +kernel)
theorem dX11_order_105 : decode cX11_order 105 = .ok (.putfield 147, 3) := od_181 (a := 0) (b := 147) (by decide +kernel) (by decide)
theorem dX11_order_108 : decode cX11_order 108 = .ok (.aload_n 0, 1) := od_42  (by decide +kernel)
theorem dX11_order_109 : decode cX11_order 109 = .ok (.aload 4, 2) := od_25 (n := 4) (by decide +kernel)
theorem dX11_order_111 : decode cX11_order 111 = .ok (.getfield 144, 3) := od_180 (a := 0) (b := 144) (by decide +kernel) (by decide)
theorem dX11_order_114 : decode cX11_order 114 = .ok (.invokevirtual 73, 3) := od_182 (a := 0) (b := 73) (by decide +kernel) (by decide)
theorem dX11_order_117 : decode cX11_order 117 = .ok (.ireturn, 1) := od_172  (by decide +kernel)
theorem gX11_go_X11_within : GoodIn WALL (va_wsS RX11 51 yX11_within wqX11_within) := wg_S wa_180 wa_181 wa_2 wa_182
theorem gX11_go_X11_refuse : GoodIn WALL (wsV RX11 55 RX11 yX11_refuse wqX11_refuse) := wg_V wa_183 wa_184 wa_185 wa_2 wa_186
theorem gX11_go_X9_passHour : GoodIn WALL (wsV RX11 157 RX9 yX9_passHour wqX9_passHour) := wg_V wa_400 wa_401 wa_402 wa_19 wa_403
theorem gX11_go_X11_accept : GoodIn WALL (wsV RX11 73 RX11 yX11_accept wqX11_accept) := wg_V wa_201 wa_202 wa_203 wa_2 wa_204
theorem dX11_go_0 : decode cX11_go 0 = .ok (.iload_n 1, 1) := od_27  (by decide +kernel)
theorem dX11_go_1 : decode cX11_go 1 = .ok (.iconst 1, 1) := od_4  (by decide +kernel)
theorem dX11_go_2 : decode cX11_go 2 = .ok (.sipush 480, 3) := od_17 (a := 1) (b := 224) (by decide +kernel) (by decide +kernel)
theorem dX11_go_5 : decode cX11_go 5 = .ok (.invokestatic 51, 3) := od_184 (a := 0) (b := 51) (by decide +kernel) (by decide)
theorem dX11_go_8 : decode cX11_go 8 = .ok (.ifCond .eq 18, 3) := od_153 (a := 0) (b := 18) (by decide +kernel) (by decide +kernel)
theorem dX11_go_11 : decode cX11_go 11 = .ok (.aload_n 0, 1) := od_42  (by decide +kernel)
theorem dX11_go_12 : decode cX11_go 12 = .ok (.getfield 10, 3) := od_180 (a := 0) (b := 10) (by decide +kernel) (by decide)
theorem dX11_go_15 : decode cX11_go 15 = .ok (.getfield 154, 3) := od_180 (a := 0) (b := 154) (by decide +kernel) (by decide)
theorem dX11_go_18 : decode cX11_go 18 = .ok (.iload_n 1, 1) := od_27  (by decide +kernel)
theorem dX11_go_19 : decode cX11_go 19 = .ok (.iadd, 1) := od_96  (by decide +kernel)
theorem dX11_go_20 : decode cX11_go 20 = .ok (.sipush 2399, 3) := od_17 (a := 9) (b := 95) (by decide +kernel) (by decide +kernel)
theorem dX11_go_23 : decode cX11_go 23 = .ok (.if_icmp .le 9, 3) := od_164 (a := 0) (b := 9) (by decide +kernel) (by decide +kernel)
theorem dX11_go_26 : decode cX11_go 26 = .ok (.aload_n 0, 1) := od_42  (by decide +kernel)
theorem dX11_go_27 : decode cX11_go 27 = .ok (.iconst (-1), 1) := od_2  (by decide +kernel)
theorem dX11_go_28 : decode cX11_go 28 = .ok (.invokevirtual 55, 3) := od_182 (a := 0) (b := 55) (by decide +kernel) (by decide)
theorem dX11_go_31 : decode cX11_go 31 = .ok (.ireturn, 1) := od_172  (by decide +kernel)
theorem dX11_go_32 : decode cX11_go 32 = .ok (.iconst 0, 1) := od_3  (by decide +kernel)
theorem dX11_go_33 : decode cX11_go 33 = .ok (.istore_n 2, 1) := od_61  (by decide +kernel)
theorem dX11_go_34 : decode cX11_go 34 = .ok (.iload_n 2, 1) := od_28  (by decide +kernel)
theorem dX11_go_35 : decode cX11_go 35 = .ok (.iload_n 1, 1) := od_27  (by decide +kernel)
theorem dX11_go_36 : decode cX11_go 36 = .ok (.if_icmp .ge 16, 3) := od_162 (a := 0) (b := 16) (by decide +kernel) (by decide +kernel)
theorem dX11_go_39 : decode cX11_go 39 = .ok (.aload_n 0, 1) := od_42  (by decide +kernel)
theorem dX11_go_40 : decode cX11_go 40 = .ok (.getfield 25, 3) := od_180 (a := 0) (b := 25) (by decide +kernel) (by decide)
theorem dX11_go_43 : decode cX11_go 43 = .ok (.invokevirtual 157, 3) := od_182 (a := 0) (b := 157) (by decide +kernel) (by decide)
theorem dX11_go_46 : decode cX11_go 46 = .ok (.iinc 2 1, 3) := od_132 (a := 2) (b := 1) (by decide +kernel) (by decide +kernel)
theorem dX11_go_49 : decode cX11_go 49 = .ok (.goto (-15), 3) := od_167 (a := 255) (b := 241) (by decide +kernel) (by decide +kernel)
theorem dX11_go_52 : decode cX11_go 52 = .ok (.aload_n 0, 1) := od_42  (by decide +kernel)
theorem dX11_go_53 : decode cX11_go 53 = .ok (.aload_n 0, 1) := od_42  (by decide +kernel)
theorem dX11_go_54 : decode cX11_go 54 = .ok (.getfield 10, 3) := od_180 (a := 0) (b := 10) (by decide +kernel) (by decide)
theorem dX11_go_57 : decode cX11_go 57 = .ok (.getfield 154, 3) := od_180 (a := 0) (b := 154) (by decide +kernel) (by decide)
theorem dX11_go_60 : decode cX11_go 60 = .ok (.invokevirtual 73, 3) := od_182 (a := 0) (b := 73) (by decide +kernel) (by decide)
theorem dX11_go_63 : decode cX11_go 63 = .ok (.ireturn, 1) := od_172  (by decide +kernel)
theorem gX11_of_X10_hasShip : GoodIn WALL (wsV RX11 108 RX10 yX10_hasShip wqX10_hasShip) := wg_V wa_326 wa_327 wa_328 wa_14 wa_329
theorem gX11_of_X7_press : GoodIn WALL (wsV RX11 181 RX7 yX7_press wqX7_press) := wg_V wa_631 wa_632 wa_633 wa_95 wa_634
theorem gX11_of_X5_tonsLeft : GoodIn WALL (wsV RX11 185 RX5 yX5_tonsLeft wqX5_tonsLeft) := wg_V wa_635 wa_636 wa_637 wa_64 wa_638
theorem gX11_of_X7_draft : GoodIn WALL (wsV RX11 188 RX7 yX7_draft wqX7_draft) := wg_V wa_639 wa_478 wa_479 wa_95 wa_480
theorem dX11_of_0 : decode cX11_of 0 = .ok (.aload_n 0, 1) := od_42  (by decide +kernel)
theorem dX11_of_1 : decode cX11_of 1 = .ok (.getfield 10, 3) := od_180 (a := 0) (b := 10) (by decide +kernel) (by decide)
theorem dX11_of_4 : decode cX11_of 4 = .ok (.iload_n 1, 1) := od_27  (by decide +kernel)
theorem dX11_of_5 : decode cX11_of 5 = .ok (.invokevirtual 108, 3) := od_182 (a := 0) (b := 108) (by decide +kernel) (by decide)
theorem dX11_of_8 : decode cX11_of 8 = .ok (.ifCond .ne 5, 3) := od_154 (a := 0) (b := 5) (by decide +kernel) (by decide +kernel)
theorem dX11_of_11 : decode cX11_of 11 = .ok (.iconst (-1), 1) := od_2  (by decide +kernel)
theorem dX11_of_12 : decode cX11_of 12 = .ok (.ireturn, 1) := od_172  (by decide +kernel)
theorem dX11_of_13 : decode cX11_of 13 = .ok (.aload_n 0, 1) := od_42  (by decide +kernel)
theorem dX11_of_14 : decode cX11_of 14 = .ok (.getfield 10, 3) := od_180 (a := 0) (b := 10) (by decide +kernel) (by decide)
theorem dX11_of_17 : decode cX11_of 17 = .ok (.getfield 84, 3) := od_180 (a := 0) (b := 84) (by decide +kernel) (by decide)
theorem dX11_of_20 : decode cX11_of 20 = .ok (.iload_n 1, 1) := od_27  (by decide +kernel)
theorem dX11_of_21 : decode cX11_of 21 = .ok (.aaload, 1) := od_50  (by decide +kernel)
theorem dX11_of_22 : decode cX11_of 22 = .ok (.astore_n 3, 1) := od_78  (by decide +kernel)
theorem dX11_of_23 : decode cX11_of 23 = .ok (.iload_n 2, 1) := od_28  (by decide +kernel)
theorem dX11_of_24 : decode cX11_of 24 = .ok (.tableswitch 129 0 9 #[56, 61, 66, 74, 82, 90, 98, 103, 108, 116], 56) := by decide +kernel
theorem dX11_of_80 : decode cX11_of 80 = .ok (.aload_n 3, 1) := od_45  (by decide +kernel)
theorem dX11_of_81 : decode cX11_of 81 = .ok (.getfield 160, 3) := od_180 (a := 0) (b := 160) (by decide +kernel) (by decide)
theorem dX11_of_84 : decode cX11_of 84 = .ok (.ireturn, 1) := od_172  (by decide +kernel)
theorem dX11_of_85 : decode cX11_of 85 = .ok (.aload_n 3, 1) := od_45  (by decide +kernel)
theorem dX11_of_86 : decode cX11_of 86 = .ok (.getfield 163, 3) := od_180 (a := 0) (b := 163) (by decide +kernel) (by decide)
theorem dX11_of_89 : decode cX11_of 89 = .ok (.ireturn, 1) := od_172  (by decide +kernel)
theorem dX11_of_90 : decode cX11_of 90 = .ok (.aload_n 3, 1) := od_45  (by decide +kernel)
theorem dX11_of_91 : decode cX11_of 91 = .ok (.getfield 166, 3) := od_180 (a := 0) (b := 166) (by decide +kernel) (by decide)
theorem dX11_of_94 : decode cX11_of 94 = .ok (.getfield 170, 3) := od_180 (a := 0) (b := 170) (by decide +kernel) (by decide)
theorem dX11_of_97 : decode cX11_of 97 = .ok (.ireturn, 1) := od_172  (by decide +kernel)
theorem dX11_of_98 : decode cX11_of 98 = .ok (.aload_n 3, 1) := od_45  (by decide +kernel)
theorem dX11_of_99 : decode cX11_of 99 = .ok (.getfield 166, 3) := od_180 (a := 0) (b := 166) (by decide +kernel) (by decide)
theorem dX11_of_102 : decode cX11_of 102 = .ok (.getfield 175, 3) := od_180 (a := 0) (b := 175) (by decide +kernel) (by decide)
theorem dX11_of_105 : decode cX11_of 105 = .ok (.ireturn, 1) := od_172  (by decide +kernel)
theorem dX11_of_106 : decode cX11_of 106 = .ok (.aload_n 3, 1) := od_45  (by decide +kernel)
theorem dX11_of_107 : decode cX11_of 107 = .ok (.getfield 166, 3) := od_180 (a := 0) (b := 166) (by decide +kernel) (by decide)
theorem dX11_of_110 : decode cX11_of 110 = .ok (.getfield 178, 3) := od_180 (a := 0) (b := 178) (by decide +kernel) (by decide)
theorem dX11_of_113 : decode cX11_of 113 = .ok (.ireturn, 1) := od_172  (by decide +kernel)
theorem dX11_of_114 : decode cX11_of 114 = .ok (.aload_n 3, 1) := od_45  (by decide +kernel)
theorem dX11_of_115 : decode cX11_of 115 = .ok (.getfield 166, 3) := od_180 (a := 0) (b := 166) (by decide +kernel) (by decide)
theorem dX11_of_118 : decode cX11_of 118 = .ok (.invokevirtual 181, 3) := od_182 (a := 0) (b := 181) (by decide +kernel) (by decide)
theorem dX11_of_121 : decode cX11_of 121 = .ok (.ireturn, 1) := od_172  (by decide +kernel)
theorem dX11_of_122 : decode cX11_of 122 = .ok (.aload_n 3, 1) := od_45  (by decide +kernel)
theorem dX11_of_123 : decode cX11_of 123 = .ok (.getfield 144, 3) := od_180 (a := 0) (b := 144) (by decide +kernel) (by decide)
theorem dX11_of_126 : decode cX11_of 126 = .ok (.ireturn, 1) := od_172  (by decide +kernel)
theorem dX11_of_127 : decode cX11_of 127 = .ok (.aload_n 3, 1) := od_45  (by decide +kernel)
theorem dX11_of_128 : decode cX11_of 128 = .ok (.invokevirtual 185, 3) := od_182 (a := 0) (b := 185) (by decide +kernel) (by decide)
theorem dX11_of_131 : decode cX11_of 131 = .ok (.ireturn, 1) := od_172  (by decide +kernel)
theorem dX11_of_132 : decode cX11_of 132 = .ok (.aload_n 3, 1) := od_45  (by decide +kernel)
theorem dX11_of_133 : decode cX11_of 133 = .ok (.getfield 166, 3) := od_180 (a := 0) (b := 166) (by decide +kernel) (by decide)
theorem dX11_of_136 : decode cX11_of 136 = .ok (.invokevirtual 188, 3) := od_182 (a := 0) (b := 188) (by decide +kernel) (by decide)
theorem dX11_of_139 : decode cX11_of 139 = .ok (.ireturn, 1) := od_172  (by decide +kernel)
theorem dX11_of_140 : decode cX11_of 140 = .ok (.aload_n 3, 1) := od_45  (by decide +kernel)
theorem dX11_of_141 : decode cX11_of 141 = .ok (.getfield 191, 3) := od_180 (a := 0) (b := 191) (by decide +kernel) (by decide)
theorem dX11_of_144 : decode cX11_of 144 = .ok (.ifCond .eq 7, 3) := od_153 (a := 0) (b := 7) (by decide +kernel) (by decide +kernel)
theorem dX11_of_147 : decode cX11_of 147 = .ok (.iconst 1, 1) := od_4  (by decide +kernel)
theorem dX11_of_148 : decode cX11_of 148 = .ok (.goto 4, 3) := od_167 (a := 0) (b := 4) (by decide +kernel) (by decide +kernel)
theorem dX11_of_151 : decode cX11_of 151 = .ok (.iconst 0, 1) := od_3  (by decide +kernel)
theorem dX11_of_152 : decode cX11_of 152 = .ok (.ireturn, 1) := od_172  (by decide +kernel)
theorem dX11_of_153 : decode cX11_of 153 = .ok (.iconst (-1), 1) := od_2  (by decide +kernel)
theorem dX11_of_154 : decode cX11_of 154 = .ok (.ireturn, 1) := od_172  (by decide +kernel)
theorem gX11_part_X10_hasShip : GoodIn WALL (wsV RX11 108 RX10 yX10_hasShip wqX10_hasShip) := wg_V wa_326 wa_327 wa_328 wa_14 wa_329
theorem gX11_part_X10_hasTerminal : GoodIn WALL (wsV RX11 77 RX10 yX10_hasTerminal wqX10_hasTerminal) := wg_V wa_233 wa_234 wa_235 wa_14 wa_236
theorem dX11_part_0 : decode cX11_part 0 = .ok (.aload_n 0, 1) := od_42  (by decide +kernel)
theorem dX11_part_1 : decode cX11_part 1 = .ok (.getfield 10, 3) := od_180 (a := 0) (b := 10) (by decide +kernel) (by decide)
theorem dX11_part_4 : decode cX11_part 4 = .ok (.iload_n 1, 1) := od_27  (by decide +kernel)
theorem dX11_part_5 : decode cX11_part 5 = .ok (.invokevirtual 108, 3) := od_182 (a := 0) (b := 108) (by decide +kernel) (by decide)
theorem dX11_part_8 : decode cX11_part 8 = .ok (.ifCond .eq 14, 3) := od_153 (a := 0) (b := 14) (by decide +kernel) (by decide +kernel)
theorem dX11_part_11 : decode cX11_part 11 = .ok (.aload_n 0, 1) := od_42  (by decide +kernel)
theorem dX11_part_12 : decode cX11_part 12 = .ok (.getfield 10, 3) := od_180 (a := 0) (b := 10) (by decide +kernel) (by decide)
theorem dX11_part_15 : decode cX11_part 15 = .ok (.iload_n 2, 1) := od_28  (by decide +kernel)
theorem dX11_part_16 : decode cX11_part 16 = .ok (.invokevirtual 77, 3) := od_182 (a := 0) (b := 77) (by decide +kernel) (by decide)
theorem dX11_part_19 : decode cX11_part 19 = .ok (.ifCond .ne 5, 3) := od_154 (a := 0) (b := 5) (by decide +kernel) (by decide +kernel)
theorem dX11_part_22 : decode cX11_part 22 = .ok (.iconst (-1), 1) := od_2  (by decide +kernel)
theorem dX11_part_23 : decode cX11_part 23 = .ok (.ireturn, 1) := od_172  (by decide +kernel)
theorem dX11_part_24 : decode cX11_part 24 = .ok (.aload_n 0, 1) := od_42  (by decide +kernel)
theorem dX11_part_25 : decode cX11_part 25 = .ok (.getfield 10, 3) := od_180 (a := 0) (b := 10) (by decide +kernel) (by decide)
theorem dX11_part_28 : decode cX11_part 28 = .ok (.getfield 84, 3) := od_180 (a := 0) (b := 84) (by decide +kernel) (by decide)
theorem dX11_part_31 : decode cX11_part 31 = .ok (.iload_n 1, 1) := od_27  (by decide +kernel)
theorem dX11_part_32 : decode cX11_part 32 = .ok (.aaload, 1) := od_50  (by decide +kernel)
theorem dX11_part_33 : decode cX11_part 33 = .ok (.getfield 166, 3) := od_180 (a := 0) (b := 166) (by decide +kernel) (by decide)
theorem dX11_part_36 : decode cX11_part 36 = .ok (.getfield 195, 3) := od_180 (a := 0) (b := 195) (by decide +kernel) (by decide)
theorem dX11_part_39 : decode cX11_part 39 = .ok (.iload_n 2, 1) := od_28  (by decide +kernel)
theorem dX11_part_40 : decode cX11_part 40 = .ok (.iaload, 1) := od_46  (by decide +kernel)
theorem dX11_part_41 : decode cX11_part 41 = .ok (.ireturn, 1) := od_172  (by decide +kernel)
theorem gX11_book_X10_hasShip : GoodIn WALL (wsV RX11 108 RX10 yX10_hasShip wqX10_hasShip) := wg_V wa_326 wa_327 wa_328 wa_14 wa_329
theorem gX11_book_X11_within : GoodIn WALL (va_wsS RX11 51 yX11_within wqX11_within) := wg_S wa_180 wa_181 wa_2 wa_182
theorem dX11_book_0 : decode cX11_book 0 = .ok (.aload_n 0, 1) := od_42  (by decide +kernel)
theorem dX11_book_1 : decode cX11_book 1 = .ok (.getfield 10, 3) := od_180 (a := 0) (b := 10) (by decide +kernel) (by decide)
theorem dX11_book_4 : decode cX11_book 4 = .ok (.iload_n 1, 1) := od_27  (by decide +kernel)
theorem dX11_book_5 : decode cX11_book 5 = .ok (.invokevirtual 108, 3) := od_182 (a := 0) (b := 108) (by decide +kernel) (by decide)
theorem dX11_book_8 : decode cX11_book 8 = .ok (.ifCond .eq 12, 3) := od_153 (a := 0) (b := 12) (by decide +kernel) (by decide +kernel)
theorem dX11_book_11 : decode cX11_book 11 = .ok (.iload_n 2, 1) := od_28  (by decide +kernel)
theorem dX11_book_12 : decode cX11_book 12 = .ok (.iconst 0, 1) := od_3  (by decide +kernel)
theorem dX11_book_13 : decode cX11_book 13 = .ok (.iconst 3, 1) := od_6  (by decide +kernel)
theorem dX11_book_14 : decode cX11_book 14 = .ok (.invokestatic 51, 3) := od_184 (a := 0) (b := 51) (by decide +kernel) (by decide)
theorem dX11_book_17 : decode cX11_book 17 = .ok (.ifCond .ne 7, 3) := od_154 (a := 0) (b := 7) (by decide +kernel) (by decide +kernel)
theorem dX11_book_20 : decode cX11_book 20 = .ok (.ldc2_w 198, 3) := od_20 (a := 0) (b := 198) (by decide +kernel) (by decide)
theorem dX11_book_23 : decode cX11_book 23 = .ok (.lreturn, 1) := od_173  (by decide +kernel)
theorem dX11_book_24 : decode cX11_book 24 = .ok (.aload_n 0, 1) := od_42  (by decide +kernel)
theorem dX11_book_25 : decode cX11_book 25 = .ok (.getfield 10, 3) := od_180 (a := 0) (b := 10) (by decide +kernel) (by decide)
theorem dX11_book_28 : decode cX11_book 28 = .ok (.getfield 84, 3) := od_180 (a := 0) (b := 84) (by decide +kernel) (by decide)
theorem dX11_book_31 : decode cX11_book 31 = .ok (.iload_n 1, 1) := od_27  (by decide +kernel)
theorem dX11_book_32 : decode cX11_book 32 = .ok (.aaload, 1) := od_50  (by decide +kernel)
theorem dX11_book_33 : decode cX11_book 33 = .ok (.getfield 200, 3) := od_180 (a := 0) (b := 200) (by decide +kernel) (by decide)
theorem dX11_book_36 : decode cX11_book 36 = .ok (.iload_n 2, 1) := od_28  (by decide +kernel)
theorem dX11_book_37 : decode cX11_book 37 = .ok (.laload, 1) := od_47  (by decide +kernel)
theorem dX11_book_38 : decode cX11_book 38 = .ok (.lreturn, 1) := od_173  (by decide +kernel)
theorem gX11_store_X10_hasTerminal : GoodIn WALL (wsV RX11 77 RX10 yX10_hasTerminal wqX10_hasTerminal) := wg_V wa_233 wa_234 wa_235 wa_14 wa_236
theorem dX11_store_0 : decode cX11_store 0 = .ok (.aload_n 0, 1) := od_42  (by decide +kernel)
theorem dX11_store_1 : decode cX11_store 1 = .ok (.getfield 10, 3) := od_180 (a := 0) (b := 10) (by decide +kernel) (by decide)
theorem dX11_store_4 : decode cX11_store 4 = .ok (.iload_n 1, 1) := od_27  (by decide +kernel)
theorem dX11_store_5 : decode cX11_store 5 = .ok (.invokevirtual 77, 3) := od_182 (a := 0) (b := 77) (by decide +kernel) (by decide)
theorem dX11_store_8 : decode cX11_store 8 = .ok (.ifCond .eq 18, 3) := od_153 (a := 0) (b := 18) (by decide +kernel) (by decide +kernel)
theorem dX11_store_11 : decode cX11_store 11 = .ok (.aload_n 0, 1) := od_42  (by decide +kernel)
theorem dX11_store_12 : decode cX11_store 12 = .ok (.getfield 10, 3) := od_180 (a := 0) (b := 10) (by decide +kernel) (by decide)
theorem dX11_store_15 : decode cX11_store 15 = .ok (.getfield 63, 3) := od_180 (a := 0) (b := 63) (by decide +kernel) (by decide)
theorem dX11_store_18 : decode cX11_store 18 = .ok (.iload_n 1, 1) := od_27  (by decide +kernel)
theorem dX11_store_19 : decode cX11_store 19 = .ok (.aaload, 1) := od_50  (by decide +kernel)
theorem dX11_store_20 : decode cX11_store 20 = .ok (.getfield 204, 3) := od_180 (a := 0) (b := 204) (by decide +kernel) (by decide)
theorem dX11_store_23 : decode cX11_store 23 = .ok (.goto 4, 3) := od_167 (a := 0) (b := 4) (by decide +kernel) (by decide +kernel)
theorem dX11_store_26 : decode cX11_store 26 = .ok (.iconst (-1), 1) := od_2  (by decide +kernel)
theorem dX11_store_27 : decode cX11_store 27 = .ok (.ireturn, 1) := od_172  (by decide +kernel)
theorem gX11_landing_X4_has : GoodIn WALL (wsV RX11 211 RX4 yX4_has wqX4_has) := wg_V wa_677 wa_529 wa_530 wa_56 wa_531
theorem gX11_landing_X4_number : GoodIn WALL (wsV RX11 216 RX4 yX4_number wqX4_number) := wg_V wa_678 wa_679 wa_680 wa_56 wa_681
theorem gX11_landing_X10_heatOf : GoodIn WALL (wsV RX11 219 RX10 yX10_heatOf wqX10_heatOf) := wg_V wa_686 wa_687 wa_688 wa_14 wa_689
theorem gX11_landing_X10_isSettled : GoodIn WALL (wsV RX11 223 RX10 yX10_isSettled wqX10_isSettled) := wg_V wa_691 wa_692 wa_693 wa_14 wa_694
theorem dX11_landing_0 : decode cX11_landing 0 = .ok (.aload_n 0, 1) := od_42  (by decide +kernel)
theorem dX11_landing_1 : decode cX11_landing 1 = .ok (.getfield 10, 3) := od_180 (a := 0) (b := 10) (by decide +kernel) (by decide)
theorem dX11_landing_4 : decode cX11_landing 4 = .ok (.getfield 207, 3) := od_180 (a := 0) (b := 207) (by decide +kernel) (by decide)
theorem dX11_landing_7 : decode cX11_landing 7 = .ok (.iload_n 1, 1) := od_27  (by decide +kernel)
theorem dX11_landing_8 : decode cX11_landing 8 = .ok (.invokevirtual 211, 3) := od_182 (a := 0) (b := 211) (by decide +kernel) (by decide)
theorem dX11_landing_11 : decode cX11_landing 11 = .ok (.ifCond .ne 5, 3) := od_154 (a := 0) (b := 5) (by decide +kernel) (by decide +kernel)
theorem dX11_landing_14 : decode cX11_landing 14 = .ok (.iconst (-1), 1) := od_2  (by decide +kernel)
theorem dX11_landing_15 : decode cX11_landing 15 = .ok (.ireturn, 1) := od_172  (by decide +kernel)
theorem dX11_landing_16 : decode cX11_landing 16 = .ok (.iload_n 2, 1) := od_28  (by decide +kernel)
theorem dX11_landing_17 : decode cX11_landing 17 = .ok (.tableswitch 135 0 6 #[43, 56, 69, 82, 95, 108, 118], 43) := by decide +kernel
theorem dX11_landing_60 : decode cX11_landing 60 = .ok (.aload_n 0, 1) := od_42  (by decide +kernel)
theorem dX11_landing_61 : decode cX11_landing 61 = .ok (.getfield 10, 3) := od_180 (a := 0) (b := 10) (by decide +kernel) (by decide)
theorem dX11_landing_64 : decode cX11_landing 64 = .ok (.getfield 207, 3) := od_180 (a := 0) (b := 207) (by decide +kernel) (by decide)
theorem dX11_landing_67 : decode cX11_landing 67 = .ok (.iload_n 1, 1) := od_27  (by decide +kernel)
theorem dX11_landing_68 : decode cX11_landing 68 = .ok (.iconst 0, 1) := od_3  (by decide +kernel)
theorem dX11_landing_69 : decode cX11_landing 69 = .ok (.invokevirtual 216, 3) := od_182 (a := 0) (b := 216) (by decide +kernel) (by decide)
theorem dX11_landing_72 : decode cX11_landing 72 = .ok (.ireturn, 1) := od_172  (by decide +kernel)
theorem dX11_landing_73 : decode cX11_landing 73 = .ok (.aload_n 0, 1) := od_42  (by decide +kernel)
theorem dX11_landing_74 : decode cX11_landing 74 = .ok (.getfield 10, 3) := od_180 (a := 0) (b := 10) (by decide +kernel) (by decide)
theorem dX11_landing_77 : decode cX11_landing 77 = .ok (.getfield 207, 3) := od_180 (a := 0) (b := 207) (by decide +kernel) (by decide)
theorem dX11_landing_80 : decode cX11_landing 80 = .ok (.iload_n 1, 1) := od_27  (by decide +kernel)
theorem dX11_landing_81 : decode cX11_landing 81 = .ok (.iconst 1, 1) := od_4  (by decide +kernel)
theorem dX11_landing_82 : decode cX11_landing 82 = .ok (.invokevirtual 216, 3) := od_182 (a := 0) (b := 216) (by decide +kernel) (by decide)
theorem dX11_landing_85 : decode cX11_landing 85 = .ok (.ireturn, 1) := od_172  (by decide +kernel)
theorem dX11_landing_86 : decode cX11_landing 86 = .ok (.aload_n 0, 1) := od_42  (by decide +kernel)
theorem dX11_landing_87 : decode cX11_landing 87 = .ok (.getfield 10, 3) := od_180 (a := 0) (b := 10) (by decide +kernel) (by decide)
theorem dX11_landing_90 : decode cX11_landing 90 = .ok (.getfield 207, 3) := od_180 (a := 0) (b := 207) (by decide +kernel) (by decide)
theorem dX11_landing_93 : decode cX11_landing 93 = .ok (.iload_n 1, 1) := od_27  (by decide +kernel)
theorem dX11_landing_94 : decode cX11_landing 94 = .ok (.iconst 2, 1) := od_5  (by decide +kernel)
theorem dX11_landing_95 : decode cX11_landing 95 = .ok (.invokevirtual 216, 3) := od_182 (a := 0) (b := 216) (by decide +kernel) (by decide)
theorem dX11_landing_98 : decode cX11_landing 98 = .ok (.ireturn, 1) := od_172  (by decide +kernel)
theorem dX11_landing_99 : decode cX11_landing 99 = .ok (.aload_n 0, 1) := od_42  (by decide +kernel)
theorem dX11_landing_100 : decode cX11_landing 100 = .ok (.getfield 10, 3) := od_180 (a := 0) (b := 10) (by decide +kernel) (by decide)
theorem dX11_landing_103 : decode cX11_landing 103 = .ok (.getfield 207, 3) := od_180 (a := 0) (b := 207) (by decide +kernel) (by decide)
theorem dX11_landing_106 : decode cX11_landing 106 = .ok (.iload_n 1, 1) := od_27  (by decide +kernel)
theorem dX11_landing_107 : decode cX11_landing 107 = .ok (.iconst 3, 1) := od_6  (by decide +kernel)
theorem dX11_landing_108 : decode cX11_landing 108 = .ok (.invokevirtual 216, 3) := od_182 (a := 0) (b := 216) (by decide +kernel) (by decide)
theorem dX11_landing_111 : decode cX11_landing 111 = .ok (.ireturn, 1) := od_172  (by decide +kernel)
theorem dX11_landing_112 : decode cX11_landing 112 = .ok (.aload_n 0, 1) := od_42  (by decide +kernel)
theorem dX11_landing_113 : decode cX11_landing 113 = .ok (.getfield 10, 3) := od_180 (a := 0) (b := 10) (by decide +kernel) (by decide)
theorem dX11_landing_116 : decode cX11_landing 116 = .ok (.getfield 207, 3) := od_180 (a := 0) (b := 207) (by decide +kernel) (by decide)
theorem dX11_landing_119 : decode cX11_landing 119 = .ok (.iload_n 1, 1) := od_27  (by decide +kernel)
theorem dX11_landing_120 : decode cX11_landing 120 = .ok (.iconst 4, 1) := od_7  (by decide +kernel)
theorem dX11_landing_121 : decode cX11_landing 121 = .ok (.invokevirtual 216, 3) := od_182 (a := 0) (b := 216) (by decide +kernel) (by decide)
theorem dX11_landing_124 : decode cX11_landing 124 = .ok (.ireturn, 1) := od_172  (by decide +kernel)
theorem dX11_landing_125 : decode cX11_landing 125 = .ok (.aload_n 0, 1) := od_42  (by decide +kernel)
theorem dX11_landing_126 : decode cX11_landing 126 = .ok (.getfield 10, 3) := od_180 (a := 0) (b := 10) (by decide +kernel) (by decide)
theorem dX11_landing_129 : decode cX11_landing 129 = .ok (.iload_n 1, 1) := od_27  (by decide +kernel)
theorem dX11_landing_130 : decode cX11_landing 130 = .ok (.invokevirtual 219, 3) := od_182 (a := 0) (b := 219) (by decide +kernel) (by decide)
theorem dX11_landing_133 : decode cX11_landing 133 = .ok (.l2i, 1) := od_136  (by decide +kernel)
theorem dX11_landing_134 : decode cX11_landing 134 = .ok (.ireturn, 1) := od_172  (by decide +kernel)
theorem dX11_landing_135 : decode cX11_landing 135 = .ok (.aload_n 0, 1) := od_42  (by decide +kernel)
theorem dX11_landing_136 : decode cX11_landing 136 = .ok (.getfield 10, 3) := od_180 (a := 0) (b := 10) (by decide +kernel) (by decide)
theorem dX11_landing_139 : decode cX11_landing 139 = .ok (.iload_n 1, 1) := od_27  (by decide +kernel)
theorem dX11_landing_140 : decode cX11_landing 140 = .ok (.invokevirtual 223, 3) := od_182 (a := 0) (b := 223) (by decide +kernel) (by decide)
theorem dX11_landing_143 : decode cX11_landing 143 = .ok (.ifCond .eq 7, 3) := od_153 (a := 0) (b := 7) (by decide +kernel) (by decide +kernel)
theorem dX11_landing_146 : decode cX11_landing 146 = .ok (.iconst 1, 1) := od_4  (by decide +kernel)
theorem dX11_landing_147 : decode cX11_landing 147 = .ok (.goto 4, 3) := od_167 (a := 0) (b := 4) (by decide +kernel) (by decide +kernel)
theorem dX11_landing_150 : decode cX11_landing 150 = .ok (.iconst 0, 1) := od_3  (by decide +kernel)
theorem dX11_landing_151 : decode cX11_landing 151 = .ok (.ireturn, 1) := od_172  (by decide +kernel)
theorem dX11_landing_152 : decode cX11_landing 152 = .ok (.iconst (-1), 1) := od_2  (by decide +kernel)
theorem dX11_landing_153 : decode cX11_landing 153 = .ok (.ireturn, 1) := od_172  (by decide +kernel)
theorem gX11_led_X4_has : GoodIn WALL (wsV RX11 211 RX4 yX4_has wqX4_has) := wg_V wa_677 wa_529 wa_530 wa_56 wa_531
theorem gX11_led_X10_hasTerminal : GoodIn WALL (wsV RX11 77 RX10 yX10_hasTerminal wqX10_hasTerminal) := wg_V wa_233 wa_234 wa_235 wa_14 wa_236
theorem gX11_led_X4_number : GoodIn WALL (wsV RX11 216 RX4 yX4_number wqX4_number) := wg_V wa_678 wa_679 wa_680 wa_56 wa_681
theorem dX11_led_0 : decode cX11_led 0 = .ok (.aload_n 0, 1) := od_42  (by decide +kernel)
theorem dX11_led_1 : decode cX11_led 1 = .ok (.getfield 10, 3) := od_180 (a := 0) (b := 10) (by decide +kernel) (by decide)
theorem dX11_led_4 : decode cX11_led 4 = .ok (.getfield 207, 3) := od_180 (a := 0) (b := 207) (by decide +kernel) (by decide)
theorem dX11_led_7 : decode cX11_led 7 = .ok (.iload_n 1, 1) := od_27  (by decide +kernel)
theorem dX11_led_8 : decode cX11_led 8 = .ok (.invokevirtual 211, 3) := od_182 (a := 0) (b := 211) (by decide +kernel) (by decide)
theorem dX11_led_11 : decode cX11_led 11 = .ok (.ifCond .eq 14, 3) := od_153 (a := 0) (b := 14) (by decide +kernel) (by decide +kernel)
theorem dX11_led_14 : decode cX11_led 14 = .ok (.aload_n 0, 1) := od_42  (by decide +kernel)
theorem dX11_led_15 : decode cX11_led 15 = .ok (.getfield 10, 3) := od_180 (a := 0) (b := 10) (by decide +kernel) (by decide)
theorem dX11_led_18 : decode cX11_led 18 = .ok (.iload_n 2, 1) := od_28  (by decide +kernel)
theorem dX11_led_19 : decode cX11_led 19 = .ok (.invokevirtual 77, 3) := od_182 (a := 0) (b := 77) (by decide +kernel) (by decide)
theorem dX11_led_22 : decode cX11_led 22 = .ok (.ifCond .ne 5, 3) := od_154 (a := 0) (b := 5) (by decide +kernel) (by decide +kernel)
theorem dX11_led_25 : decode cX11_led 25 = .ok (.iconst (-1), 1) := od_2  (by decide +kernel)
theorem dX11_led_26 : decode cX11_led 26 = .ok (.ireturn, 1) := od_172  (by decide +kernel)
theorem dX11_led_27 : decode cX11_led 27 = .ok (.aload_n 0, 1) := od_42  (by decide +kernel)
theorem dX11_led_28 : decode cX11_led 28 = .ok (.getfield 10, 3) := od_180 (a := 0) (b := 10) (by decide +kernel) (by decide)
theorem dX11_led_31 : decode cX11_led 31 = .ok (.getfield 207, 3) := od_180 (a := 0) (b := 207) (by decide +kernel) (by decide)
theorem dX11_led_34 : decode cX11_led 34 = .ok (.iload_n 1, 1) := od_27  (by decide +kernel)
theorem dX11_led_35 : decode cX11_led 35 = .ok (.iconst 5, 1) := od_8  (by decide +kernel)
theorem dX11_led_36 : decode cX11_led 36 = .ok (.iload_n 2, 1) := od_28  (by decide +kernel)
theorem dX11_led_37 : decode cX11_led 37 = .ok (.iadd, 1) := od_96  (by decide +kernel)
theorem dX11_led_38 : decode cX11_led 38 = .ok (.invokevirtual 216, 3) := od_182 (a := 0) (b := 216) (by decide +kernel) (by decide)
theorem dX11_led_41 : decode cX11_led 41 = .ok (.ireturn, 1) := od_172  (by decide +kernel)
theorem gX11_heat_X11_within : GoodIn WALL (va_wsS RX11 51 yX11_within wqX11_within) := wg_S wa_180 wa_181 wa_2 wa_182
theorem gX11_heat_X11_refuse : GoodIn WALL (wsV RX11 55 RX11 yX11_refuse wqX11_refuse) := wg_V wa_183 wa_184 wa_185 wa_2 wa_186
theorem gX11_heat_X10_hasTerminal : GoodIn WALL (wsV RX11 77 RX10 yX10_hasTerminal wqX10_hasTerminal) := wg_V wa_233 wa_234 wa_235 wa_14 wa_236
theorem gX11_heat_X11_accept : GoodIn WALL (wsV RX11 73 RX11 yX11_accept wqX11_accept) := wg_V wa_201 wa_202 wa_203 wa_2 wa_204
theorem dX11_heat_0 : decode cX11_heat 0 = .ok (.iload_n 2, 1) := od_28  (by decide +kernel)
theorem dX11_heat_1 : decode cX11_heat 1 = .ok (.sipush 500, 3) := od_17 (a := 1) (b := 244) (by decide +kernel) (by decide +kernel)
theorem dX11_heat_4 : decode cX11_heat 4 = .ok (.sipush 2000, 3) := od_17 (a := 7) (b := 208) (by decide +kernel) (by decide +kernel)
theorem dX11_heat_7 : decode cX11_heat 7 = .ok (.invokestatic 51, 3) := od_184 (a := 0) (b := 51) (by decide +kernel) (by decide)
theorem dX11_heat_10 : decode cX11_heat 10 = .ok (.ifCond .ne 9, 3) := od_154 (a := 0) (b := 9) (by decide +kernel) (by decide +kernel)
theorem dX11_heat_13 : decode cX11_heat 13 = .ok (.aload_n 0, 1) := od_42  (by decide +kernel)
theorem dX11_heat_14 : decode cX11_heat 14 = .ok (.iconst (-1), 1) := od_2  (by decide +kernel)
theorem dX11_heat_15 : decode cX11_heat 15 = .ok (.invokevirtual 55, 3) := od_182 (a := 0) (b := 55) (by decide +kernel) (by decide)
theorem dX11_heat_18 : decode cX11_heat 18 = .ok (.ireturn, 1) := od_172  (by decide +kernel)
theorem dX11_heat_19 : decode cX11_heat 19 = .ok (.aload_n 0, 1) := od_42  (by decide +kernel)
theorem dX11_heat_20 : decode cX11_heat 20 = .ok (.getfield 10, 3) := od_180 (a := 0) (b := 10) (by decide +kernel) (by decide)
theorem dX11_heat_23 : decode cX11_heat 23 = .ok (.iload_n 1, 1) := od_27  (by decide +kernel)
theorem dX11_heat_24 : decode cX11_heat 24 = .ok (.invokevirtual 77, 3) := od_182 (a := 0) (b := 77) (by decide +kernel) (by decide)
theorem dX11_heat_27 : decode cX11_heat 27 = .ok (.ifCond .ne 10, 3) := od_154 (a := 0) (b := 10) (by decide +kernel) (by decide +kernel)
theorem dX11_heat_30 : decode cX11_heat 30 = .ok (.aload_n 0, 1) := od_42  (by decide +kernel)
theorem dX11_heat_31 : decode cX11_heat 31 = .ok (.bipush (-2), 2) := od_16 (a := 254) (by decide +kernel) (by decide +kernel)
theorem dX11_heat_33 : decode cX11_heat 33 = .ok (.invokevirtual 55, 3) := od_182 (a := 0) (b := 55) (by decide +kernel) (by decide)
theorem dX11_heat_36 : decode cX11_heat 36 = .ok (.ireturn, 1) := od_172  (by decide +kernel)
theorem dX11_heat_37 : decode cX11_heat 37 = .ok (.aload_n 0, 1) := od_42  (by decide +kernel)
theorem dX11_heat_38 : decode cX11_heat 38 = .ok (.getfield 10, 3) := od_180 (a := 0) (b := 10) (by decide +kernel) (by decide)
theorem dX11_heat_41 : decode cX11_heat 41 = .ok (.getfield 63, 3) := od_180 (a := 0) (b := 63) (by decide +kernel) (by decide)
theorem dX11_heat_44 : decode cX11_heat 44 = .ok (.iload_n 1, 1) := od_27  (by decide +kernel)
theorem dX11_heat_45 : decode cX11_heat 45 = .ok (.aaload, 1) := od_50  (by decide +kernel)
theorem dX11_heat_46 : decode cX11_heat 46 = .ok (.getfield 226, 3) := od_180 (a := 0) (b := 226) (by decide +kernel) (by decide)
theorem dX11_heat_49 : decode cX11_heat 49 = .ok (.istore_n 3, 1) := od_62  (by decide +kernel)
theorem dX11_heat_50 : decode cX11_heat 50 = .ok (.aload_n 0, 1) := od_42  (by decide +kernel)
theorem dX11_heat_51 : decode cX11_heat 51 = .ok (.getfield 10, 3) := od_180 (a := 0) (b := 10) (by decide +kernel) (by decide)
theorem dX11_heat_54 : decode cX11_heat 54 = .ok (.getfield 63, 3) := od_180 (a := 0) (b := 63) (by decide +kernel) (by decide)
theorem dX11_heat_57 : decode cX11_heat 57 = .ok (.iload_n 1, 1) := od_27  (by decide +kernel)
theorem dX11_heat_58 : decode cX11_heat 58 = .ok (.aaload, 1) := od_50  (by decide +kernel)
theorem dX11_heat_59 : decode cX11_heat 59 = .ok (.iload_n 2, 1) := od_28  (by decide +kernel)
theorem dX11_heat_60 : decode cX11_heat 60 = .ok (.putfield 226, 3) := od_181 (a := 0) (b := 226) (by decide +kernel) (by decide)
theorem dX11_heat_63 : decode cX11_heat 63 = .ok (.aload_n 0, 1) := od_42  (by decide +kernel)
theorem dX11_heat_64 : decode cX11_heat 64 = .ok (.iload_n 3, 1) := od_29  (by decide +kernel)
theorem dX11_heat_65 : decode cX11_heat 65 = .ok (.invokevirtual 73, 3) := od_182 (a := 0) (b := 73) (by decide +kernel) (by decide)
theorem dX11_heat_68 : decode cX11_heat 68 = .ok (.ireturn, 1) := od_172  (by decide +kernel)
theorem gX11_price_X11_within : GoodIn WALL (va_wsS RX11 51 yX11_within wqX11_within) := wg_S wa_180 wa_181 wa_2 wa_182
theorem gX11_price_X11_isHour : GoodIn WALL (va_wsS RX11 229 yX11_isHour wqX11_isHour) := wg_S wa_323 wa_324 wa_2 wa_325
theorem gX11_price_X11_refuse : GoodIn WALL (wsV RX11 55 RX11 yX11_refuse wqX11_refuse) := wg_V wa_183 wa_184 wa_185 wa_2 wa_186
theorem gX11_price_X4_addRow : GoodIn WALL (wsV RX11 235 RX4 yX4_addRow wqX4_addRow) := wg_V wa_734 wa_514 wa_515 wa_56 wa_516
theorem gX11_price_X4_set : GoodIn WALL (wsV RX11 238 RX4 yX4_set wqX4_set) := wg_V wa_735 wa_525 wa_526 wa_56 wa_527
theorem gX11_price_X11_accept : GoodIn WALL (wsV RX11 73 RX11 yX11_accept wqX11_accept) := wg_V wa_201 wa_202 wa_203 wa_2 wa_204
theorem dX11_price_0 : decode cX11_price 0 = .ok (.iload_n 1, 1) := od_27  (by decide +kernel)
theorem dX11_price_1 : decode cX11_price 1 = .ok (.iconst 0, 1) := od_3  (by decide +kernel)
theorem dX11_price_2 : decode cX11_price 2 = .ok (.bipush 99, 2) := od_16 (a := 99) (by decide +kernel) (by decide +kernel)
theorem dX11_price_4 : decode cX11_price 4 = .ok (.invokestatic 51, 3) := od_184 (a := 0) (b := 51) (by decide +kernel) (by decide)
theorem dX11_price_7 : decode cX11_price 7 = .ok (.ifCond .eq 21, 3) := od_153 (a := 0) (b := 21) (by decide +kernel) (by decide +kernel)
theorem dX11_price_10 : decode cX11_price 10 = .ok (.iload_n 2, 1) := od_28  (by decide +kernel)
theorem dX11_price_11 : decode cX11_price 11 = .ok (.iconst 0, 1) := od_3  (by decide +kernel)
theorem dX11_price_12 : decode cX11_price 12 = .ok (.sipush 10000, 3) := od_17 (a := 39) (b := 16) (by decide +kernel) (by decide +kernel)
theorem dX11_price_15 : decode cX11_price 15 = .ok (.invokestatic 51, 3) := od_184 (a := 0) (b := 51) (by decide +kernel) (by decide)
theorem dX11_price_18 : decode cX11_price 18 = .ok (.ifCond .eq 10, 3) := od_153 (a := 0) (b := 10) (by decide +kernel) (by decide +kernel)
theorem dX11_price_21 : decode cX11_price 21 = .ok (.iload_n 3, 1) := od_29  (by decide +kernel)
theorem dX11_price_22 : decode cX11_price 22 = .ok (.invokestatic 229, 3) := od_184 (a := 0) (b := 229) (by decide +kernel) (by decide)
theorem dX11_price_25 : decode cX11_price 25 = .ok (.ifCond .ne 9, 3) := od_154 (a := 0) (b := 9) (by decide +kernel) (by decide +kernel)
theorem dX11_price_28 : decode cX11_price 28 = .ok (.aload_n 0, 1) := od_42  (by decide +kernel)
theorem dX11_price_29 : decode cX11_price 29 = .ok (.iconst (-1), 1) := od_2  (by decide +kernel)
theorem dX11_price_30 : decode cX11_price 30 = .ok (.invokevirtual 55, 3) := od_182 (a := 0) (b := 55) (by decide +kernel) (by decide)
theorem dX11_price_33 : decode cX11_price 33 = .ok (.ireturn, 1) := od_172  (by decide +kernel)
theorem dX11_price_34 : decode cX11_price 34 = .ok (.aload_n 0, 1) := od_42  (by decide +kernel)
theorem dX11_price_35 : decode cX11_price 35 = .ok (.getfield 10, 3) := od_180 (a := 0) (b := 10) (by decide +kernel) (by decide)
theorem dX11_price_38 : decode cX11_price 38 = .ok (.getfield 232, 3) := od_180 (a := 0) (b := 232) (by decide +kernel) (by decide)
theorem dX11_price_41 : decode cX11_price 41 = .ok (.invokevirtual 235, 3) := od_182 (a := 0) (b := 235) (by decide +kernel) (by decide)
theorem dX11_price_44 : decode cX11_price 44 = .ok (.istore 4, 2) := od_54 (n := 4) (by decide +kernel)
theorem dX11_price_46 : decode cX11_price 46 = .ok (.iload 4, 2) := od_21 (n := 4) (by decide +kernel)
theorem dX11_price_48 : decode cX11_price 48 = .ok (.iconst (-1), 1) := od_2  (by decide +kernel)
theorem dX11_price_49 : decode cX11_price 49 = .ok (.if_icmp .ne 10, 3) := od_160 (a := 0) (b := 10) (by decide +kernel) (by decide +kernel)
theorem dX11_price_52 : decode cX11_price 52 = .ok (.aload_n 0, 1) := od_42  (by decide +kernel)
theorem dX11_price_53 : decode cX11_price 53 = .ok (.bipush (-5), 2) := od_16 (a := 251) (by decide +kernel) (by decide +kernel)
theorem dX11_price_55 : decode cX11_price 55 = .ok (.invokevirtual 55, 3) := od_182 (a := 0) (b := 55) (by decide +kernel) (by decide)
theorem dX11_price_58 : decode cX11_price 58 = .ok (.ireturn, 1) := od_172  (by decide +kernel)
theorem dX11_price_59 : decode cX11_price 59 = .ok (.aload_n 0, 1) := od_42  (by decide +kernel)
theorem dX11_price_60 : decode cX11_price 60 = .ok (.getfield 10, 3) := od_180 (a := 0) (b := 10) (by decide +kernel) (by decide)
theorem dX11_price_63 : decode cX11_price 63 = .ok (.getfield 232, 3) := od_180 (a := 0) (b := 232) (by decide +kernel) (by decide)
theorem dX11_price_66 : decode cX11_price 66 = .ok (.iload 4, 2) := od_21 (n := 4) (by decide +kernel)
theorem dX11_price_68 : decode cX11_price 68 = .ok (.iconst 0, 1) := od_3  (by decide +kernel)
theorem dX11_price_69 : decode cX11_price 69 = .ok (.iload_n 1, 1) := od_27  (by decide +kernel)
theorem dX11_price_70 : decode cX11_price 70 = .ok (.i2l, 1) := od_133  (by decide +kernel)
theorem dX11_price_71 : decode cX11_price 71 = .ok (.invokevirtual 238, 3) := od_182 (a := 0) (b := 238) (by decide +kernel) (by decide)
theorem dX11_price_74 : decode cX11_price 74 = .ok (.aload_n 0, 1) := od_42  (by decide +kernel)
theorem dX11_price_75 : decode cX11_price 75 = .ok (.getfield 10, 3) := od_180 (a := 0) (b := 10) (by decide +kernel) (by decide)
theorem dX11_price_78 : decode cX11_price 78 = .ok (.getfield 232, 3) := od_180 (a := 0) (b := 232) (by decide +kernel) (by decide)
theorem dX11_price_81 : decode cX11_price 81 = .ok (.iload 4, 2) := od_21 (n := 4) (by decide +kernel)
theorem dX11_price_83 : decode cX11_price 83 = .ok (.iconst 1, 1) := od_4  (by decide +kernel)
theorem dX11_price_84 : decode cX11_price 84 = .ok (.iload_n 2, 1) := od_28  (by decide +kernel)
theorem dX11_price_85 : decode cX11_price 85 = .ok (.i2l, 1) := od_133  (by decide +kernel)
theorem dX11_price_86 : decode cX11_price 86 = .ok (.invokevirtual 238, 3) := od_182 (a := 0) (b := 238) (by decide +kernel) (by decide)
theorem dX11_price_89 : decode cX11_price 89 = .ok (.aload_n 0, 1) := od_42  (by decide +kernel)
theorem dX11_price_90 : decode cX11_price 90 = .ok (.getfield 10, 3) := od_180 (a := 0) (b := 10) (by decide +kernel) (by decide)
theorem dX11_price_93 : decode cX11_price 93 = .ok (.getfield 232, 3) := od_180 (a := 0) (b := 232) (by decide +kernel) (by decide)
theorem dX11_price_96 : decode cX11_price 96 = .ok (.iload 4, 2) := od_21 (n := 4) (by decide +kernel)
theorem dX11_price_98 : decode cX11_price 98 = .ok (.iconst 2, 1) := od_5  (by decide +kernel)
theorem dX11_price_99 : decode cX11_price 99 = .ok (.iload_n 3, 1) := od_29  (by decide +kernel)
theorem dX11_price_100 : decode cX11_price 100 = .ok (.i2l, 1) := od_133  (by decide +kernel)
theorem dX11_price_101 : decode cX11_price 101 = .ok (.invokevirtual 238, 3) := od_182 (a := 0) (b := 238) (by decide +kernel) (by decide)
theorem dX11_price_104 : decode cX11_price 104 = .ok (.aload_n 0, 1) := od_42  (by decide +kernel)
theorem dX11_price_105 : decode cX11_price 105 = .ok (.aload_n 0, 1) := od_42  (by decide +kernel)
theorem dX11_price_106 : decode cX11_price 106 = .ok (.getfield 10, 3) := od_180 (a := 0) (b := 10) (by decide +kernel) (by decide)
theorem dX11_price_109 : decode cX11_price 109 = .ok (.getfield 232, 3) := od_180 (a := 0) (b := 232) (by decide +kernel) (by decide)
theorem dX11_price_112 : decode cX11_price 112 = .ok (.getfield 242, 3) := od_180 (a := 0) (b := 242) (by decide +kernel) (by decide)
theorem dX11_price_115 : decode cX11_price 115 = .ok (.invokevirtual 73, 3) := od_182 (a := 0) (b := 73) (by decide +kernel) (by decide)
theorem dX11_price_118 : decode cX11_price 118 = .ok (.ireturn, 1) := od_172  (by decide +kernel)
theorem gX11_force_X11_isSpan : GoodIn WALL (va_wsS RX11 104 yX11_isSpan wqX11_isSpan) := wg_S wa_320 wa_321 wa_2 wa_322
theorem gX11_force_X11_isHour : GoodIn WALL (va_wsS RX11 229 yX11_isHour wqX11_isHour) := wg_S wa_323 wa_324 wa_2 wa_325
theorem gX11_force_X11_refuse : GoodIn WALL (wsV RX11 55 RX11 yX11_refuse wqX11_refuse) := wg_V wa_183 wa_184 wa_185 wa_2 wa_186
theorem gX11_force_X6_add : GoodIn WALL (wsV RX11 125 RX6 yX6_add wqX6_add) := wg_V wa_339 wa_340 wa_341 wa_50 wa_342
theorem gX11_force_X11_acceptOrFull : GoodIn WALL (wsV RX11 129 RX11 yX11_acceptOrFull wqX11_acceptOrFull) := wg_V wa_343 wa_344 wa_345 wa_2 wa_346
theorem dX11_force_0 : decode cX11_force 0 = .ok (.iload_n 1, 1) := od_27  (by decide +kernel)
theorem dX11_force_1 : decode cX11_force 1 = .ok (.iload_n 2, 1) := od_28  (by decide +kernel)
theorem dX11_force_2 : decode cX11_force 2 = .ok (.invokestatic 104, 3) := od_184 (a := 0) (b := 104) (by decide +kernel) (by decide)
theorem dX11_force_5 : decode cX11_force 5 = .ok (.ifCond .eq 10, 3) := od_153 (a := 0) (b := 10) (by decide +kernel) (by decide +kernel)
theorem dX11_force_8 : decode cX11_force 8 = .ok (.iload_n 3, 1) := od_29  (by decide +kernel)
theorem dX11_force_9 : decode cX11_force 9 = .ok (.invokestatic 229, 3) := od_184 (a := 0) (b := 229) (by decide +kernel) (by decide)
theorem dX11_force_12 : decode cX11_force 12 = .ok (.ifCond .ne 9, 3) := od_154 (a := 0) (b := 9) (by decide +kernel) (by decide +kernel)
theorem dX11_force_15 : decode cX11_force 15 = .ok (.aload_n 0, 1) := od_42  (by decide +kernel)
theorem dX11_force_16 : decode cX11_force 16 = .ok (.iconst (-1), 1) := od_2  (by decide +kernel)
theorem dX11_force_17 : decode cX11_force 17 = .ok (.invokevirtual 55, 3) := od_182 (a := 0) (b := 55) (by decide +kernel) (by decide)
theorem dX11_force_20 : decode cX11_force 20 = .ok (.ireturn, 1) := od_172  (by decide +kernel)
theorem dX11_force_21 : decode cX11_force 21 = .ok (.aload_n 0, 1) := od_42  (by decide +kernel)
theorem dX11_force_22 : decode cX11_force 22 = .ok (.aload_n 0, 1) := od_42  (by decide +kernel)
theorem dX11_force_23 : decode cX11_force 23 = .ok (.getfield 10, 3) := od_180 (a := 0) (b := 10) (by decide +kernel) (by decide)
theorem dX11_force_26 : decode cX11_force 26 = .ok (.getfield 245, 3) := od_180 (a := 0) (b := 245) (by decide +kernel) (by decide)
theorem dX11_force_29 : decode cX11_force 29 = .ok (.iload_n 3, 1) := od_29  (by decide +kernel)
theorem dX11_force_30 : decode cX11_force 30 = .ok (.iload_n 1, 1) := od_27  (by decide +kernel)
theorem dX11_force_31 : decode cX11_force 31 = .ok (.iload_n 2, 1) := od_28  (by decide +kernel)
theorem dX11_force_32 : decode cX11_force 32 = .ok (.invokevirtual 125, 3) := od_182 (a := 0) (b := 125) (by decide +kernel) (by decide)
theorem dX11_force_35 : decode cX11_force 35 = .ok (.invokevirtual 129, 3) := od_182 (a := 0) (b := 129) (by decide +kernel) (by decide)
theorem dX11_force_38 : decode cX11_force 38 = .ok (.ireturn, 1) := od_172  (by decide +kernel)
theorem gX11_bill_X11_within : GoodIn WALL (va_wsS RX11 51 yX11_within wqX11_within) := wg_S wa_180 wa_181 wa_2 wa_182
theorem gX11_bill_X11_refuse : GoodIn WALL (wsV RX11 55 RX11 yX11_refuse wqX11_refuse) := wg_V wa_183 wa_184 wa_185 wa_2 wa_186
theorem gX11_bill_X4_has : GoodIn WALL (wsV RX11 211 RX4 yX4_has wqX4_has) := wg_V wa_677 wa_529 wa_530 wa_56 wa_531
theorem gX11_bill_X4_at : GoodIn WALL (wsV RX11 248 RX4 yX4_at wqX4_at) := wg_V wa_752 wa_683 wa_684 wa_56 wa_685
theorem gX11_bill_X4_set : GoodIn WALL (wsV RX11 238 RX4 yX4_set wqX4_set) := wg_V wa_735 wa_525 wa_526 wa_56 wa_527
theorem gX11_bill_X11_accept : GoodIn WALL (wsV RX11 73 RX11 yX11_accept wqX11_accept) := wg_V wa_201 wa_202 wa_203 wa_2 wa_204
theorem dX11_bill_0 : decode cX11_bill 0 = .ok (.iload_n 2, 1) := od_28  (by decide +kernel)
theorem dX11_bill_1 : decode cX11_bill 1 = .ok (.iconst 0, 1) := od_3  (by decide +kernel)
theorem dX11_bill_2 : decode cX11_bill 2 = .ok (.ldc 76, 2) := od_18 (n := 76) (by decide +kernel)
theorem dX11_bill_4 : decode cX11_bill 4 = .ok (.invokestatic 51, 3) := od_184 (a := 0) (b := 51) (by decide +kernel) (by decide)
theorem dX11_bill_7 : decode cX11_bill 7 = .ok (.ifCond .ne 9, 3) := od_154 (a := 0) (b := 9) (by decide +kernel) (by decide +kernel)
theorem dX11_bill_10 : decode cX11_bill 10 = .ok (.aload_n 0, 1) := od_42  (by decide +kernel)
theorem dX11_bill_11 : decode cX11_bill 11 = .ok (.iconst (-1), 1) := od_2  (by decide +kernel)
theorem dX11_bill_12 : decode cX11_bill 12 = .ok (.invokevirtual 55, 3) := od_182 (a := 0) (b := 55) (by decide +kernel) (by decide)
theorem dX11_bill_15 : decode cX11_bill 15 = .ok (.ireturn, 1) := od_172  (by decide +kernel)
theorem dX11_bill_16 : decode cX11_bill 16 = .ok (.aload_n 0, 1) := od_42  (by decide +kernel)
theorem dX11_bill_17 : decode cX11_bill 17 = .ok (.getfield 10, 3) := od_180 (a := 0) (b := 10) (by decide +kernel) (by decide)
theorem dX11_bill_20 : decode cX11_bill 20 = .ok (.getfield 207, 3) := od_180 (a := 0) (b := 207) (by decide +kernel) (by decide)
theorem dX11_bill_23 : decode cX11_bill 23 = .ok (.iload_n 1, 1) := od_27  (by decide +kernel)
theorem dX11_bill_24 : decode cX11_bill 24 = .ok (.invokevirtual 211, 3) := od_182 (a := 0) (b := 211) (by decide +kernel) (by decide)
theorem dX11_bill_27 : decode cX11_bill 27 = .ok (.ifCond .ne 10, 3) := od_154 (a := 0) (b := 10) (by decide +kernel) (by decide +kernel)
theorem dX11_bill_30 : decode cX11_bill 30 = .ok (.aload_n 0, 1) := od_42  (by decide +kernel)
theorem dX11_bill_31 : decode cX11_bill 31 = .ok (.bipush (-2), 2) := od_16 (a := 254) (by decide +kernel) (by decide +kernel)
theorem dX11_bill_33 : decode cX11_bill 33 = .ok (.invokevirtual 55, 3) := od_182 (a := 0) (b := 55) (by decide +kernel) (by decide)
theorem dX11_bill_36 : decode cX11_bill 36 = .ok (.ireturn, 1) := od_172  (by decide +kernel)
theorem dX11_bill_37 : decode cX11_bill 37 = .ok (.aload_n 0, 1) := od_42  (by decide +kernel)
theorem dX11_bill_38 : decode cX11_bill 38 = .ok (.getfield 10, 3) := od_180 (a := 0) (b := 10) (by decide +kernel) (by decide)
theorem dX11_bill_41 : decode cX11_bill 41 = .ok (.getfield 207, 3) := od_180 (a := 0) (b := 207) (by decide +kernel) (by decide)
theorem dX11_bill_44 : decode cX11_bill 44 = .ok (.iload_n 1, 1) := od_27  (by decide +kernel)
theorem dX11_bill_45 : decode cX11_bill 45 = .ok (.bipush 11, 2) := od_16 (a := 11) (by decide +kernel) (by decide +kernel)
theorem dX11_bill_47 : decode cX11_bill 47 = .ok (.invokevirtual 248, 3) := od_182 (a := 0) (b := 248) (by decide +kernel) (by decide)
theorem dX11_bill_50 : decode cX11_bill 50 = .ok (.ldc2_w 198, 3) := od_20 (a := 0) (b := 198) (by decide +kernel) (by decide)
theorem dX11_bill_53 : decode cX11_bill 53 = .ok (.lcmp, 1) := od_148  (by decide +kernel)
theorem dX11_bill_54 : decode cX11_bill 54 = .ok (.ifCond .eq 10, 3) := od_153 (a := 0) (b := 10) (by decide +kernel) (by decide +kernel)
theorem dX11_bill_57 : decode cX11_bill 57 = .ok (.aload_n 0, 1) := od_42  (by decide +kernel)
theorem dX11_bill_58 : decode cX11_bill 58 = .ok (.bipush (-4), 2) := od_16 (a := 252) (by decide +kernel) (by decide +kernel)
theorem dX11_bill_60 : decode cX11_bill 60 = .ok (.invokevirtual 55, 3) := od_182 (a := 0) (b := 55) (by decide +kernel) (by decide)
theorem dX11_bill_63 : decode cX11_bill 63 = .ok (.ireturn, 1) := od_172  (by decide +kernel)
theorem dX11_bill_64 : decode cX11_bill 64 = .ok (.aload_n 0, 1) := od_42  (by decide +kernel)
theorem dX11_bill_65 : decode cX11_bill 65 = .ok (.getfield 10, 3) := od_180 (a := 0) (b := 10) (by decide +kernel) (by decide)
theorem dX11_bill_68 : decode cX11_bill 68 = .ok (.getfield 207, 3) := od_180 (a := 0) (b := 207) (by decide +kernel) (by decide)
theorem dX11_bill_71 : decode cX11_bill 71 = .ok (.iload_n 1, 1) := od_27  (by decide +kernel)
theorem dX11_bill_72 : decode cX11_bill 72 = .ok (.bipush 11, 2) := od_16 (a := 11) (by decide +kernel) (by decide +kernel)
theorem dX11_bill_74 : decode cX11_bill 74 = .ok (.iload_n 2, 1) := od_28  (by decide +kernel)
theorem dX11_bill_75 : decode cX11_bill 75 = .ok (.i2l, 1) := od_133  (by decide +kernel)
theorem dX11_bill_76 : decode cX11_bill 76 = .ok (.invokevirtual 238, 3) := od_182 (a := 0) (b := 238) (by decide +kernel) (by decide)
theorem dX11_bill_79 : decode cX11_bill 79 = .ok (.aload_n 0, 1) := od_42  (by decide +kernel)
theorem dX11_bill_80 : decode cX11_bill 80 = .ok (.iconst 0, 1) := od_3  (by decide +kernel)
theorem dX11_bill_81 : decode cX11_bill 81 = .ok (.invokevirtual 73, 3) := od_182 (a := 0) (b := 73) (by decide +kernel) (by decide)
theorem dX11_bill_84 : decode cX11_bill 84 = .ok (.ireturn, 1) := od_172  (by decide +kernel)
theorem dX11_refuse_0 : decode cX11_refuse 0 = .ok (.aload_n 0, 1) := od_42  (by decide +kernel)
theorem dX11_refuse_1 : decode cX11_refuse 1 = .ok (.iload_n 1, 1) := od_27  (by decide +kernel)
theorem dX11_refuse_2 : decode cX11_refuse 2 = .ok (.putfield 354, 3) := od_181 (a := 1) (b := 98) (by decide +kernel) (by decide)
theorem dX11_refuse_5 : decode cX11_refuse 5 = .ok (.iload_n 1, 1) := od_27  (by decide +kernel)
theorem dX11_refuse_6 : decode cX11_refuse 6 = .ok (.ireturn, 1) := od_172  (by decide +kernel)
theorem dX11_accept_0 : decode cX11_accept 0 = .ok (.aload_n 0, 1) := od_42  (by decide +kernel)
theorem dX11_accept_1 : decode cX11_accept 1 = .ok (.iconst 0, 1) := od_3  (by decide +kernel)
theorem dX11_accept_2 : decode cX11_accept 2 = .ok (.putfield 354, 3) := od_181 (a := 1) (b := 98) (by decide +kernel) (by decide)
theorem dX11_accept_5 : decode cX11_accept 5 = .ok (.iload_n 1, 1) := od_27  (by decide +kernel)
theorem dX11_accept_6 : decode cX11_accept 6 = .ok (.ireturn, 1) := od_172  (by decide +kernel)
theorem gX11_acceptOrFull_X11_refuse : GoodIn WALL (wsV RX11 55 RX11 yX11_refuse wqX11_refuse) := wg_V wa_183 wa_184 wa_185 wa_2 wa_186
theorem gX11_acceptOrFull_X11_accept : GoodIn WALL (wsV RX11 73 RX11 yX11_accept wqX11_accept) := wg_V wa_201 wa_202 wa_203 wa_2 wa_204
theorem dX11_acceptOrFull_0 : decode cX11_acceptOrFull 0 = .ok (.iload_n 1, 1) := od_27  (by decide +kernel)
theorem dX11_acceptOrFull_1 : decode cX11_acceptOrFull 1 = .ok (.iconst (-1), 1) := od_2  (by decide +kernel)
theorem dX11_acceptOrFull_2 : decode cX11_acceptOrFull 2 = .ok (.if_icmp .ne 12, 3) := od_160 (a := 0) (b := 12) (by decide +kernel) (by decide +kernel)
theorem dX11_acceptOrFull_5 : decode cX11_acceptOrFull 5 = .ok (.aload_n 0, 1) := od_42  (by decide +kernel)
theorem dX11_acceptOrFull_6 : decode cX11_acceptOrFull 6 = .ok (.bipush (-5), 2) := od_16 (a := 251) (by decide +kernel) (by decide +kernel)
theorem dX11_acceptOrFull_8 : decode cX11_acceptOrFull 8 = .ok (.invokevirtual 55, 3) := od_182 (a := 0) (b := 55) (by decide +kernel) (by decide)
theorem dX11_acceptOrFull_11 : decode cX11_acceptOrFull 11 = .ok (.goto 8, 3) := od_167 (a := 0) (b := 8) (by decide +kernel) (by decide +kernel)
theorem dX11_acceptOrFull_14 : decode cX11_acceptOrFull 14 = .ok (.aload_n 0, 1) := od_42  (by decide +kernel)
theorem dX11_acceptOrFull_15 : decode cX11_acceptOrFull 15 = .ok (.iload_n 1, 1) := od_27  (by decide +kernel)
theorem dX11_acceptOrFull_16 : decode cX11_acceptOrFull 16 = .ok (.invokevirtual 73, 3) := od_182 (a := 0) (b := 73) (by decide +kernel) (by decide)
theorem dX11_acceptOrFull_19 : decode cX11_acceptOrFull 19 = .ok (.ireturn, 1) := od_172  (by decide +kernel)
end

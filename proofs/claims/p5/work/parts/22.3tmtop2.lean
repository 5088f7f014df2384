set_option maxHeartbeats 4000000 in
set_option maxRecDepth 100000 in
theorem t_X12_order (l : Launch) (dC : Nat → ClassId) (dI : Nat → Nat → Nat) (sz : Nat) (κ : Nat → ClassId) (τ ν : Nat → Nat) (ρ : Nat → Nat → Nat) (L : List Nat) (f : Nat → va_E) (hG : tp_G τ ν ρ L) (hT : tp_T (mo_O κ) κ τ ν ρ f) (h0 : Nat) (v : Int32) (u : Int32) (a : Int32) (ht_h0 : τ h0 = 13) (hJ : mo_RI (-1) 0 (mo_R (mo_i (f (ρ h0 2))))) : Met l yX12_order wqX12_order ({ frames := 4, cells := 0, slots := 0, locals := 1200 }) (va_Pc [.ref h0, .int v, .int u, .int a] (pz_B dC dI (tp_K κ) (va_pl L f) sz)) (va_Qi (fun (r : Int32) (f1 : Nat → va_E) => tp_T (mo_O κ) κ τ ν ρ f1 ∧ tp_F τ [13, 32] f f1 ∧ True ∧ mo_RI (-1) 0 (mo_R (mo_i (f1 (ρ h0 2))))) (fun (f1 : Nat → va_E) (t : State) => pz_E dC dI (tp_K κ) (va_A (va_pl L f) sz) (va_pl L f1) t) (va_A (va_pl L f) sz)) 0 0 (va_A (va_pl L f) sz) := by
  refine Met.ofW (cc := cX12_order) (maxL := 7) (ret := some .int) (by decide) rfl ?_
  intro p e s m args below meth c s₁ B hml hv
  obtain ⟨rfl, hsz, hP, hK, hD0, hN⟩ := hv
  have hx := B.exec
  have hb := B.bytes
  have hr := B.returns
  have hts := fun (w : Cond) (h : w ∈ WALL) => atoms_spec (ws := wqX12_order) B.pre w (List.mem_cons_of_mem _ h)
  have hown : s.vm.findClass RX12 = some m.cls := findClass_of_methodNamed B.named
  have hlocks := B.notSynchronized
  subst hsz
  have hD := hD0.self (sz := s.heap.size)
  generalize hAe : va_A (va_pl L f) s.heap.size = A at hD ⊢
  have hA : ∀ q : Nat, s.heap.size ≤ q → A q := fun q h => by rw [← hAe]; exact Or.inr h
  have hS : va_S A s.heap s.heap [] := va_S.rf
  have hR : tp_F τ [13, 32] f f := tp_F.rf
  have hl := lv_entry ([.ref h0, .int v, .int u, .int a]) (n := 7) (Nat.le_of_ble_eq_true rfl)
  rw [lg_entry_eq]
  generalize (lg_sl ([.ref h0, .int v, .int u, .int a]) ++ List.replicate (7 - (lg_sl ([.ref h0, .int v, .int u, .int a])).length) Slot.unset).toArray = ls at hl ⊢
  have hl : lv_has ls 7 [(0, .ref h0), (1, .int v), (2, .int u), (3, .int a)] := hl
  refine tgk_13 hG ht_h0 (fun y1 y2 y3 y4 y5 y6 y7 y8 y9 y10 y11 y12 y13 y14 y15 y16 y17 y18 y19 y20 y21 y22 y23 y24 y25 => ?_)
  refine tpk_32 hT y1 (fun g27 hf_o26 => ?_)
  have hI : mo_RI (-1) 0 (mo_R g27) := by have q9 := hJ; rw [hf_o26, mo_i1] at q9; exact q9
  obtain ⟨n1, en1⟩ : ∃ n : Int, n = mo_R g27 (1) := ⟨_, rfl⟩
  have kn1 := hI.k1
  refine lv_aload_n hx hb dX12_order_0 rfl (lv_at hl 0 rfl) ?_
  refine lv_iconst (v := 0) hx hb dX12_order_1 (by decide) ?_
  refine tpk_13 hT ht_h0 (fun o28_x0 o28_x1 o28_x7 o28_x9 o28_x10 o28_x11 o28_x12 o28_x13 o28_x14 o28_x15 o28_x16 o28_x17 o28_x18 o28_x19 o28_x20 o28_x22 o28_x25 o28_x28 o28_x29 o28_x32 o28_x33 o28_x34 o28_x35 o28_x36 o28_x37 o28_x38 o28_x47 o28_x48 hf_o28 ro28_0 ro28_1 ro28_2 ro28_3 ro28_4 ro28_5 ro28_6 ro28_7 ro28_8 ro28_9 ro28_10 ro28_11 ro28_12 ro28_13 => ?_)
  refine tpk_pos (tp_in hG ht_h0 (by decide)) hf_o28 (fun q29 eq29 => ?_)
  refine va_put (D := (dC, dI)) (ci := 12) (v := .int 0) (ty := .int) (C := RX12) (T := TX12) (N := 53) hx hb hts hfX12 tyX12 tyX12_ok nmX12 hown hK hP hD hS q29 eq29 rfl 0 (by decide) (hts (.fieldLink RX12 91 "ColdShipsModel" "thrown" "I") wa_209) (fun _ h9 => h9) rfl (tyX12_ok 0 (by decide)) rfl rfl (Nat.le_of_ble_eq_true rfl) dX12_order_2 (tp_k (.inr (12, [.int 0, .int o28_x1, .ref (ρ h0 2), .ref (ρ h0 3), .ref (ρ h0 4), .ref (ρ h0 5), .ref (ρ h0 6), .int o28_x7, .ref (ρ h0 8), .int o28_x9, .int o28_x10, .int o28_x11, .int o28_x12, .long o28_x13, .int o28_x14, .int o28_x15, .int o28_x16, .int o28_x17, .int o28_x18, .int o28_x19, .int o28_x20, .ref (ρ h0 21), .int o28_x22, .ref (ρ h0 23), .ref (ρ h0 24), .int o28_x25, .ref (ρ h0 26), .ref (ρ h0 27), .int o28_x28, .int o28_x29, .ref (ρ h0 30), .ref (ρ h0 31), .int o28_x32, .long o28_x33, .long o28_x34, .long o28_x35, .int o28_x36, .int o28_x37, .int o28_x38, .ref (ρ h0 39), .ref (ρ h0 40), .ref (ρ h0 41), .ref (ρ h0 42), .ref (ρ h0 43), .ref (ρ h0 44), .ref (ρ h0 45), .ref (ρ h0 46), .int o28_x47, .int o28_x48, .ref (ρ h0 49), .ref (ρ h0 50), .ref (ρ h0 51), .ref (ρ h0 52)])) hD (tp_in hG ht_h0 (by decide)) eq29 (fun f30 H locs hP hD hS g32 k31 => ?_))
  have hT := hT.up ht_h0 g32 k31 ⟨_, _, _, _, _, _, _, _, _, _, _, _, _, _, _, _, _, _, _, _, _, _, _, _, _, _, _, _, rfl, ro28_0, ro28_1, ro28_2, ro28_3, ro28_4, ro28_5, ro28_6, ro28_7, ro28_8, ro28_9, ro28_10, ro28_11, ro28_12, ro28_13⟩
  have hR := hR.up ht_h0 (by decide) k31
  refine lv_iload_n hx hb dX12_order_5 rfl (lv_at hl 2 rfl) ?_
  refine lv_i2l hx hb dX12_order_6 rfl ?_
  refine lv_lconst (v := 0) hx hb dX12_order_7 (by decide) ?_
  refine lv_ldc2 (own := RX12) (v := 3) hx hb hown (hts (.constantLong RX12 152 (3)) wa_391) dX12_order_8 ?_
  have hf_33 : f30 (ρ h0 2) = .inl (κ 0, 12967, .inl g27) := (k31 _ (tp_ne y1 ht_h0 (by decide))).trans hf_o26
  refine pz_calli (va_runS (As := [.long u.toInt64, .long 0, .long 3]) (rest := []) ⟨hx, hb, hml, hown, hts⟩ (t_X12_in l dC dI _ u.toInt64 (0) (3) (u.toInt) (0) (3) (Int32.toInt_toInt64 u) rfl rfl) (va_cwS 3 hts gX12_order_X12_in rfl rfl rfl pd_X12_in ⟨Nat.le_of_ble_eq_true rfl, Nat.le_of_ble_eq_true rfl⟩) ⟨pz_blind, pz_pre pz_P0 (hK.sub (tys' := []) [] rfl) (pz_D0 (A := fun _ => True)) hN⟩ rfl rfl hl.1 rfl (lv_room (Nat.le_of_ble_eq_true rfl)) dX12_order_11 ⟨Nat.le_of_ble_eq_true rfl, Nat.le_of_ble_eq_true rfl⟩) (fun r34 hw35 => ?_)
  obtain ⟨hw35r, hw35p⟩ := hw35
  refine lv_if_eq (tgt := 52) hx hb dX12_order_14 (by decide) (fun c36 => ?_) (fun c36 => ?_)
  · have ic36 : r34.toInt = 0 := zi_eq rfl rfl c36
    refine lv_iconst (v := 0) hx hb dX12_order_52 (by decide) ?_
    refine lv_istore (lv' := [(4, .int 0), (0, .ref h0), (1, .int v), (2, .int u), (3, .int a)]) hx hb dX12_order_53 hl (by decide) rfl (fun ls hl => ?_)
    refine lv_iload hx hb dX12_order_55 (lv_at hl 0 rfl) ?_
    refine lv_if_ne (tgt := 66) hx hb dX12_order_57 (by decide) (fun c9 => absurd c9 (by decide)) (fun _ => ?_)
    refine lv_aload_n hx hb dX12_order_60 rfl (lv_at hl 1 rfl) ?_
    refine lv_iconst (v := (-1)) hx hb dX12_order_61 (by decide) ?_
    refine tpk_pos (tp_in hG ht_h0 (by decide)) g32 (fun q37 eq37 => ?_)
    have hFc := tp_fr hD hS hA
    refine va_calli (va_runV (As := [.int (-1)]) (rest := []) ⟨hx, hb, hml, hown, hts⟩ (t_X12_told l dC dI _ κ τ ν ρ L f30 hG hT h0 ((-1)) ht_h0) (cwV 1 hts gX12_order_X12_told rfl rfl rfl ⟨rfl, pd_X12_told⟩ ⟨Nat.le_of_ble_eq_true rfl, Nat.le_of_ble_eq_true rfl⟩) ⟨pz_blind, va_recv hK hP (ci := 12) (q0 := q37) rfl eq37, pz_pre hP hK hD hN⟩ rfl rfl hl.1 rfl (lv_room (Nat.le_of_ble_eq_true rfl)) dX12_order_62 ⟨Nat.le_of_ble_eq_true rfl, Nat.le_of_ble_eq_true rfl⟩) hS (fun q _ h => hFc q h) hFc (fun r38 f40 t H1 locs ht hvm hw39 hB hz1 hk1 hS => ?_)
    refine tn_4 hw39 (fun hT hF41 hw39r hw39p => ?_); clear hw39
    have hR := hR.then hF41 (by decide)
    have hP := hB.1; rw [ht] at hP; have hD := tp_ad f40 hD; clear hB hFc hz1 hk1; subst ht; generalize t.heap = H at hP hS ⊢
    have hw39pq : r38.toInt = (-1) := by rw [hw39p]; rfl
    have hf_42 : f40 (ρ h0 2) = .inl (κ 0, 12967, .inl g27) := (hF41 _ (by rw [y1]; decide)).trans hf_33
    exact W.iret (v := r38) hx hb hr (fun t ht hW => ⟨⟨r38, f40, rfl, ⟨hT, hR, trivial, (by rw [hf_42, mo_i1]; exact hI)⟩, by rw [ht]; exact hP, va_K.moved hW.alike hK, hD⟩, hS.F ht⟩) hS.2.2 dX12_order_65
  · have ic36 : r34.toInt ≠ 0 := zi_eqf rfl rfl c36
    replace ic36 : 1 ≤ r34.toInt := by omega
    have p43 : (0) ≤ (u.toInt) ∧ (u.toInt) ≤ (3) := (tp_cond.yes hw35p) (by omega)
    refine lv_iload_n hx hb dX12_order_17 rfl (lv_at hl 2 rfl) ?_
    refine lv_if_eq (tgt := 48) hx hb dX12_order_18 (by decide) (fun c44 => ?_) (fun c44 => ?_)
    · have ic44 : u.toInt = 0 := zi_eq rfl rfl c44
      refine lv_iconst (v := 1) hx hb dX12_order_48 (by decide) ?_
      refine lv_goto (tgt := 53) hx hb dX12_order_49 (by decide) ?_
      refine lv_istore (lv' := [(4, .int 1), (0, .ref h0), (1, .int v), (2, .int u), (3, .int a)]) hx hb dX12_order_53 hl (by decide) rfl (fun ls hl => ?_)
      refine lv_iload hx hb dX12_order_55 (lv_at hl 0 rfl) ?_
      refine lv_if_ne (tgt := 66) hx hb dX12_order_57 (by decide) (fun _ => ?_) (fun c9 => absurd c9 (by decide))
      refine lv_aload_n hx hb dX12_order_66 rfl (lv_at hl 1 rfl) ?_
      refine lv_iload_n hx hb dX12_order_67 rfl (lv_at hl 2 rfl) ?_
      refine tpk_pos (tp_in hG ht_h0 (by decide)) g32 (fun q45 eq45 => ?_)
      refine pz_calli (va_runV (As := [.int v]) (rest := []) ⟨hx, hb, hml, hown, hts⟩ (t_X12_isShip l dC dI _ κ τ ν ρ L f30 hG hT h0 v (-1) 0 ht_h0 (by omega) (by rw [hf_33, mo_i1]; exact hI)) (cwV 1 hts gX12_order_X12_isShip rfl rfl rfl ⟨rfl, pd_X12_isShip⟩ ⟨Nat.le_of_ble_eq_true rfl, Nat.le_of_ble_eq_true rfl⟩) ⟨pz_blind, va_recv hK hP (ci := 12) (q0 := q45) rfl eq45, pz_pre hP hK hD hN⟩ rfl rfl hl.1 rfl (lv_room (Nat.le_of_ble_eq_true rfl)) dX12_order_68 ⟨Nat.le_of_ble_eq_true rfl, Nat.le_of_ble_eq_true rfl⟩) (fun r46 hw47 => ?_)
      obtain ⟨hw47r, hw47p⟩ := hw47
      have := hI.k1
      rw [hf_33, mo_i1] at hw47p
      refine lv_if_eq (tgt := 86) hx hb dX12_order_71 (by decide) (fun c48 => ?_) (fun c48 => ?_)
      · have ic48 : r46.toInt = 0 := zi_eq rfl rfl c48
        refine lv_aload_n hx hb dX12_order_86 rfl (lv_at hl 1 rfl) ?_
        refine lv_bipush (v := (-2)) hx hb dX12_order_87 (by decide) ?_
        have hFc := tp_fr hD hS hA
        refine va_calli (va_runV (As := [.int (-2)]) (rest := []) ⟨hx, hb, hml, hown, hts⟩ (t_X12_told l dC dI _ κ τ ν ρ L f30 hG hT h0 ((-2)) ht_h0) (cwV 1 hts gX12_order_X12_told rfl rfl rfl ⟨rfl, pd_X12_told⟩ ⟨Nat.le_of_ble_eq_true rfl, Nat.le_of_ble_eq_true rfl⟩) ⟨pz_blind, va_recv hK hP (ci := 12) (q0 := q45) rfl eq45, pz_pre hP hK hD hN⟩ rfl rfl hl.1 rfl (lv_room (Nat.le_of_ble_eq_true rfl)) dX12_order_89 ⟨Nat.le_of_ble_eq_true rfl, Nat.le_of_ble_eq_true rfl⟩) hS (fun q _ h => hFc q h) hFc (fun r49 f51 t H1 locs ht hvm hw50 hB hz1 hk1 hS => ?_)
        refine tn_4 hw50 (fun hT hF52 hw50r hw50p => ?_); clear hw50
        have hR := hR.then hF52 (by decide)
        have hP := hB.1; rw [ht] at hP; have hD := tp_ad f51 hD; clear hB hFc hz1 hk1; subst ht; generalize t.heap = H at hP hS ⊢
        have hw50pq : r49.toInt = (-2) := by rw [hw50p]; rfl
        have hf_53 : f51 (ρ h0 2) = .inl (κ 0, 12967, .inl g27) := (hF52 _ (by rw [y1]; decide)).trans hf_33
        exact W.iret (v := r49) hx hb hr (fun t ht hW => ⟨⟨r49, f51, rfl, ⟨hT, hR, trivial, (by rw [hf_53, mo_i1]; exact hI)⟩, by rw [ht]; exact hP, va_K.moved hW.alike hK, hD⟩, hS.F ht⟩) hS.2.2 dX12_order_92
      · have ic48 : r46.toInt ≠ 0 := zi_eqf rfl rfl c48
        replace ic48 : 1 ≤ r46.toInt := by omega
        have p54 : 0 ≤ v.toInt ∧ v.toInt < mo_R g27 1 := (tp_cond.yes hw47p) (by omega)
        refine lv_iload_n hx hb dX12_order_74 rfl (lv_at hl 3 rfl) ?_
        refine lv_if_ne (tgt := 93) hx hb dX12_order_75 (by decide) (fun c55 => ?_) (fun c55 => ?_)
        · have ic55 : u.toInt ≠ 0 := zi_ne rfl rfl c55
          exfalso; omega
        · have ic55 : u.toInt = 0 := zi_nef rfl rfl c55
          refine lv_aload_n hx hb dX12_order_78 rfl (lv_at hl 1 rfl) ?_
          refine lv_iload_n hx hb dX12_order_79 rfl (lv_at hl 4 rfl) ?_
          refine pz_calli (va_runV (As := [.int a]) (rest := []) ⟨hx, hb, hml, hown, hts⟩ (t_X12_isTerminal l dC dI _ κ τ ν ρ L f30 hG hT h0 a (-1) 0 ht_h0 (by omega) (by rw [hf_33, mo_i1]; exact hI)) (cwV 1 hts gX12_order_X12_isTerminal rfl rfl rfl ⟨rfl, pd_X12_isTerminal⟩ ⟨Nat.le_of_ble_eq_true rfl, Nat.le_of_ble_eq_true rfl⟩) ⟨pz_blind, va_recv hK hP (ci := 12) (q0 := q45) rfl eq45, pz_pre hP hK hD hN⟩ rfl rfl hl.1 rfl (lv_room (Nat.le_of_ble_eq_true rfl)) dX12_order_80 ⟨Nat.le_of_ble_eq_true rfl, Nat.le_of_ble_eq_true rfl⟩) (fun r56 hw57 => ?_)
          obtain ⟨hw57r, hw57p⟩ := hw57
          have := hI.k0
          rw [hf_33, mo_i1] at hw57p
          refine lv_if_ne (tgt := 93) hx hb dX12_order_83 (by decide) (fun c58 => ?_) (fun c58 => ?_)
          · have ic58 : r56.toInt ≠ 0 := zi_ne rfl rfl c58
            replace ic58 : 1 ≤ r56.toInt := by omega
            have p59 : 0 ≤ a.toInt ∧ a.toInt < mo_R g27 0 := (tp_cond.yes hw57p) (by omega)
            refine lv_iload_n hx hb dX12_order_93 rfl (lv_at hl 2 rfl) ?_
            refine pz_calli (va_runS (As := [.int v]) (rest := []) ⟨hx, hb, hml, hown, hts⟩ (t_X12_shipAt l dC dI _ v (v.toInt) (by omega) rfl) (va_cwS 1 hts gX12_order_X12_shipAt rfl rfl rfl pd_X12_shipAt ⟨Nat.le_of_ble_eq_true rfl, Nat.le_of_ble_eq_true rfl⟩) ⟨pz_blind, pz_pre pz_P0 (hK.sub (tys' := []) [] rfl) (pz_D0 (A := fun _ => True)) hN⟩ rfl rfl hl.1 rfl (lv_room (Nat.le_of_ble_eq_true rfl)) dX12_order_94 ⟨Nat.le_of_ble_eq_true rfl, Nat.le_of_ble_eq_true rfl⟩) (fun r60 hw61 => ?_)
            obtain ⟨hw61r, hw61p⟩ := hw61
            refine lv_istore (lv' := [(5, .int r60), (4, .int 1), (0, .ref h0), (1, .int v), (2, .int u), (3, .int a)]) hx hb dX12_order_97 hl (by decide) rfl (fun ls hl => ?_)
            refine lv_aload_n hx hb dX12_order_99 rfl (lv_at hl 2 rfl) ?_
            refine va_get (D := (dC, dI)) (ci := 12) (v := .ref (ρ h0 2)) (C := RX12) (T := TX12) (N := 53) hx hb hts hfX12 hown hK hP q45 eq45 rfl 2 (by decide) (hts (.fieldLink RX12 7 "ColdShipsModel" "row" "[I") wa_148) (fun _ h9 => h9) rfl dX12_order_100 ?_
            refine lv_iload hx hb dX12_order_103 (lv_at hl 0 rfl) ?_
            refine lv_bipush (v := 10) hx hb dX12_order_105 (by decide) ?_
            refine lv_iadd hx hb dX12_order_107 ?_
            refine lv_topi (fun z62 ez62 => ?_)
            have iz62 : z62.toInt = r60.toInt + 10 := zi_add ez62 rfl rfl (by omega) (by omega)
            refine tpk_pos (tp_in hG y1 (by decide)) hf_33 (fun q63 eq63 => ?_)
            refine va_iald hx hb hK hP q63 0 eq63 rfl (vp_in_iff.mpr ⟨by omega, by omega⟩) dX12_order_108 ?_
            refine lv_topi (fun z64 ez64 => ?_)
            have jz64 : z64.toInt = mo_R g27 (547 + 84 * v.toInt + 10) := mo_rd ez64 (by omega)
            have kz64 := hI.SO (s := v.toInt) (by omega) (by omega)
            refine lv_bipush (v := 20) hx hb dX12_order_109 (by decide) ?_
            refine lv_icmp_eq (tgt := 126) hx hb dX12_order_111 (by decide) (fun c65 => ?_) (fun c65 => ?_)
            · have ic65 : z64.toInt = 20 := zi_eq rfl rfl c65
              refine lv_aload_n hx hb dX12_order_126 rfl (lv_at hl 2 rfl) ?_
              refine lv_bipush (v := (-5)) hx hb dX12_order_127 (by decide) ?_
              have hFc := tp_fr hD hS hA
              refine va_calli (va_runV (As := [.int (-5)]) (rest := []) ⟨hx, hb, hml, hown, hts⟩ (t_X12_told l dC dI _ κ τ ν ρ L f30 hG hT h0 ((-5)) ht_h0) (cwV 1 hts gX12_order_X12_told rfl rfl rfl ⟨rfl, pd_X12_told⟩ ⟨Nat.le_of_ble_eq_true rfl, Nat.le_of_ble_eq_true rfl⟩) ⟨pz_blind, va_recv hK hP (ci := 12) (q0 := q45) rfl eq45, pz_pre hP hK hD hN⟩ rfl rfl hl.1 rfl (lv_room (Nat.le_of_ble_eq_true rfl)) dX12_order_129 ⟨Nat.le_of_ble_eq_true rfl, Nat.le_of_ble_eq_true rfl⟩) hS (fun q _ h => hFc q h) hFc (fun r66 f68 t H1 locs ht hvm hw67 hB hz1 hk1 hS => ?_)
              refine tn_4 hw67 (fun hT hF69 hw67r hw67p => ?_); clear hw67
              have hR := hR.then hF69 (by decide)
              have hP := hB.1; rw [ht] at hP; have hD := tp_ad f68 hD; clear hB hFc hz1 hk1; subst ht; generalize t.heap = H at hP hS ⊢
              have hw67pq : r66.toInt = (-5) := by rw [hw67p]; rfl
              have hf_70 : f68 (ρ h0 2) = .inl (κ 0, 12967, .inl g27) := (hF69 _ (by rw [y1]; decide)).trans hf_33
              exact W.iret (v := r66) hx hb hr (fun t ht hW => ⟨⟨r66, f68, rfl, ⟨hT, hR, trivial, (by rw [hf_70, mo_i1]; exact hI)⟩, by rw [ht]; exact hP, va_K.moved hW.alike hK, hD⟩, hS.F ht⟩) hS.2.2 dX12_order_132
            · have ic65 : z64.toInt ≠ 20 := zi_eqf rfl rfl c65
              replace ic65 : z64.toInt ≤ 19 := by omega
              refine lv_aload_n hx hb dX12_order_114 rfl (lv_at hl 2 rfl) ?_
              refine va_get (D := (dC, dI)) (ci := 12) (v := .ref (ρ h0 2)) (C := RX12) (T := TX12) (N := 53) hx hb hts hfX12 hown hK hP q45 eq45 rfl 2 (by decide) (hts (.fieldLink RX12 7 "ColdShipsModel" "row" "[I") wa_148) (fun _ h9 => h9) rfl dX12_order_115 ?_
              refine lv_iconst (v := 4) hx hb dX12_order_118 (by decide) ?_
              refine va_iald hx hb hK hP q63 0 eq63 rfl (vp_in_iff.mpr ⟨by decide, by decide⟩) dX12_order_119 ?_
              refine lv_topi (fun z71 ez71 => ?_)
              refine lv_sipush (v := 400) hx hb dX12_order_120 (by decide) ?_
              refine lv_icmp_ne (tgt := 133) hx hb dX12_order_123 (by decide) (fun c72 => ?_) (fun c72 => ?_)
              · have ic72 : z71.toInt ≠ 400 := zi_ne rfl rfl c72
                refine lv_iload hx hb dX12_order_133 (lv_at hl 0 rfl) ?_
                refine lv_bipush (v := 44) hx hb dX12_order_135 (by decide) ?_
                refine lv_iadd hx hb dX12_order_137 ?_
                refine lv_topi (fun z73 ez73 => ?_)
                have iz73 : z73.toInt = r60.toInt + 44 := zi_add ez73 rfl rfl (by omega) (by omega)
                refine lv_iconst (v := 2) hx hb dX12_order_138 (by decide) ?_
                refine lv_aload_n hx hb dX12_order_139 rfl (lv_at hl 2 rfl) ?_
                refine va_get (D := (dC, dI)) (ci := 12) (v := .ref (ρ h0 2)) (C := RX12) (T := TX12) (N := 53) hx hb hts hfX12 hown hK hP q45 eq45 rfl 2 (by decide) (hts (.fieldLink RX12 7 "ColdShipsModel" "row" "[I") wa_148) (fun _ h9 => h9) rfl dX12_order_140 ?_
                refine lv_iload hx hb dX12_order_143 (lv_at hl 0 rfl) ?_
                refine lv_bipush (v := 10) hx hb dX12_order_145 (by decide) ?_
                refine lv_iadd hx hb dX12_order_147 ?_
                refine lv_topi (fun z74 ez74 => ?_)
                have iz74 : z74.toInt = r60.toInt + 10 := zi_add ez74 rfl rfl (by omega) (by omega)
                refine va_iald hx hb hK hP q63 0 eq63 rfl (vp_in_iff.mpr ⟨by omega, by omega⟩) dX12_order_148 ?_
                refine lv_topi (fun z75 ez75 => ?_)
                have jz75 : z75.toInt = mo_R g27 (547 + 84 * v.toInt + 10) := mo_rd ez75 (by omega)
                have kz75 := hI.SO (s := v.toInt) (by omega) (by omega)
                have vz75 : z75.toInt = z64.toInt := jz75.trans (jz64).symm
                refine lv_imul hx hb dX12_order_149 ?_
                refine lv_topi (fun z76 ez76 => ?_)
                have iz76 : z76.toInt = 2 * z75.toInt := zi_mul ez76 rfl rfl (by omega) (by omega)
                refine lv_iadd hx hb dX12_order_150 ?_
                refine lv_topi (fun z77 ez77 => ?_)
                have iz77 : z77.toInt = z73.toInt + z76.toInt := zi_add ez77 rfl rfl (by omega) (by omega)
                refine lv_istore (lv' := [(6, .int z77), (5, .int r60), (4, .int 1), (0, .ref h0), (1, .int v), (2, .int u), (3, .int a)]) hx hb dX12_order_151 hl (by decide) rfl (fun ls hl => ?_)
                refine lv_aload_n hx hb dX12_order_153 rfl (lv_at hl 3 rfl) ?_
                refine va_get (D := (dC, dI)) (ci := 12) (v := .ref (ρ h0 2)) (C := RX12) (T := TX12) (N := 53) hx hb hts hfX12 hown hK hP q45 eq45 rfl 2 (by decide) (hts (.fieldLink RX12 7 "ColdShipsModel" "row" "[I") wa_148) (fun _ h9 => h9) rfl dX12_order_154 ?_
                refine lv_iload hx hb dX12_order_157 (lv_at hl 0 rfl) ?_
                refine lv_iload_n hx hb dX12_order_159 rfl (lv_at hl 5 rfl) ?_
                refine va_iast hx hb hK hP hD hS q63 0 eq63 rfl (vp_in_iff.mpr ⟨by omega, by omega⟩) dX12_order_160 (tp_k (.inl (κ 0, 12967, .inl (upd g27 z77.toNatClampNeg u))) hD (tp_in hG y1 (by decide)) eq63 (fun f78 H locs hP hD hS g80 k79 => ?_))
                have hT := hT.up y1 g80 k79 tp_o32
                have hR := hR.up y1 (by decide) k79
                have hU : mo_U (mo_R g27) (mo_R (upd g27 z77.toNatClampNeg u)) (547 + 84 * v.toInt + 44 + 2 * z64.toInt) (u.toInt) := mo_up (by omega) (rfl : u.toInt = _) (by omega)
                generalize (upd g27 z77.toNatClampNeg u) = g81 at g80 hU
                have hI := mo_w_ord hI hU v.toInt (0 + 2 * z64.toInt) (by omega) (by omega) (by omega)
                have pn82 : mo_R g81 (1) = n1 := (hU.ne (by omega) (by omega)).trans en1.symm
                have pn83 : mo_R g81 (547 + 84 * v.toInt + 10) = z64.toInt := (hU.ne (by omega) (by omega)).trans (jz64).symm
                have pn84 : mo_R g81 (547 + 84 * v.toInt + 44 + 2 * z64.toInt) = u.toInt := hU.eq (by omega)
                refine lv_aload_n hx hb dX12_order_161 rfl (lv_at hl 3 rfl) ?_
                have hf_85 : f78 h0 = .inr (12, [.int 0, .int o28_x1, .ref (ρ h0 2), .ref (ρ h0 3), .ref (ρ h0 4), .ref (ρ h0 5), .ref (ρ h0 6), .int o28_x7, .ref (ρ h0 8), .int o28_x9, .int o28_x10, .int o28_x11, .int o28_x12, .long o28_x13, .int o28_x14, .int o28_x15, .int o28_x16, .int o28_x17, .int o28_x18, .int o28_x19, .int o28_x20, .ref (ρ h0 21), .int o28_x22, .ref (ρ h0 23), .ref (ρ h0 24), .int o28_x25, .ref (ρ h0 26), .ref (ρ h0 27), .int o28_x28, .int o28_x29, .ref (ρ h0 30), .ref (ρ h0 31), .int o28_x32, .long o28_x33, .long o28_x34, .long o28_x35, .int o28_x36, .int o28_x37, .int o28_x38, .ref (ρ h0 39), .ref (ρ h0 40), .ref (ρ h0 41), .ref (ρ h0 42), .ref (ρ h0 43), .ref (ρ h0 44), .ref (ρ h0 45), .ref (ρ h0 46), .int o28_x47, .int o28_x48, .ref (ρ h0 49), .ref (ρ h0 50), .ref (ρ h0 51), .ref (ρ h0 52)]) := (k79 _ (tp_ne ht_h0 y1 (by decide))).trans g32
                refine tpk_pos (tp_in hG ht_h0 (by decide)) hf_85 (fun q86 eq86 => ?_)
                refine va_get (D := (dC, dI)) (ci := 12) (v := .ref (ρ h0 2)) (C := RX12) (T := TX12) (N := 53) hx hb hts hfX12 hown hK hP q86 eq86 rfl 2 (by decide) (hts (.fieldLink RX12 7 "ColdShipsModel" "row" "[I") wa_148) (fun _ h9 => h9) rfl dX12_order_162 ?_
                refine lv_iload hx hb dX12_order_165 (lv_at hl 0 rfl) ?_
                refine lv_iconst (v := 1) hx hb dX12_order_167 (by decide) ?_
                refine lv_iadd hx hb dX12_order_168 ?_
                refine lv_topi (fun z87 ez87 => ?_)
                have iz87 : z87.toInt = z77.toInt + 1 := zi_add ez87 rfl rfl (by omega) (by omega)
                refine lv_iload_n hx hb dX12_order_169 rfl (lv_at hl 6 rfl) ?_
                refine tpk_pos (tp_in hG y1 (by decide)) g80 (fun q88 eq88 => ?_)
                refine va_iast hx hb hK hP hD hS q88 0 eq88 rfl (vp_in_iff.mpr ⟨by omega, by omega⟩) dX12_order_170 (tp_k (.inl (κ 0, 12967, .inl (upd g81 z87.toNatClampNeg a))) hD (tp_in hG y1 (by decide)) eq88 (fun f89 H locs hP hD hS g91 k90 => ?_))
                have hT := hT.up y1 g91 k90 tp_o32
                have hR := hR.up y1 (by decide) k90
                have hU : mo_U (mo_R g81) (mo_R (upd g81 z87.toNatClampNeg a)) (547 + 84 * v.toInt + 45 + 2 * z64.toInt) (a.toInt) := mo_up (by omega) (rfl : a.toInt = _) (by omega)
                generalize (upd g81 z87.toNatClampNeg a) = g92 at g91 hU
                have hI := mo_w_ord hI hU v.toInt (1 + 2 * z64.toInt) (by omega) (by omega) (by omega)
                have pn93 : mo_R g92 (1) = n1 := (hU.ne (by omega) (by omega)).trans pn82
                have pn94 : mo_R g92 (547 + 84 * v.toInt + 10) = z64.toInt := (hU.ne (by omega) (by omega)).trans pn83
                have pn95 : mo_R g92 (547 + 84 * v.toInt + 44 + 2 * z64.toInt) = u.toInt := (hU.ne (by omega) (by omega)).trans pn84
                have pn96 : mo_R g92 (547 + 84 * v.toInt + 45 + 2 * z64.toInt) = a.toInt := hU.eq (by omega)
                refine lv_aload_n hx hb dX12_order_171 rfl (lv_at hl 3 rfl) ?_
                have hf_97 : f89 h0 = .inr (12, [.int 0, .int o28_x1, .ref (ρ h0 2), .ref (ρ h0 3), .ref (ρ h0 4), .ref (ρ h0 5), .ref (ρ h0 6), .int o28_x7, .ref (ρ h0 8), .int o28_x9, .int o28_x10, .int o28_x11, .int o28_x12, .long o28_x13, .int o28_x14, .int o28_x15, .int o28_x16, .int o28_x17, .int o28_x18, .int o28_x19, .int o28_x20, .ref (ρ h0 21), .int o28_x22, .ref (ρ h0 23), .ref (ρ h0 24), .int o28_x25, .ref (ρ h0 26), .ref (ρ h0 27), .int o28_x28, .int o28_x29, .ref (ρ h0 30), .ref (ρ h0 31), .int o28_x32, .long o28_x33, .long o28_x34, .long o28_x35, .int o28_x36, .int o28_x37, .int o28_x38, .ref (ρ h0 39), .ref (ρ h0 40), .ref (ρ h0 41), .ref (ρ h0 42), .ref (ρ h0 43), .ref (ρ h0 44), .ref (ρ h0 45), .ref (ρ h0 46), .int o28_x47, .int o28_x48, .ref (ρ h0 49), .ref (ρ h0 50), .ref (ρ h0 51), .ref (ρ h0 52)]) := (k90 _ (tp_ne ht_h0 y1 (by decide))).trans hf_85
                refine tpk_pos (tp_in hG ht_h0 (by decide)) hf_97 (fun q98 eq98 => ?_)
                refine va_get (D := (dC, dI)) (ci := 12) (v := .ref (ρ h0 2)) (C := RX12) (T := TX12) (N := 53) hx hb hts hfX12 hown hK hP q98 eq98 rfl 2 (by decide) (hts (.fieldLink RX12 7 "ColdShipsModel" "row" "[I") wa_148) (fun _ h9 => h9) rfl dX12_order_172 ?_
                refine lv_iload hx hb dX12_order_175 (lv_at hl 1 rfl) ?_
                refine lv_bipush (v := 10) hx hb dX12_order_177 (by decide) ?_
                refine lv_iadd hx hb dX12_order_179 ?_
                refine lv_topi (fun z99 ez99 => ?_)
                have iz99 : z99.toInt = r60.toInt + 10 := zi_add ez99 rfl rfl (by omega) (by omega)
                refine lv_dup2_11 hx hb dX12_order_180 rfl rfl ?_
                refine tpk_pos (tp_in hG y1 (by decide)) g91 (fun q100 eq100 => ?_)
                refine va_iald hx hb hK hP q100 0 eq100 rfl (vp_in_iff.mpr ⟨by omega, by omega⟩) dX12_order_181 ?_
                refine lv_topi (fun z101 ez101 => ?_)
                have jz101 : z101.toInt = mo_R g92 (547 + 84 * v.toInt + 10) := mo_rd ez101 (by omega)
                have kz101 := hI.SO (s := v.toInt) (by omega) (by omega)
                have vz101 : z101.toInt = z64.toInt := jz101.trans pn94
                refine lv_iconst (v := 1) hx hb dX12_order_182 (by decide) ?_
                refine lv_iadd hx hb dX12_order_183 ?_
                refine lv_topi (fun z102 ez102 => ?_)
                have iz102 : z102.toInt = z101.toInt + 1 := zi_add ez102 rfl rfl (by omega) (by omega)
                refine va_iast hx hb hK hP hD hS q100 0 eq100 rfl (vp_in_iff.mpr ⟨by omega, by omega⟩) dX12_order_184 (tp_k (.inl (κ 0, 12967, .inl (upd g92 z99.toNatClampNeg z102))) hD (tp_in hG y1 (by decide)) eq100 (fun f103 H locs hP hD hS g105 k104 => ?_))
                have hT := hT.up y1 g105 k104 tp_o32
                have hR := hR.up y1 (by decide) k104
                have hU : mo_U (mo_R g92) (mo_R (upd g92 z99.toNatClampNeg z102)) (547 + 84 * v.toInt + 10) (z102.toInt) := mo_up (by omega) (rfl : z102.toInt = _) (by omega)
                generalize (upd g92 z99.toNatClampNeg z102) = g106 at g105 hU
                have hI := mo_w_ORDS hI hU v.toInt (z64.toInt) (by omega) (by omega) pn94 (by omega) (by omega)
                have pn107 : mo_R g106 (1) = n1 := (hU.ne (by omega) (by omega)).trans pn93
                have pn108 : mo_R g106 (547 + 84 * v.toInt + 44 + 2 * z64.toInt) = u.toInt := (hU.ne (by omega) (by omega)).trans pn95
                have pn109 : mo_R g106 (547 + 84 * v.toInt + 45 + 2 * z64.toInt) = a.toInt := (hU.ne (by omega) (by omega)).trans pn96
                have pn110 : mo_R g106 (547 + 84 * v.toInt + 10) = z102.toInt := hU.eq (by omega)
                refine lv_aload_n hx hb dX12_order_185 rfl (lv_at hl 3 rfl) ?_
                have hf_111 : f103 h0 = .inr (12, [.int 0, .int o28_x1, .ref (ρ h0 2), .ref (ρ h0 3), .ref (ρ h0 4), .ref (ρ h0 5), .ref (ρ h0 6), .int o28_x7, .ref (ρ h0 8), .int o28_x9, .int o28_x10, .int o28_x11, .int o28_x12, .long o28_x13, .int o28_x14, .int o28_x15, .int o28_x16, .int o28_x17, .int o28_x18, .int o28_x19, .int o28_x20, .ref (ρ h0 21), .int o28_x22, .ref (ρ h0 23), .ref (ρ h0 24), .int o28_x25, .ref (ρ h0 26), .ref (ρ h0 27), .int o28_x28, .int o28_x29, .ref (ρ h0 30), .ref (ρ h0 31), .int o28_x32, .long o28_x33, .long o28_x34, .long o28_x35, .int o28_x36, .int o28_x37, .int o28_x38, .ref (ρ h0 39), .ref (ρ h0 40), .ref (ρ h0 41), .ref (ρ h0 42), .ref (ρ h0 43), .ref (ρ h0 44), .ref (ρ h0 45), .ref (ρ h0 46), .int o28_x47, .int o28_x48, .ref (ρ h0 49), .ref (ρ h0 50), .ref (ρ h0 51), .ref (ρ h0 52)]) := (k104 _ (tp_ne ht_h0 y1 (by decide))).trans hf_97
                refine tpk_pos (tp_in hG ht_h0 (by decide)) hf_111 (fun q112 eq112 => ?_)
                refine va_get (D := (dC, dI)) (ci := 12) (v := .ref (ρ h0 2)) (C := RX12) (T := TX12) (N := 53) hx hb hts hfX12 hown hK hP q112 eq112 rfl 2 (by decide) (hts (.fieldLink RX12 7 "ColdShipsModel" "row" "[I") wa_148) (fun _ h9 => h9) rfl dX12_order_186 ?_
                refine lv_iconst (v := 4) hx hb dX12_order_189 (by decide) ?_
                refine lv_dup2_11 hx hb dX12_order_190 rfl rfl ?_
                refine tpk_pos (tp_in hG y1 (by decide)) g105 (fun q113 eq113 => ?_)
                refine va_iald hx hb hK hP q113 0 eq113 rfl (vp_in_iff.mpr ⟨by decide, by decide⟩) dX12_order_191 ?_
                refine lv_topi (fun z114 ez114 => ?_)
                refine lv_iconst (v := 1) hx hb dX12_order_192 (by decide) ?_
                refine lv_iadd hx hb dX12_order_193 ?_
                refine lv_topi (fun z115 ez115 => ?_)
                refine va_iast hx hb hK hP hD hS q113 0 eq113 rfl (vp_in_iff.mpr ⟨by decide, by decide⟩) dX12_order_194 (tp_k (.inl (κ 0, 12967, .inl (upd g106 (4 : Int32).toNatClampNeg z115))) hD (tp_in hG y1 (by decide)) eq113 (fun f116 H locs hP hD hS g118 k117 => ?_))
                have hT := hT.up y1 g118 k117 tp_o32
                have hR := hR.up y1 (by decide) k117
                have hU : mo_U (mo_R g106) (mo_R (upd g106 (4 : Int32).toNatClampNeg z115)) (4) (z115.toInt) := mo_up (show (4 : Int32).toInt = (4) from by decide) (rfl : z115.toInt = _) (by omega)
                generalize (upd g106 (4 : Int32).toNatClampNeg z115) = g119 at g118 hU
                have hI := mo_w_flat hI hU (by omega)
                have pn120 : mo_R g119 (1) = n1 := (hU.ne (by omega) (by omega)).trans pn107
                have pn121 : mo_R g119 (547 + 84 * v.toInt + 44 + 2 * z64.toInt) = u.toInt := (hU.ne (by omega) (by omega)).trans pn108
                have pn122 : mo_R g119 (547 + 84 * v.toInt + 45 + 2 * z64.toInt) = a.toInt := (hU.ne (by omega) (by omega)).trans pn109
                have pn123 : mo_R g119 (547 + 84 * v.toInt + 10) = z102.toInt := (hU.ne (by omega) (by omega)).trans pn110
                refine lv_aload_n hx hb dX12_order_195 rfl (lv_at hl 3 rfl) ?_
                have hf_124 : f116 h0 = .inr (12, [.int 0, .int o28_x1, .ref (ρ h0 2), .ref (ρ h0 3), .ref (ρ h0 4), .ref (ρ h0 5), .ref (ρ h0 6), .int o28_x7, .ref (ρ h0 8), .int o28_x9, .int o28_x10, .int o28_x11, .int o28_x12, .long o28_x13, .int o28_x14, .int o28_x15, .int o28_x16, .int o28_x17, .int o28_x18, .int o28_x19, .int o28_x20, .ref (ρ h0 21), .int o28_x22, .ref (ρ h0 23), .ref (ρ h0 24), .int o28_x25, .ref (ρ h0 26), .ref (ρ h0 27), .int o28_x28, .int o28_x29, .ref (ρ h0 30), .ref (ρ h0 31), .int o28_x32, .long o28_x33, .long o28_x34, .long o28_x35, .int o28_x36, .int o28_x37, .int o28_x38, .ref (ρ h0 39), .ref (ρ h0 40), .ref (ρ h0 41), .ref (ρ h0 42), .ref (ρ h0 43), .ref (ρ h0 44), .ref (ρ h0 45), .ref (ρ h0 46), .int o28_x47, .int o28_x48, .ref (ρ h0 49), .ref (ρ h0 50), .ref (ρ h0 51), .ref (ρ h0 52)]) := (k117 _ (tp_ne ht_h0 y1 (by decide))).trans hf_111
                refine tpk_pos (tp_in hG ht_h0 (by decide)) hf_124 (fun q125 eq125 => ?_)
                refine va_get (D := (dC, dI)) (ci := 12) (v := .ref (ρ h0 2)) (C := RX12) (T := TX12) (N := 53) hx hb hts hfX12 hown hK hP q125 eq125 rfl 2 (by decide) (hts (.fieldLink RX12 7 "ColdShipsModel" "row" "[I") wa_148) (fun _ h9 => h9) rfl dX12_order_196 ?_
                refine lv_iload hx hb dX12_order_199 (lv_at hl 1 rfl) ?_
                refine lv_bipush (v := 10) hx hb dX12_order_201 (by decide) ?_
                refine lv_iadd hx hb dX12_order_203 ?_
                refine lv_topi (fun z126 ez126 => ?_)
                have iz126 : z126.toInt = r60.toInt + 10 := zi_add ez126 rfl rfl (by omega) (by omega)
                refine tpk_pos (tp_in hG y1 (by decide)) g118 (fun q127 eq127 => ?_)
                refine va_iald hx hb hK hP q127 0 eq127 rfl (vp_in_iff.mpr ⟨by omega, by omega⟩) dX12_order_204 ?_
                refine lv_topi (fun z128 ez128 => ?_)
                have jz128 : z128.toInt = mo_R g119 (547 + 84 * v.toInt + 10) := mo_rd ez128 (by omega)
                have kz128 := hI.SO (s := v.toInt) (by omega) (by omega)
                have vz128 : z128.toInt = z102.toInt := jz128.trans pn123
                refine lv_iconst (v := 1) hx hb dX12_order_205 (by decide) ?_
                refine lv_icmp_ne (tgt := 215) hx hb dX12_order_206 (by decide) (fun c129 => ?_) (fun c129 => ?_)
                · have ic129 : z128.toInt ≠ 1 := zi_ne rfl rfl c129
                  replace ic129 : 2 ≤ z128.toInt := by omega
                  refine lv_aload_n hx hb dX12_order_215 rfl (lv_at hl 3 rfl) ?_
                  refine lv_aload_n hx hb dX12_order_216 rfl (lv_at hl 3 rfl) ?_
                  refine va_get (D := (dC, dI)) (ci := 12) (v := .ref (ρ h0 2)) (C := RX12) (T := TX12) (N := 53) hx hb hts hfX12 hown hK hP q125 eq125 rfl 2 (by decide) (hts (.fieldLink RX12 7 "ColdShipsModel" "row" "[I") wa_148) (fun _ h9 => h9) rfl dX12_order_217 ?_
                  refine lv_iload hx hb dX12_order_220 (lv_at hl 1 rfl) ?_
                  refine lv_bipush (v := 10) hx hb dX12_order_222 (by decide) ?_
                  refine lv_iadd hx hb dX12_order_224 ?_
                  refine lv_topi (fun z130 ez130 => ?_)
                  have iz130 : z130.toInt = r60.toInt + 10 := zi_add ez130 rfl rfl (by omega) (by omega)
                  refine va_iald hx hb hK hP q127 0 eq127 rfl (vp_in_iff.mpr ⟨by omega, by omega⟩) dX12_order_225 ?_
                  refine lv_topi (fun z131 ez131 => ?_)
                  have jz131 : z131.toInt = mo_R g119 (547 + 84 * v.toInt + 10) := mo_rd ez131 (by omega)
                  have kz131 := hI.SO (s := v.toInt) (by omega) (by omega)
                  have vz131 : z131.toInt = z102.toInt := jz131.trans pn123
                  have hFc := tp_fr hD hS hA
                  refine va_calli (va_runV (As := [.int z131]) (rest := []) ⟨hx, hb, hml, hown, hts⟩ (t_X12_told l dC dI _ κ τ ν ρ L f116 hG hT h0 z131 ht_h0) (cwV 1 hts gX12_order_X12_told rfl rfl rfl ⟨rfl, pd_X12_told⟩ ⟨Nat.le_of_ble_eq_true rfl, Nat.le_of_ble_eq_true rfl⟩) ⟨pz_blind, va_recv hK hP (ci := 12) (q0 := q125) rfl eq125, pz_pre hP hK hD hN⟩ rfl rfl hl.1 rfl (lv_room (Nat.le_of_ble_eq_true rfl)) dX12_order_226 ⟨Nat.le_of_ble_eq_true rfl, Nat.le_of_ble_eq_true rfl⟩) hS (fun q _ h => hFc q h) hFc (fun r132 f134 t H1 locs ht hvm hw133 hB hz1 hk1 hS => ?_)
                  refine tn_4 hw133 (fun hT hF135 hw133r hw133p => ?_); clear hw133
                  have hR := hR.then hF135 (by decide)
                  have hP := hB.1; rw [ht] at hP; have hD := tp_ad f134 hD; clear hB hFc hz1 hk1; subst ht; generalize t.heap = H at hP hS ⊢
                  have hw133pq : r132.toInt = z131.toInt := by rw [hw133p]
                  have hf_136 : f134 (ρ h0 2) = .inl (κ 0, 12967, .inl g119) := (hF135 _ (by rw [y1]; decide)).trans g118
                  exact W.iret (v := r132) hx hb hr (fun t ht hW => ⟨⟨r132, f134, rfl, ⟨hT, hR, trivial, (by rw [hf_136, mo_i1]; exact hI)⟩, by rw [ht]; exact hP, va_K.moved hW.alike hK, hD⟩, hS.F ht⟩) hS.2.2 dX12_order_229
                · have ic129 : z128.toInt = 1 := zi_nef rfl rfl c129
                  refine lv_aload_n hx hb dX12_order_209 rfl (lv_at hl 3 rfl) ?_
                  refine lv_iload hx hb dX12_order_210 (lv_at hl 1 rfl) ?_
                  have hFc := tp_fr hD hS hA
                  refine va_callv (va_runV (As := [.int r60]) (rest := []) ⟨hx, hb, hml, hown, hts⟩ (t_X12_beginOrder l dC dI _ κ τ ν ρ L f116 hG hT h0 r60 (-1) 0 v.toInt ht_h0 (by omega) (by omega) (by omega) (by rw [g118, mo_i1]; exact hI) (by first | (simp only [g118, hf_o26, mo_i1]; omega) | (simp only [g118, hf_o26, mo_i1]; trivial) | (simp only [g118, hf_o26, mo_i1]; done) | omega)) (cwV 1 hts gX12_order_X12_beginOrder rfl rfl rfl ⟨rfl, pd_X12_beginOrder⟩ ⟨Nat.le_of_ble_eq_true rfl, Nat.le_of_ble_eq_true rfl⟩) ⟨pz_blind, va_recv hK hP (ci := 12) (q0 := q125) rfl eq125, pz_pre hP hK hD hN⟩ rfl rfl hl.1 rfl (lv_room (Nat.le_of_ble_eq_true rfl)) dX12_order_212 ⟨Nat.le_of_ble_eq_true rfl, Nat.le_of_ble_eq_true rfl⟩) hS (fun q _ h => hFc q h) hFc (fun f139 t H1 locs ht hvm hw138 hB hz1 hk1 hS => ?_)
                  refine tn_3 hw138 (fun hT hF140 hw138p => ?_); clear hw138
                  have hR := hR.then hF140 (by decide)
                  have hP := hB.1; rw [ht] at hP; have hD := tp_ad f139 hD; clear hB hFc hz1 hk1; subst ht; generalize t.heap = H at hP hS ⊢
                  obtain ⟨hJ, hw138pe⟩ := hw138p
                  refine tpk_32 hT y1 (fun g142 hf_o141 => ?_)
                  have hI : mo_RI (-1) 0 (mo_R g142) := by have q9 := hJ; rw [hf_o141, mo_i1] at q9; exact q9
                  rw [g118, mo_i1] at hw138pe
                  rw [hf_o141, mo_i1] at hw138pe
                  have pn143 : mo_R g142 (1) = n1 := (hw138pe.1).trans pn120
                  have pn144 : mo_R g142 (547 + 84 * v.toInt + 10) = z102.toInt := (hw138pe.2.2).trans pn123
                  refine lv_aload_n hx hb dX12_order_215 rfl (lv_at hl 3 rfl) ?_
                  refine lv_aload_n hx hb dX12_order_216 rfl (lv_at hl 3 rfl) ?_
                  have hf_145 : f139 h0 = .inr (12, [.int 0, .int o28_x1, .ref (ρ h0 2), .ref (ρ h0 3), .ref (ρ h0 4), .ref (ρ h0 5), .ref (ρ h0 6), .int o28_x7, .ref (ρ h0 8), .int o28_x9, .int o28_x10, .int o28_x11, .int o28_x12, .long o28_x13, .int o28_x14, .int o28_x15, .int o28_x16, .int o28_x17, .int o28_x18, .int o28_x19, .int o28_x20, .ref (ρ h0 21), .int o28_x22, .ref (ρ h0 23), .ref (ρ h0 24), .int o28_x25, .ref (ρ h0 26), .ref (ρ h0 27), .int o28_x28, .int o28_x29, .ref (ρ h0 30), .ref (ρ h0 31), .int o28_x32, .long o28_x33, .long o28_x34, .long o28_x35, .int o28_x36, .int o28_x37, .int o28_x38, .ref (ρ h0 39), .ref (ρ h0 40), .ref (ρ h0 41), .ref (ρ h0 42), .ref (ρ h0 43), .ref (ρ h0 44), .ref (ρ h0 45), .ref (ρ h0 46), .int o28_x47, .int o28_x48, .ref (ρ h0 49), .ref (ρ h0 50), .ref (ρ h0 51), .ref (ρ h0 52)]) := (hF140 _ (by rw [ht_h0]; decide)).trans hf_124
                  refine tpk_pos (tp_in hG ht_h0 (by decide)) hf_145 (fun q146 eq146 => ?_)
                  refine va_get (D := (dC, dI)) (ci := 12) (v := .ref (ρ h0 2)) (C := RX12) (T := TX12) (N := 53) hx hb hts hfX12 hown hK hP q146 eq146 rfl 2 (by decide) (hts (.fieldLink RX12 7 "ColdShipsModel" "row" "[I") wa_148) (fun _ h9 => h9) rfl dX12_order_217 ?_
                  refine lv_iload hx hb dX12_order_220 (lv_at hl 1 rfl) ?_
                  refine lv_bipush (v := 10) hx hb dX12_order_222 (by decide) ?_
                  refine lv_iadd hx hb dX12_order_224 ?_
                  refine lv_topi (fun z147 ez147 => ?_)
                  have iz147 : z147.toInt = r60.toInt + 10 := zi_add ez147 rfl rfl (by omega) (by omega)
                  refine tpk_pos (tp_in hG y1 (by decide)) hf_o141 (fun q148 eq148 => ?_)
                  refine va_iald hx hb hK hP q148 0 eq148 rfl (vp_in_iff.mpr ⟨by omega, by omega⟩) dX12_order_225 ?_
                  refine lv_topi (fun z149 ez149 => ?_)
                  have jz149 : z149.toInt = mo_R g142 (547 + 84 * v.toInt + 10) := mo_rd ez149 (by omega)
                  have kz149 := hI.SO (s := v.toInt) (by omega) (by omega)
                  have vz149 : z149.toInt = z102.toInt := jz149.trans pn144
                  have hFc := tp_fr hD hS hA
                  refine va_calli (va_runV (As := [.int z149]) (rest := []) ⟨hx, hb, hml, hown, hts⟩ (t_X12_told l dC dI _ κ τ ν ρ L f139 hG hT h0 z149 ht_h0) (cwV 1 hts gX12_order_X12_told rfl rfl rfl ⟨rfl, pd_X12_told⟩ ⟨Nat.le_of_ble_eq_true rfl, Nat.le_of_ble_eq_true rfl⟩) ⟨pz_blind, va_recv hK hP (ci := 12) (q0 := q146) rfl eq146, pz_pre hP hK hD hN⟩ rfl rfl hl.1 rfl (lv_room (Nat.le_of_ble_eq_true rfl)) dX12_order_226 ⟨Nat.le_of_ble_eq_true rfl, Nat.le_of_ble_eq_true rfl⟩) hS (fun q _ h => hFc q h) hFc (fun r150 f152 t H1 locs ht hvm hw151 hB hz1 hk1 hS => ?_)
                  refine tn_4 hw151 (fun hT hF153 hw151r hw151p => ?_); clear hw151
                  have hR := hR.then hF153 (by decide)
                  have hP := hB.1; rw [ht] at hP; have hD := tp_ad f152 hD; clear hB hFc hz1 hk1; subst ht; generalize t.heap = H at hP hS ⊢
                  have hw151pq : r150.toInt = z149.toInt := by rw [hw151p]
                  have hf_154 : f152 (ρ h0 2) = .inl (κ 0, 12967, .inl g142) := (hF153 _ (by rw [y1]; decide)).trans hf_o141
                  exact W.iret (v := r150) hx hb hr (fun t ht hW => ⟨⟨r150, f152, rfl, ⟨hT, hR, trivial, (by rw [hf_154, mo_i1]; exact hI)⟩, by rw [ht]; exact hP, va_K.moved hW.alike hK, hD⟩, hS.F ht⟩) hS.2.2 dX12_order_229
              · have ic72 : z71.toInt = 400 := zi_nef rfl rfl c72
                refine lv_aload_n hx hb dX12_order_126 rfl (lv_at hl 2 rfl) ?_
                refine lv_bipush (v := (-5)) hx hb dX12_order_127 (by decide) ?_
                have hFc := tp_fr hD hS hA
                refine va_calli (va_runV (As := [.int (-5)]) (rest := []) ⟨hx, hb, hml, hown, hts⟩ (t_X12_told l dC dI _ κ τ ν ρ L f30 hG hT h0 ((-5)) ht_h0) (cwV 1 hts gX12_order_X12_told rfl rfl rfl ⟨rfl, pd_X12_told⟩ ⟨Nat.le_of_ble_eq_true rfl, Nat.le_of_ble_eq_true rfl⟩) ⟨pz_blind, va_recv hK hP (ci := 12) (q0 := q45) rfl eq45, pz_pre hP hK hD hN⟩ rfl rfl hl.1 rfl (lv_room (Nat.le_of_ble_eq_true rfl)) dX12_order_129 ⟨Nat.le_of_ble_eq_true rfl, Nat.le_of_ble_eq_true rfl⟩) hS (fun q _ h => hFc q h) hFc (fun r155 f157 t H1 locs ht hvm hw156 hB hz1 hk1 hS => ?_)
                refine tn_4 hw156 (fun hT hF158 hw156r hw156p => ?_); clear hw156
                have hR := hR.then hF158 (by decide)
                have hP := hB.1; rw [ht] at hP; have hD := tp_ad f157 hD; clear hB hFc hz1 hk1; subst ht; generalize t.heap = H at hP hS ⊢
                have hw156pq : r155.toInt = (-5) := by rw [hw156p]; rfl
                have hf_159 : f157 (ρ h0 2) = .inl (κ 0, 12967, .inl g27) := (hF158 _ (by rw [y1]; decide)).trans hf_33
                exact W.iret (v := r155) hx hb hr (fun t ht hW => ⟨⟨r155, f157, rfl, ⟨hT, hR, trivial, (by rw [hf_159, mo_i1]; exact hI)⟩, by rw [ht]; exact hP, va_K.moved hW.alike hK, hD⟩, hS.F ht⟩) hS.2.2 dX12_order_132
          · have ic58 : r56.toInt = 0 := zi_nef rfl rfl c58
            refine lv_aload_n hx hb dX12_order_86 rfl (lv_at hl 1 rfl) ?_
            refine lv_bipush (v := (-2)) hx hb dX12_order_87 (by decide) ?_
            have hFc := tp_fr hD hS hA
            refine va_calli (va_runV (As := [.int (-2)]) (rest := []) ⟨hx, hb, hml, hown, hts⟩ (t_X12_told l dC dI _ κ τ ν ρ L f30 hG hT h0 ((-2)) ht_h0) (cwV 1 hts gX12_order_X12_told rfl rfl rfl ⟨rfl, pd_X12_told⟩ ⟨Nat.le_of_ble_eq_true rfl, Nat.le_of_ble_eq_true rfl⟩) ⟨pz_blind, va_recv hK hP (ci := 12) (q0 := q45) rfl eq45, pz_pre hP hK hD hN⟩ rfl rfl hl.1 rfl (lv_room (Nat.le_of_ble_eq_true rfl)) dX12_order_89 ⟨Nat.le_of_ble_eq_true rfl, Nat.le_of_ble_eq_true rfl⟩) hS (fun q _ h => hFc q h) hFc (fun r160 f162 t H1 locs ht hvm hw161 hB hz1 hk1 hS => ?_)
            refine tn_4 hw161 (fun hT hF163 hw161r hw161p => ?_); clear hw161
            have hR := hR.then hF163 (by decide)
            have hP := hB.1; rw [ht] at hP; have hD := tp_ad f162 hD; clear hB hFc hz1 hk1; subst ht; generalize t.heap = H at hP hS ⊢
            have hw161pq : r160.toInt = (-2) := by rw [hw161p]; rfl
            have hf_164 : f162 (ρ h0 2) = .inl (κ 0, 12967, .inl g27) := (hF163 _ (by rw [y1]; decide)).trans hf_33
            exact W.iret (v := r160) hx hb hr (fun t ht hW => ⟨⟨r160, f162, rfl, ⟨hT, hR, trivial, (by rw [hf_164, mo_i1]; exact hI)⟩, by rw [ht]; exact hP, va_K.moved hW.alike hK, hD⟩, hS.F ht⟩) hS.2.2 dX12_order_92
    · have ic44 : u.toInt ≠ 0 := zi_eqf rfl rfl c44
      replace ic44 : 1 ≤ u.toInt := by omega
      refine lv_iload_n hx hb dX12_order_21 rfl (lv_at hl 2 rfl) ?_
      refine lv_iconst (v := 3) hx hb dX12_order_22 (by decide) ?_
      refine lv_icmp_ne (tgt := 36) hx hb dX12_order_23 (by decide) (fun c165 => ?_) (fun c165 => ?_)
      · have ic165 : u.toInt ≠ 3 := zi_ne rfl rfl c165
        replace ic165 : u.toInt ≤ 2 := by omega
        refine lv_iload_n hx hb dX12_order_36 rfl (lv_at hl 3 rfl) ?_
        refine lv_i2l hx hb dX12_order_37 rfl ?_
        refine lv_lconst (v := 1) hx hb dX12_order_38 (by decide) ?_
        refine lv_ldc2 (own := RX12) (v := 200000) hx hb hown (hts (.constantLong RX12 124 (200000)) wa_272) dX12_order_39 ?_
        refine pz_calli (va_runS (As := [.long a.toInt64, .long 1, .long 200000]) (rest := []) ⟨hx, hb, hml, hown, hts⟩ (t_X12_in l dC dI _ a.toInt64 (1) (200000) (a.toInt) (1) (200000) (Int32.toInt_toInt64 a) rfl rfl) (va_cwS 3 hts gX12_order_X12_in rfl rfl rfl pd_X12_in ⟨Nat.le_of_ble_eq_true rfl, Nat.le_of_ble_eq_true rfl⟩) ⟨pz_blind, pz_pre pz_P0 (hK.sub (tys' := []) [] rfl) (pz_D0 (A := fun _ => True)) hN⟩ rfl rfl hl.1 rfl (lv_room (Nat.le_of_ble_eq_true rfl)) dX12_order_42 ⟨Nat.le_of_ble_eq_true rfl, Nat.le_of_ble_eq_true rfl⟩) (fun r166 hw167 => ?_)
        obtain ⟨hw167r, hw167p⟩ := hw167
        refine lv_if_eq (tgt := 52) hx hb dX12_order_45 (by decide) (fun c168 => ?_) (fun c168 => ?_)
        · have ic168 : r166.toInt = 0 := zi_eq rfl rfl c168
          refine lv_iconst (v := 0) hx hb dX12_order_52 (by decide) ?_
          refine lv_istore (lv' := [(4, .int 0), (0, .ref h0), (1, .int v), (2, .int u), (3, .int a)]) hx hb dX12_order_53 hl (by decide) rfl (fun ls hl => ?_)
          refine lv_iload hx hb dX12_order_55 (lv_at hl 0 rfl) ?_
          refine lv_if_ne (tgt := 66) hx hb dX12_order_57 (by decide) (fun c9 => absurd c9 (by decide)) (fun _ => ?_)
          refine lv_aload_n hx hb dX12_order_60 rfl (lv_at hl 1 rfl) ?_
          refine lv_iconst (v := (-1)) hx hb dX12_order_61 (by decide) ?_
          refine tpk_pos (tp_in hG ht_h0 (by decide)) g32 (fun q169 eq169 => ?_)
          have hFc := tp_fr hD hS hA
          refine va_calli (va_runV (As := [.int (-1)]) (rest := []) ⟨hx, hb, hml, hown, hts⟩ (t_X12_told l dC dI _ κ τ ν ρ L f30 hG hT h0 ((-1)) ht_h0) (cwV 1 hts gX12_order_X12_told rfl rfl rfl ⟨rfl, pd_X12_told⟩ ⟨Nat.le_of_ble_eq_true rfl, Nat.le_of_ble_eq_true rfl⟩) ⟨pz_blind, va_recv hK hP (ci := 12) (q0 := q169) rfl eq169, pz_pre hP hK hD hN⟩ rfl rfl hl.1 rfl (lv_room (Nat.le_of_ble_eq_true rfl)) dX12_order_62 ⟨Nat.le_of_ble_eq_true rfl, Nat.le_of_ble_eq_true rfl⟩) hS (fun q _ h => hFc q h) hFc (fun r170 f172 t H1 locs ht hvm hw171 hB hz1 hk1 hS => ?_)
          refine tn_4 hw171 (fun hT hF173 hw171r hw171p => ?_); clear hw171
          have hR := hR.then hF173 (by decide)
          have hP := hB.1; rw [ht] at hP; have hD := tp_ad f172 hD; clear hB hFc hz1 hk1; subst ht; generalize t.heap = H at hP hS ⊢
          have hw171pq : r170.toInt = (-1) := by rw [hw171p]; rfl
          have hf_174 : f172 (ρ h0 2) = .inl (κ 0, 12967, .inl g27) := (hF173 _ (by rw [y1]; decide)).trans hf_33
          exact W.iret (v := r170) hx hb hr (fun t ht hW => ⟨⟨r170, f172, rfl, ⟨hT, hR, trivial, (by rw [hf_174, mo_i1]; exact hI)⟩, by rw [ht]; exact hP, va_K.moved hW.alike hK, hD⟩, hS.F ht⟩) hS.2.2 dX12_order_65
        · have ic168 : r166.toInt ≠ 0 := zi_eqf rfl rfl c168
          replace ic168 : 1 ≤ r166.toInt := by omega
          have p175 : (1) ≤ (a.toInt) ∧ (a.toInt) ≤ (200000) := (tp_cond.yes hw167p) (by omega)
          refine lv_iconst (v := 1) hx hb dX12_order_48 (by decide) ?_
          refine lv_goto (tgt := 53) hx hb dX12_order_49 (by decide) ?_
          refine lv_istore (lv' := [(4, .int 1), (0, .ref h0), (1, .int v), (2, .int u), (3, .int a)]) hx hb dX12_order_53 hl (by decide) rfl (fun ls hl => ?_)
          refine lv_iload hx hb dX12_order_55 (lv_at hl 0 rfl) ?_
          refine lv_if_ne (tgt := 66) hx hb dX12_order_57 (by decide) (fun _ => ?_) (fun c9 => absurd c9 (by decide))
          refine lv_aload_n hx hb dX12_order_66 rfl (lv_at hl 1 rfl) ?_
          refine lv_iload_n hx hb dX12_order_67 rfl (lv_at hl 2 rfl) ?_
          refine tpk_pos (tp_in hG ht_h0 (by decide)) g32 (fun q176 eq176 => ?_)
          refine pz_calli (va_runV (As := [.int v]) (rest := []) ⟨hx, hb, hml, hown, hts⟩ (t_X12_isShip l dC dI _ κ τ ν ρ L f30 hG hT h0 v (-1) 0 ht_h0 (by omega) (by rw [hf_33, mo_i1]; exact hI)) (cwV 1 hts gX12_order_X12_isShip rfl rfl rfl ⟨rfl, pd_X12_isShip⟩ ⟨Nat.le_of_ble_eq_true rfl, Nat.le_of_ble_eq_true rfl⟩) ⟨pz_blind, va_recv hK hP (ci := 12) (q0 := q176) rfl eq176, pz_pre hP hK hD hN⟩ rfl rfl hl.1 rfl (lv_room (Nat.le_of_ble_eq_true rfl)) dX12_order_68 ⟨Nat.le_of_ble_eq_true rfl, Nat.le_of_ble_eq_true rfl⟩) (fun r177 hw178 => ?_)
          obtain ⟨hw178r, hw178p⟩ := hw178
          have := hI.k1
          rw [hf_33, mo_i1] at hw178p
          refine lv_if_eq (tgt := 86) hx hb dX12_order_71 (by decide) (fun c179 => ?_) (fun c179 => ?_)
          · have ic179 : r177.toInt = 0 := zi_eq rfl rfl c179
            refine lv_aload_n hx hb dX12_order_86 rfl (lv_at hl 1 rfl) ?_
            refine lv_bipush (v := (-2)) hx hb dX12_order_87 (by decide) ?_
            have hFc := tp_fr hD hS hA
            refine va_calli (va_runV (As := [.int (-2)]) (rest := []) ⟨hx, hb, hml, hown, hts⟩ (t_X12_told l dC dI _ κ τ ν ρ L f30 hG hT h0 ((-2)) ht_h0) (cwV 1 hts gX12_order_X12_told rfl rfl rfl ⟨rfl, pd_X12_told⟩ ⟨Nat.le_of_ble_eq_true rfl, Nat.le_of_ble_eq_true rfl⟩) ⟨pz_blind, va_recv hK hP (ci := 12) (q0 := q176) rfl eq176, pz_pre hP hK hD hN⟩ rfl rfl hl.1 rfl (lv_room (Nat.le_of_ble_eq_true rfl)) dX12_order_89 ⟨Nat.le_of_ble_eq_true rfl, Nat.le_of_ble_eq_true rfl⟩) hS (fun q _ h => hFc q h) hFc (fun r180 f182 t H1 locs ht hvm hw181 hB hz1 hk1 hS => ?_)
            refine tn_4 hw181 (fun hT hF183 hw181r hw181p => ?_); clear hw181
            have hR := hR.then hF183 (by decide)
            have hP := hB.1; rw [ht] at hP; have hD := tp_ad f182 hD; clear hB hFc hz1 hk1; subst ht; generalize t.heap = H at hP hS ⊢
            have hw181pq : r180.toInt = (-2) := by rw [hw181p]; rfl
            have hf_184 : f182 (ρ h0 2) = .inl (κ 0, 12967, .inl g27) := (hF183 _ (by rw [y1]; decide)).trans hf_33
            exact W.iret (v := r180) hx hb hr (fun t ht hW => ⟨⟨r180, f182, rfl, ⟨hT, hR, trivial, (by rw [hf_184, mo_i1]; exact hI)⟩, by rw [ht]; exact hP, va_K.moved hW.alike hK, hD⟩, hS.F ht⟩) hS.2.2 dX12_order_92
          · have ic179 : r177.toInt ≠ 0 := zi_eqf rfl rfl c179
            replace ic179 : 1 ≤ r177.toInt := by omega
            have p185 : 0 ≤ v.toInt ∧ v.toInt < mo_R g27 1 := (tp_cond.yes hw178p) (by omega)
            refine lv_iload_n hx hb dX12_order_74 rfl (lv_at hl 3 rfl) ?_
            refine lv_if_ne (tgt := 93) hx hb dX12_order_75 (by decide) (fun c186 => ?_) (fun c186 => ?_)
            · have ic186 : u.toInt ≠ 0 := zi_ne rfl rfl c186
              refine lv_iload_n hx hb dX12_order_93 rfl (lv_at hl 2 rfl) ?_
              refine pz_calli (va_runS (As := [.int v]) (rest := []) ⟨hx, hb, hml, hown, hts⟩ (t_X12_shipAt l dC dI _ v (v.toInt) (by omega) rfl) (va_cwS 1 hts gX12_order_X12_shipAt rfl rfl rfl pd_X12_shipAt ⟨Nat.le_of_ble_eq_true rfl, Nat.le_of_ble_eq_true rfl⟩) ⟨pz_blind, pz_pre pz_P0 (hK.sub (tys' := []) [] rfl) (pz_D0 (A := fun _ => True)) hN⟩ rfl rfl hl.1 rfl (lv_room (Nat.le_of_ble_eq_true rfl)) dX12_order_94 ⟨Nat.le_of_ble_eq_true rfl, Nat.le_of_ble_eq_true rfl⟩) (fun r187 hw188 => ?_)
              obtain ⟨hw188r, hw188p⟩ := hw188
              refine lv_istore (lv' := [(5, .int r187), (4, .int 1), (0, .ref h0), (1, .int v), (2, .int u), (3, .int a)]) hx hb dX12_order_97 hl (by decide) rfl (fun ls hl => ?_)
              refine lv_aload_n hx hb dX12_order_99 rfl (lv_at hl 2 rfl) ?_
              refine va_get (D := (dC, dI)) (ci := 12) (v := .ref (ρ h0 2)) (C := RX12) (T := TX12) (N := 53) hx hb hts hfX12 hown hK hP q176 eq176 rfl 2 (by decide) (hts (.fieldLink RX12 7 "ColdShipsModel" "row" "[I") wa_148) (fun _ h9 => h9) rfl dX12_order_100 ?_
              refine lv_iload hx hb dX12_order_103 (lv_at hl 0 rfl) ?_
              refine lv_bipush (v := 10) hx hb dX12_order_105 (by decide) ?_
              refine lv_iadd hx hb dX12_order_107 ?_
              refine lv_topi (fun z189 ez189 => ?_)
              have iz189 : z189.toInt = r187.toInt + 10 := zi_add ez189 rfl rfl (by omega) (by omega)
              refine tpk_pos (tp_in hG y1 (by decide)) hf_33 (fun q190 eq190 => ?_)
              refine va_iald hx hb hK hP q190 0 eq190 rfl (vp_in_iff.mpr ⟨by omega, by omega⟩) dX12_order_108 ?_
              refine lv_topi (fun z191 ez191 => ?_)
              have jz191 : z191.toInt = mo_R g27 (547 + 84 * v.toInt + 10) := mo_rd ez191 (by omega)
              have kz191 := hI.SO (s := v.toInt) (by omega) (by omega)
              refine lv_bipush (v := 20) hx hb dX12_order_109 (by decide) ?_
              refine lv_icmp_eq (tgt := 126) hx hb dX12_order_111 (by decide) (fun c192 => ?_) (fun c192 => ?_)
              · have ic192 : z191.toInt = 20 := zi_eq rfl rfl c192
                refine lv_aload_n hx hb dX12_order_126 rfl (lv_at hl 2 rfl) ?_
                refine lv_bipush (v := (-5)) hx hb dX12_order_127 (by decide) ?_
                have hFc := tp_fr hD hS hA
                refine va_calli (va_runV (As := [.int (-5)]) (rest := []) ⟨hx, hb, hml, hown, hts⟩ (t_X12_told l dC dI _ κ τ ν ρ L f30 hG hT h0 ((-5)) ht_h0) (cwV 1 hts gX12_order_X12_told rfl rfl rfl ⟨rfl, pd_X12_told⟩ ⟨Nat.le_of_ble_eq_true rfl, Nat.le_of_ble_eq_true rfl⟩) ⟨pz_blind, va_recv hK hP (ci := 12) (q0 := q176) rfl eq176, pz_pre hP hK hD hN⟩ rfl rfl hl.1 rfl (lv_room (Nat.le_of_ble_eq_true rfl)) dX12_order_129 ⟨Nat.le_of_ble_eq_true rfl, Nat.le_of_ble_eq_true rfl⟩) hS (fun q _ h => hFc q h) hFc (fun r193 f195 t H1 locs ht hvm hw194 hB hz1 hk1 hS => ?_)
                refine tn_4 hw194 (fun hT hF196 hw194r hw194p => ?_); clear hw194
                have hR := hR.then hF196 (by decide)
                have hP := hB.1; rw [ht] at hP; have hD := tp_ad f195 hD; clear hB hFc hz1 hk1; subst ht; generalize t.heap = H at hP hS ⊢
                have hw194pq : r193.toInt = (-5) := by rw [hw194p]; rfl
                have hf_197 : f195 (ρ h0 2) = .inl (κ 0, 12967, .inl g27) := (hF196 _ (by rw [y1]; decide)).trans hf_33
                exact W.iret (v := r193) hx hb hr (fun t ht hW => ⟨⟨r193, f195, rfl, ⟨hT, hR, trivial, (by rw [hf_197, mo_i1]; exact hI)⟩, by rw [ht]; exact hP, va_K.moved hW.alike hK, hD⟩, hS.F ht⟩) hS.2.2 dX12_order_132
              · have ic192 : z191.toInt ≠ 20 := zi_eqf rfl rfl c192
                replace ic192 : z191.toInt ≤ 19 := by omega
                refine lv_aload_n hx hb dX12_order_114 rfl (lv_at hl 2 rfl) ?_
                refine va_get (D := (dC, dI)) (ci := 12) (v := .ref (ρ h0 2)) (C := RX12) (T := TX12) (N := 53) hx hb hts hfX12 hown hK hP q176 eq176 rfl 2 (by decide) (hts (.fieldLink RX12 7 "ColdShipsModel" "row" "[I") wa_148) (fun _ h9 => h9) rfl dX12_order_115 ?_
                refine lv_iconst (v := 4) hx hb dX12_order_118 (by decide) ?_
                refine va_iald hx hb hK hP q190 0 eq190 rfl (vp_in_iff.mpr ⟨by decide, by decide⟩) dX12_order_119 ?_
                refine lv_topi (fun z198 ez198 => ?_)
                refine lv_sipush (v := 400) hx hb dX12_order_120 (by decide) ?_
                refine lv_icmp_ne (tgt := 133) hx hb dX12_order_123 (by decide) (fun c199 => ?_) (fun c199 => ?_)
                · have ic199 : z198.toInt ≠ 400 := zi_ne rfl rfl c199
                  refine lv_iload hx hb dX12_order_133 (lv_at hl 0 rfl) ?_
                  refine lv_bipush (v := 44) hx hb dX12_order_135 (by decide) ?_
                  refine lv_iadd hx hb dX12_order_137 ?_
                  refine lv_topi (fun z200 ez200 => ?_)
                  have iz200 : z200.toInt = r187.toInt + 44 := zi_add ez200 rfl rfl (by omega) (by omega)
                  refine lv_iconst (v := 2) hx hb dX12_order_138 (by decide) ?_
                  refine lv_aload_n hx hb dX12_order_139 rfl (lv_at hl 2 rfl) ?_
                  refine va_get (D := (dC, dI)) (ci := 12) (v := .ref (ρ h0 2)) (C := RX12) (T := TX12) (N := 53) hx hb hts hfX12 hown hK hP q176 eq176 rfl 2 (by decide) (hts (.fieldLink RX12 7 "ColdShipsModel" "row" "[I") wa_148) (fun _ h9 => h9) rfl dX12_order_140 ?_
                  refine lv_iload hx hb dX12_order_143 (lv_at hl 0 rfl) ?_
                  refine lv_bipush (v := 10) hx hb dX12_order_145 (by decide) ?_
                  refine lv_iadd hx hb dX12_order_147 ?_
                  refine lv_topi (fun z201 ez201 => ?_)
                  have iz201 : z201.toInt = r187.toInt + 10 := zi_add ez201 rfl rfl (by omega) (by omega)
                  refine va_iald hx hb hK hP q190 0 eq190 rfl (vp_in_iff.mpr ⟨by omega, by omega⟩) dX12_order_148 ?_
                  refine lv_topi (fun z202 ez202 => ?_)
                  have jz202 : z202.toInt = mo_R g27 (547 + 84 * v.toInt + 10) := mo_rd ez202 (by omega)
                  have kz202 := hI.SO (s := v.toInt) (by omega) (by omega)
                  have vz202 : z202.toInt = z191.toInt := jz202.trans (jz191).symm
                  refine lv_imul hx hb dX12_order_149 ?_
                  refine lv_topi (fun z203 ez203 => ?_)
                  have iz203 : z203.toInt = 2 * z202.toInt := zi_mul ez203 rfl rfl (by omega) (by omega)
                  refine lv_iadd hx hb dX12_order_150 ?_
                  refine lv_topi (fun z204 ez204 => ?_)
                  have iz204 : z204.toInt = z200.toInt + z203.toInt := zi_add ez204 rfl rfl (by omega) (by omega)
                  refine lv_istore (lv' := [(6, .int z204), (5, .int r187), (4, .int 1), (0, .ref h0), (1, .int v), (2, .int u), (3, .int a)]) hx hb dX12_order_151 hl (by decide) rfl (fun ls hl => ?_)
                  refine lv_aload_n hx hb dX12_order_153 rfl (lv_at hl 3 rfl) ?_
                  refine va_get (D := (dC, dI)) (ci := 12) (v := .ref (ρ h0 2)) (C := RX12) (T := TX12) (N := 53) hx hb hts hfX12 hown hK hP q176 eq176 rfl 2 (by decide) (hts (.fieldLink RX12 7 "ColdShipsModel" "row" "[I") wa_148) (fun _ h9 => h9) rfl dX12_order_154 ?_
                  refine lv_iload hx hb dX12_order_157 (lv_at hl 0 rfl) ?_
                  refine lv_iload_n hx hb dX12_order_159 rfl (lv_at hl 5 rfl) ?_
                  refine va_iast hx hb hK hP hD hS q190 0 eq190 rfl (vp_in_iff.mpr ⟨by omega, by omega⟩) dX12_order_160 (tp_k (.inl (κ 0, 12967, .inl (upd g27 z204.toNatClampNeg u))) hD (tp_in hG y1 (by decide)) eq190 (fun f205 H locs hP hD hS g207 k206 => ?_))
                  have hT := hT.up y1 g207 k206 tp_o32
                  have hR := hR.up y1 (by decide) k206
                  have hU : mo_U (mo_R g27) (mo_R (upd g27 z204.toNatClampNeg u)) (547 + 84 * v.toInt + 44 + 2 * z191.toInt) (u.toInt) := mo_up (by omega) (rfl : u.toInt = _) (by omega)
                  generalize (upd g27 z204.toNatClampNeg u) = g208 at g207 hU
                  have hI := mo_w_ord hI hU v.toInt (0 + 2 * z191.toInt) (by omega) (by omega) (by omega)
                  have pn209 : mo_R g208 (1) = n1 := (hU.ne (by omega) (by omega)).trans en1.symm
                  have pn210 : mo_R g208 (547 + 84 * v.toInt + 10) = z191.toInt := (hU.ne (by omega) (by omega)).trans (jz191).symm
                  have pn211 : mo_R g208 (547 + 84 * v.toInt + 44 + 2 * z191.toInt) = u.toInt := hU.eq (by omega)
                  refine lv_aload_n hx hb dX12_order_161 rfl (lv_at hl 3 rfl) ?_
                  have hf_212 : f205 h0 = .inr (12, [.int 0, .int o28_x1, .ref (ρ h0 2), .ref (ρ h0 3), .ref (ρ h0 4), .ref (ρ h0 5), .ref (ρ h0 6), .int o28_x7, .ref (ρ h0 8), .int o28_x9, .int o28_x10, .int o28_x11, .int o28_x12, .long o28_x13, .int o28_x14, .int o28_x15, .int o28_x16, .int o28_x17, .int o28_x18, .int o28_x19, .int o28_x20, .ref (ρ h0 21), .int o28_x22, .ref (ρ h0 23), .ref (ρ h0 24), .int o28_x25, .ref (ρ h0 26), .ref (ρ h0 27), .int o28_x28, .int o28_x29, .ref (ρ h0 30), .ref (ρ h0 31), .int o28_x32, .long o28_x33, .long o28_x34, .long o28_x35, .int o28_x36, .int o28_x37, .int o28_x38, .ref (ρ h0 39), .ref (ρ h0 40), .ref (ρ h0 41), .ref (ρ h0 42), .ref (ρ h0 43), .ref (ρ h0 44), .ref (ρ h0 45), .ref (ρ h0 46), .int o28_x47, .int o28_x48, .ref (ρ h0 49), .ref (ρ h0 50), .ref (ρ h0 51), .ref (ρ h0 52)]) := (k206 _ (tp_ne ht_h0 y1 (by decide))).trans g32
                  refine tpk_pos (tp_in hG ht_h0 (by decide)) hf_212 (fun q213 eq213 => ?_)
                  refine va_get (D := (dC, dI)) (ci := 12) (v := .ref (ρ h0 2)) (C := RX12) (T := TX12) (N := 53) hx hb hts hfX12 hown hK hP q213 eq213 rfl 2 (by decide) (hts (.fieldLink RX12 7 "ColdShipsModel" "row" "[I") wa_148) (fun _ h9 => h9) rfl dX12_order_162 ?_
                  refine lv_iload hx hb dX12_order_165 (lv_at hl 0 rfl) ?_
                  refine lv_iconst (v := 1) hx hb dX12_order_167 (by decide) ?_
                  refine lv_iadd hx hb dX12_order_168 ?_
                  refine lv_topi (fun z214 ez214 => ?_)
                  have iz214 : z214.toInt = z204.toInt + 1 := zi_add ez214 rfl rfl (by omega) (by omega)
                  refine lv_iload_n hx hb dX12_order_169 rfl (lv_at hl 6 rfl) ?_
                  refine tpk_pos (tp_in hG y1 (by decide)) g207 (fun q215 eq215 => ?_)
                  refine va_iast hx hb hK hP hD hS q215 0 eq215 rfl (vp_in_iff.mpr ⟨by omega, by omega⟩) dX12_order_170 (tp_k (.inl (κ 0, 12967, .inl (upd g208 z214.toNatClampNeg a))) hD (tp_in hG y1 (by decide)) eq215 (fun f216 H locs hP hD hS g218 k217 => ?_))
                  have hT := hT.up y1 g218 k217 tp_o32
                  have hR := hR.up y1 (by decide) k217
                  have hU : mo_U (mo_R g208) (mo_R (upd g208 z214.toNatClampNeg a)) (547 + 84 * v.toInt + 45 + 2 * z191.toInt) (a.toInt) := mo_up (by omega) (rfl : a.toInt = _) (by omega)
                  generalize (upd g208 z214.toNatClampNeg a) = g219 at g218 hU
                  have hI := mo_w_ord hI hU v.toInt (1 + 2 * z191.toInt) (by omega) (by omega) (by omega)
                  have pn220 : mo_R g219 (1) = n1 := (hU.ne (by omega) (by omega)).trans pn209
                  have pn221 : mo_R g219 (547 + 84 * v.toInt + 10) = z191.toInt := (hU.ne (by omega) (by omega)).trans pn210
                  have pn222 : mo_R g219 (547 + 84 * v.toInt + 44 + 2 * z191.toInt) = u.toInt := (hU.ne (by omega) (by omega)).trans pn211
                  have pn223 : mo_R g219 (547 + 84 * v.toInt + 45 + 2 * z191.toInt) = a.toInt := hU.eq (by omega)
                  refine lv_aload_n hx hb dX12_order_171 rfl (lv_at hl 3 rfl) ?_
                  have hf_224 : f216 h0 = .inr (12, [.int 0, .int o28_x1, .ref (ρ h0 2), .ref (ρ h0 3), .ref (ρ h0 4), .ref (ρ h0 5), .ref (ρ h0 6), .int o28_x7, .ref (ρ h0 8), .int o28_x9, .int o28_x10, .int o28_x11, .int o28_x12, .long o28_x13, .int o28_x14, .int o28_x15, .int o28_x16, .int o28_x17, .int o28_x18, .int o28_x19, .int o28_x20, .ref (ρ h0 21), .int o28_x22, .ref (ρ h0 23), .ref (ρ h0 24), .int o28_x25, .ref (ρ h0 26), .ref (ρ h0 27), .int o28_x28, .int o28_x29, .ref (ρ h0 30), .ref (ρ h0 31), .int o28_x32, .long o28_x33, .long o28_x34, .long o28_x35, .int o28_x36, .int o28_x37, .int o28_x38, .ref (ρ h0 39), .ref (ρ h0 40), .ref (ρ h0 41), .ref (ρ h0 42), .ref (ρ h0 43), .ref (ρ h0 44), .ref (ρ h0 45), .ref (ρ h0 46), .int o28_x47, .int o28_x48, .ref (ρ h0 49), .ref (ρ h0 50), .ref (ρ h0 51), .ref (ρ h0 52)]) := (k217 _ (tp_ne ht_h0 y1 (by decide))).trans hf_212
                  refine tpk_pos (tp_in hG ht_h0 (by decide)) hf_224 (fun q225 eq225 => ?_)
                  refine va_get (D := (dC, dI)) (ci := 12) (v := .ref (ρ h0 2)) (C := RX12) (T := TX12) (N := 53) hx hb hts hfX12 hown hK hP q225 eq225 rfl 2 (by decide) (hts (.fieldLink RX12 7 "ColdShipsModel" "row" "[I") wa_148) (fun _ h9 => h9) rfl dX12_order_172 ?_
                  refine lv_iload hx hb dX12_order_175 (lv_at hl 1 rfl) ?_
                  refine lv_bipush (v := 10) hx hb dX12_order_177 (by decide) ?_
                  refine lv_iadd hx hb dX12_order_179 ?_
                  refine lv_topi (fun z226 ez226 => ?_)
                  have iz226 : z226.toInt = r187.toInt + 10 := zi_add ez226 rfl rfl (by omega) (by omega)
                  refine lv_dup2_11 hx hb dX12_order_180 rfl rfl ?_
                  refine tpk_pos (tp_in hG y1 (by decide)) g218 (fun q227 eq227 => ?_)
                  refine va_iald hx hb hK hP q227 0 eq227 rfl (vp_in_iff.mpr ⟨by omega, by omega⟩) dX12_order_181 ?_
                  refine lv_topi (fun z228 ez228 => ?_)
                  have jz228 : z228.toInt = mo_R g219 (547 + 84 * v.toInt + 10) := mo_rd ez228 (by omega)
                  have kz228 := hI.SO (s := v.toInt) (by omega) (by omega)
                  have vz228 : z228.toInt = z191.toInt := jz228.trans pn221
                  refine lv_iconst (v := 1) hx hb dX12_order_182 (by decide) ?_
                  refine lv_iadd hx hb dX12_order_183 ?_
                  refine lv_topi (fun z229 ez229 => ?_)
                  have iz229 : z229.toInt = z228.toInt + 1 := zi_add ez229 rfl rfl (by omega) (by omega)
                  refine va_iast hx hb hK hP hD hS q227 0 eq227 rfl (vp_in_iff.mpr ⟨by omega, by omega⟩) dX12_order_184 (tp_k (.inl (κ 0, 12967, .inl (upd g219 z226.toNatClampNeg z229))) hD (tp_in hG y1 (by decide)) eq227 (fun f230 H locs hP hD hS g232 k231 => ?_))
                  have hT := hT.up y1 g232 k231 tp_o32
                  have hR := hR.up y1 (by decide) k231
                  have hU : mo_U (mo_R g219) (mo_R (upd g219 z226.toNatClampNeg z229)) (547 + 84 * v.toInt + 10) (z229.toInt) := mo_up (by omega) (rfl : z229.toInt = _) (by omega)
                  generalize (upd g219 z226.toNatClampNeg z229) = g233 at g232 hU
                  have hI := mo_w_ORDS hI hU v.toInt (z191.toInt) (by omega) (by omega) pn221 (by omega) (by omega)
                  have pn234 : mo_R g233 (1) = n1 := (hU.ne (by omega) (by omega)).trans pn220
                  have pn235 : mo_R g233 (547 + 84 * v.toInt + 44 + 2 * z191.toInt) = u.toInt := (hU.ne (by omega) (by omega)).trans pn222
                  have pn236 : mo_R g233 (547 + 84 * v.toInt + 45 + 2 * z191.toInt) = a.toInt := (hU.ne (by omega) (by omega)).trans pn223
                  have pn237 : mo_R g233 (547 + 84 * v.toInt + 10) = z229.toInt := hU.eq (by omega)
                  refine lv_aload_n hx hb dX12_order_185 rfl (lv_at hl 3 rfl) ?_
                  have hf_238 : f230 h0 = .inr (12, [.int 0, .int o28_x1, .ref (ρ h0 2), .ref (ρ h0 3), .ref (ρ h0 4), .ref (ρ h0 5), .ref (ρ h0 6), .int o28_x7, .ref (ρ h0 8), .int o28_x9, .int o28_x10, .int o28_x11, .int o28_x12, .long o28_x13, .int o28_x14, .int o28_x15, .int o28_x16, .int o28_x17, .int o28_x18, .int o28_x19, .int o28_x20, .ref (ρ h0 21), .int o28_x22, .ref (ρ h0 23), .ref (ρ h0 24), .int o28_x25, .ref (ρ h0 26), .ref (ρ h0 27), .int o28_x28, .int o28_x29, .ref (ρ h0 30), .ref (ρ h0 31), .int o28_x32, .long o28_x33, .long o28_x34, .long o28_x35, .int o28_x36, .int o28_x37, .int o28_x38, .ref (ρ h0 39), .ref (ρ h0 40), .ref (ρ h0 41), .ref (ρ h0 42), .ref (ρ h0 43), .ref (ρ h0 44), .ref (ρ h0 45), .ref (ρ h0 46), .int o28_x47, .int o28_x48, .ref (ρ h0 49), .ref (ρ h0 50), .ref (ρ h0 51), .ref (ρ h0 52)]) := (k231 _ (tp_ne ht_h0 y1 (by decide))).trans hf_224
                  refine tpk_pos (tp_in hG ht_h0 (by decide)) hf_238 (fun q239 eq239 => ?_)
                  refine va_get (D := (dC, dI)) (ci := 12) (v := .ref (ρ h0 2)) (C := RX12) (T := TX12) (N := 53) hx hb hts hfX12 hown hK hP q239 eq239 rfl 2 (by decide) (hts (.fieldLink RX12 7 "ColdShipsModel" "row" "[I") wa_148) (fun _ h9 => h9) rfl dX12_order_186 ?_
                  refine lv_iconst (v := 4) hx hb dX12_order_189 (by decide) ?_
                  refine lv_dup2_11 hx hb dX12_order_190 rfl rfl ?_
                  refine tpk_pos (tp_in hG y1 (by decide)) g232 (fun q240 eq240 => ?_)
                  refine va_iald hx hb hK hP q240 0 eq240 rfl (vp_in_iff.mpr ⟨by decide, by decide⟩) dX12_order_191 ?_
                  refine lv_topi (fun z241 ez241 => ?_)
                  refine lv_iconst (v := 1) hx hb dX12_order_192 (by decide) ?_
                  refine lv_iadd hx hb dX12_order_193 ?_
                  refine lv_topi (fun z242 ez242 => ?_)
                  refine va_iast hx hb hK hP hD hS q240 0 eq240 rfl (vp_in_iff.mpr ⟨by decide, by decide⟩) dX12_order_194 (tp_k (.inl (κ 0, 12967, .inl (upd g233 (4 : Int32).toNatClampNeg z242))) hD (tp_in hG y1 (by decide)) eq240 (fun f243 H locs hP hD hS g245 k244 => ?_))
                  have hT := hT.up y1 g245 k244 tp_o32
                  have hR := hR.up y1 (by decide) k244
                  have hU : mo_U (mo_R g233) (mo_R (upd g233 (4 : Int32).toNatClampNeg z242)) (4) (z242.toInt) := mo_up (show (4 : Int32).toInt = (4) from by decide) (rfl : z242.toInt = _) (by omega)
                  generalize (upd g233 (4 : Int32).toNatClampNeg z242) = g246 at g245 hU
                  have hI := mo_w_flat hI hU (by omega)
                  have pn247 : mo_R g246 (1) = n1 := (hU.ne (by omega) (by omega)).trans pn234
                  have pn248 : mo_R g246 (547 + 84 * v.toInt + 44 + 2 * z191.toInt) = u.toInt := (hU.ne (by omega) (by omega)).trans pn235
                  have pn249 : mo_R g246 (547 + 84 * v.toInt + 45 + 2 * z191.toInt) = a.toInt := (hU.ne (by omega) (by omega)).trans pn236
                  have pn250 : mo_R g246 (547 + 84 * v.toInt + 10) = z229.toInt := (hU.ne (by omega) (by omega)).trans pn237
                  refine lv_aload_n hx hb dX12_order_195 rfl (lv_at hl 3 rfl) ?_
                  have hf_251 : f243 h0 = .inr (12, [.int 0, .int o28_x1, .ref (ρ h0 2), .ref (ρ h0 3), .ref (ρ h0 4), .ref (ρ h0 5), .ref (ρ h0 6), .int o28_x7, .ref (ρ h0 8), .int o28_x9, .int o28_x10, .int o28_x11, .int o28_x12, .long o28_x13, .int o28_x14, .int o28_x15, .int o28_x16, .int o28_x17, .int o28_x18, .int o28_x19, .int o28_x20, .ref (ρ h0 21), .int o28_x22, .ref (ρ h0 23), .ref (ρ h0 24), .int o28_x25, .ref (ρ h0 26), .ref (ρ h0 27), .int o28_x28, .int o28_x29, .ref (ρ h0 30), .ref (ρ h0 31), .int o28_x32, .long o28_x33, .long o28_x34, .long o28_x35, .int o28_x36, .int o28_x37, .int o28_x38, .ref (ρ h0 39), .ref (ρ h0 40), .ref (ρ h0 41), .ref (ρ h0 42), .ref (ρ h0 43), .ref (ρ h0 44), .ref (ρ h0 45), .ref (ρ h0 46), .int o28_x47, .int o28_x48, .ref (ρ h0 49), .ref (ρ h0 50), .ref (ρ h0 51), .ref (ρ h0 52)]) := (k244 _ (tp_ne ht_h0 y1 (by decide))).trans hf_238
                  refine tpk_pos (tp_in hG ht_h0 (by decide)) hf_251 (fun q252 eq252 => ?_)
                  refine va_get (D := (dC, dI)) (ci := 12) (v := .ref (ρ h0 2)) (C := RX12) (T := TX12) (N := 53) hx hb hts hfX12 hown hK hP q252 eq252 rfl 2 (by decide) (hts (.fieldLink RX12 7 "ColdShipsModel" "row" "[I") wa_148) (fun _ h9 => h9) rfl dX12_order_196 ?_
                  refine lv_iload hx hb dX12_order_199 (lv_at hl 1 rfl) ?_
                  refine lv_bipush (v := 10) hx hb dX12_order_201 (by decide) ?_
                  refine lv_iadd hx hb dX12_order_203 ?_
                  refine lv_topi (fun z253 ez253 => ?_)
                  have iz253 : z253.toInt = r187.toInt + 10 := zi_add ez253 rfl rfl (by omega) (by omega)
                  refine tpk_pos (tp_in hG y1 (by decide)) g245 (fun q254 eq254 => ?_)
                  refine va_iald hx hb hK hP q254 0 eq254 rfl (vp_in_iff.mpr ⟨by omega, by omega⟩) dX12_order_204 ?_
                  refine lv_topi (fun z255 ez255 => ?_)
                  have jz255 : z255.toInt = mo_R g246 (547 + 84 * v.toInt + 10) := mo_rd ez255 (by omega)
                  have kz255 := hI.SO (s := v.toInt) (by omega) (by omega)
                  have vz255 : z255.toInt = z229.toInt := jz255.trans pn250
                  refine lv_iconst (v := 1) hx hb dX12_order_205 (by decide) ?_
                  refine lv_icmp_ne (tgt := 215) hx hb dX12_order_206 (by decide) (fun c256 => ?_) (fun c256 => ?_)
                  · have ic256 : z255.toInt ≠ 1 := zi_ne rfl rfl c256
                    replace ic256 : 2 ≤ z255.toInt := by omega
                    refine lv_aload_n hx hb dX12_order_215 rfl (lv_at hl 3 rfl) ?_
                    refine lv_aload_n hx hb dX12_order_216 rfl (lv_at hl 3 rfl) ?_
                    refine va_get (D := (dC, dI)) (ci := 12) (v := .ref (ρ h0 2)) (C := RX12) (T := TX12) (N := 53) hx hb hts hfX12 hown hK hP q252 eq252 rfl 2 (by decide) (hts (.fieldLink RX12 7 "ColdShipsModel" "row" "[I") wa_148) (fun _ h9 => h9) rfl dX12_order_217 ?_
                    refine lv_iload hx hb dX12_order_220 (lv_at hl 1 rfl) ?_
                    refine lv_bipush (v := 10) hx hb dX12_order_222 (by decide) ?_
                    refine lv_iadd hx hb dX12_order_224 ?_
                    refine lv_topi (fun z257 ez257 => ?_)
                    have iz257 : z257.toInt = r187.toInt + 10 := zi_add ez257 rfl rfl (by omega) (by omega)
                    refine va_iald hx hb hK hP q254 0 eq254 rfl (vp_in_iff.mpr ⟨by omega, by omega⟩) dX12_order_225 ?_
                    refine lv_topi (fun z258 ez258 => ?_)
                    have jz258 : z258.toInt = mo_R g246 (547 + 84 * v.toInt + 10) := mo_rd ez258 (by omega)
                    have kz258 := hI.SO (s := v.toInt) (by omega) (by omega)
                    have vz258 : z258.toInt = z229.toInt := jz258.trans pn250
                    have hFc := tp_fr hD hS hA
                    refine va_calli (va_runV (As := [.int z258]) (rest := []) ⟨hx, hb, hml, hown, hts⟩ (t_X12_told l dC dI _ κ τ ν ρ L f243 hG hT h0 z258 ht_h0) (cwV 1 hts gX12_order_X12_told rfl rfl rfl ⟨rfl, pd_X12_told⟩ ⟨Nat.le_of_ble_eq_true rfl, Nat.le_of_ble_eq_true rfl⟩) ⟨pz_blind, va_recv hK hP (ci := 12) (q0 := q252) rfl eq252, pz_pre hP hK hD hN⟩ rfl rfl hl.1 rfl (lv_room (Nat.le_of_ble_eq_true rfl)) dX12_order_226 ⟨Nat.le_of_ble_eq_true rfl, Nat.le_of_ble_eq_true rfl⟩) hS (fun q _ h => hFc q h) hFc (fun r259 f261 t H1 locs ht hvm hw260 hB hz1 hk1 hS => ?_)
                    refine tn_4 hw260 (fun hT hF262 hw260r hw260p => ?_); clear hw260
                    have hR := hR.then hF262 (by decide)
                    have hP := hB.1; rw [ht] at hP; have hD := tp_ad f261 hD; clear hB hFc hz1 hk1; subst ht; generalize t.heap = H at hP hS ⊢
                    have hw260pq : r259.toInt = z258.toInt := by rw [hw260p]
                    have hf_263 : f261 (ρ h0 2) = .inl (κ 0, 12967, .inl g246) := (hF262 _ (by rw [y1]; decide)).trans g245
                    exact W.iret (v := r259) hx hb hr (fun t ht hW => ⟨⟨r259, f261, rfl, ⟨hT, hR, trivial, (by rw [hf_263, mo_i1]; exact hI)⟩, by rw [ht]; exact hP, va_K.moved hW.alike hK, hD⟩, hS.F ht⟩) hS.2.2 dX12_order_229
                  · have ic256 : z255.toInt = 1 := zi_nef rfl rfl c256
                    refine lv_aload_n hx hb dX12_order_209 rfl (lv_at hl 3 rfl) ?_
                    refine lv_iload hx hb dX12_order_210 (lv_at hl 1 rfl) ?_
                    have hFc := tp_fr hD hS hA
                    refine va_callv (va_runV (As := [.int r187]) (rest := []) ⟨hx, hb, hml, hown, hts⟩ (t_X12_beginOrder l dC dI _ κ τ ν ρ L f243 hG hT h0 r187 (-1) 0 v.toInt ht_h0 (by omega) (by omega) (by omega) (by rw [g245, mo_i1]; exact hI) (by first | (simp only [g245, hf_o26, mo_i1]; omega) | (simp only [g245, hf_o26, mo_i1]; trivial) | (simp only [g245, hf_o26, mo_i1]; done) | omega)) (cwV 1 hts gX12_order_X12_beginOrder rfl rfl rfl ⟨rfl, pd_X12_beginOrder⟩ ⟨Nat.le_of_ble_eq_true rfl, Nat.le_of_ble_eq_true rfl⟩) ⟨pz_blind, va_recv hK hP (ci := 12) (q0 := q252) rfl eq252, pz_pre hP hK hD hN⟩ rfl rfl hl.1 rfl (lv_room (Nat.le_of_ble_eq_true rfl)) dX12_order_212 ⟨Nat.le_of_ble_eq_true rfl, Nat.le_of_ble_eq_true rfl⟩) hS (fun q _ h => hFc q h) hFc (fun f266 t H1 locs ht hvm hw265 hB hz1 hk1 hS => ?_)
                    refine tn_3 hw265 (fun hT hF267 hw265p => ?_); clear hw265
                    have hR := hR.then hF267 (by decide)
                    have hP := hB.1; rw [ht] at hP; have hD := tp_ad f266 hD; clear hB hFc hz1 hk1; subst ht; generalize t.heap = H at hP hS ⊢
                    obtain ⟨hJ, hw265pe⟩ := hw265p
                    refine tpk_32 hT y1 (fun g269 hf_o268 => ?_)
                    have hI : mo_RI (-1) 0 (mo_R g269) := by have q9 := hJ; rw [hf_o268, mo_i1] at q9; exact q9
                    rw [g245, mo_i1] at hw265pe
                    rw [hf_o268, mo_i1] at hw265pe
                    have pn270 : mo_R g269 (1) = n1 := (hw265pe.1).trans pn247
                    have pn271 : mo_R g269 (547 + 84 * v.toInt + 10) = z229.toInt := (hw265pe.2.2).trans pn250
                    refine lv_aload_n hx hb dX12_order_215 rfl (lv_at hl 3 rfl) ?_
                    refine lv_aload_n hx hb dX12_order_216 rfl (lv_at hl 3 rfl) ?_
                    have hf_272 : f266 h0 = .inr (12, [.int 0, .int o28_x1, .ref (ρ h0 2), .ref (ρ h0 3), .ref (ρ h0 4), .ref (ρ h0 5), .ref (ρ h0 6), .int o28_x7, .ref (ρ h0 8), .int o28_x9, .int o28_x10, .int o28_x11, .int o28_x12, .long o28_x13, .int o28_x14, .int o28_x15, .int o28_x16, .int o28_x17, .int o28_x18, .int o28_x19, .int o28_x20, .ref (ρ h0 21), .int o28_x22, .ref (ρ h0 23), .ref (ρ h0 24), .int o28_x25, .ref (ρ h0 26), .ref (ρ h0 27), .int o28_x28, .int o28_x29, .ref (ρ h0 30), .ref (ρ h0 31), .int o28_x32, .long o28_x33, .long o28_x34, .long o28_x35, .int o28_x36, .int o28_x37, .int o28_x38, .ref (ρ h0 39), .ref (ρ h0 40), .ref (ρ h0 41), .ref (ρ h0 42), .ref (ρ h0 43), .ref (ρ h0 44), .ref (ρ h0 45), .ref (ρ h0 46), .int o28_x47, .int o28_x48, .ref (ρ h0 49), .ref (ρ h0 50), .ref (ρ h0 51), .ref (ρ h0 52)]) := (hF267 _ (by rw [ht_h0]; decide)).trans hf_251
                    refine tpk_pos (tp_in hG ht_h0 (by decide)) hf_272 (fun q273 eq273 => ?_)
                    refine va_get (D := (dC, dI)) (ci := 12) (v := .ref (ρ h0 2)) (C := RX12) (T := TX12) (N := 53) hx hb hts hfX12 hown hK hP q273 eq273 rfl 2 (by decide) (hts (.fieldLink RX12 7 "ColdShipsModel" "row" "[I") wa_148) (fun _ h9 => h9) rfl dX12_order_217 ?_
                    refine lv_iload hx hb dX12_order_220 (lv_at hl 1 rfl) ?_
                    refine lv_bipush (v := 10) hx hb dX12_order_222 (by decide) ?_
                    refine lv_iadd hx hb dX12_order_224 ?_
                    refine lv_topi (fun z274 ez274 => ?_)
                    have iz274 : z274.toInt = r187.toInt + 10 := zi_add ez274 rfl rfl (by omega) (by omega)
                    refine tpk_pos (tp_in hG y1 (by decide)) hf_o268 (fun q275 eq275 => ?_)
                    refine va_iald hx hb hK hP q275 0 eq275 rfl (vp_in_iff.mpr ⟨by omega, by omega⟩) dX12_order_225 ?_
                    refine lv_topi (fun z276 ez276 => ?_)
                    have jz276 : z276.toInt = mo_R g269 (547 + 84 * v.toInt + 10) := mo_rd ez276 (by omega)
                    have kz276 := hI.SO (s := v.toInt) (by omega) (by omega)
                    have vz276 : z276.toInt = z229.toInt := jz276.trans pn271
                    have hFc := tp_fr hD hS hA
                    refine va_calli (va_runV (As := [.int z276]) (rest := []) ⟨hx, hb, hml, hown, hts⟩ (t_X12_told l dC dI _ κ τ ν ρ L f266 hG hT h0 z276 ht_h0) (cwV 1 hts gX12_order_X12_told rfl rfl rfl ⟨rfl, pd_X12_told⟩ ⟨Nat.le_of_ble_eq_true rfl, Nat.le_of_ble_eq_true rfl⟩) ⟨pz_blind, va_recv hK hP (ci := 12) (q0 := q273) rfl eq273, pz_pre hP hK hD hN⟩ rfl rfl hl.1 rfl (lv_room (Nat.le_of_ble_eq_true rfl)) dX12_order_226 ⟨Nat.le_of_ble_eq_true rfl, Nat.le_of_ble_eq_true rfl⟩) hS (fun q _ h => hFc q h) hFc (fun r277 f279 t H1 locs ht hvm hw278 hB hz1 hk1 hS => ?_)
                    refine tn_4 hw278 (fun hT hF280 hw278r hw278p => ?_); clear hw278
                    have hR := hR.then hF280 (by decide)
                    have hP := hB.1; rw [ht] at hP; have hD := tp_ad f279 hD; clear hB hFc hz1 hk1; subst ht; generalize t.heap = H at hP hS ⊢
                    have hw278pq : r277.toInt = z276.toInt := by rw [hw278p]
                    have hf_281 : f279 (ρ h0 2) = .inl (κ 0, 12967, .inl g269) := (hF280 _ (by rw [y1]; decide)).trans hf_o268
                    exact W.iret (v := r277) hx hb hr (fun t ht hW => ⟨⟨r277, f279, rfl, ⟨hT, hR, trivial, (by rw [hf_281, mo_i1]; exact hI)⟩, by rw [ht]; exact hP, va_K.moved hW.alike hK, hD⟩, hS.F ht⟩) hS.2.2 dX12_order_229
                · have ic199 : z198.toInt = 400 := zi_nef rfl rfl c199
                  refine lv_aload_n hx hb dX12_order_126 rfl (lv_at hl 2 rfl) ?_
                  refine lv_bipush (v := (-5)) hx hb dX12_order_127 (by decide) ?_
                  have hFc := tp_fr hD hS hA
                  refine va_calli (va_runV (As := [.int (-5)]) (rest := []) ⟨hx, hb, hml, hown, hts⟩ (t_X12_told l dC dI _ κ τ ν ρ L f30 hG hT h0 ((-5)) ht_h0) (cwV 1 hts gX12_order_X12_told rfl rfl rfl ⟨rfl, pd_X12_told⟩ ⟨Nat.le_of_ble_eq_true rfl, Nat.le_of_ble_eq_true rfl⟩) ⟨pz_blind, va_recv hK hP (ci := 12) (q0 := q176) rfl eq176, pz_pre hP hK hD hN⟩ rfl rfl hl.1 rfl (lv_room (Nat.le_of_ble_eq_true rfl)) dX12_order_129 ⟨Nat.le_of_ble_eq_true rfl, Nat.le_of_ble_eq_true rfl⟩) hS (fun q _ h => hFc q h) hFc (fun r282 f284 t H1 locs ht hvm hw283 hB hz1 hk1 hS => ?_)
                  refine tn_4 hw283 (fun hT hF285 hw283r hw283p => ?_); clear hw283
                  have hR := hR.then hF285 (by decide)
                  have hP := hB.1; rw [ht] at hP; have hD := tp_ad f284 hD; clear hB hFc hz1 hk1; subst ht; generalize t.heap = H at hP hS ⊢
                  have hw283pq : r282.toInt = (-5) := by rw [hw283p]; rfl
                  have hf_286 : f284 (ρ h0 2) = .inl (κ 0, 12967, .inl g27) := (hF285 _ (by rw [y1]; decide)).trans hf_33
                  exact W.iret (v := r282) hx hb hr (fun t ht hW => ⟨⟨r282, f284, rfl, ⟨hT, hR, trivial, (by rw [hf_286, mo_i1]; exact hI)⟩, by rw [ht]; exact hP, va_K.moved hW.alike hK, hD⟩, hS.F ht⟩) hS.2.2 dX12_order_132
            · have ic186 : u.toInt = 0 := zi_nef rfl rfl c186
              exfalso; omega
      · have ic165 : u.toInt = 3 := zi_nef rfl rfl c165
        refine lv_iload_n hx hb dX12_order_26 rfl (lv_at hl 3 rfl) ?_
        refine pz_calli (va_runS (As := [.int a]) (rest := []) ⟨hx, hb, hml, hown, hts⟩ (t_X12_isHour l dC dI _ a (a.toInt) rfl) (va_cwS 1 hts gX12_order_X12_isHour rfl rfl rfl pd_X12_isHour ⟨Nat.le_of_ble_eq_true rfl, Nat.le_of_ble_eq_true rfl⟩) ⟨pz_blind, pz_pre pz_P0 (hK.sub (tys' := []) [] rfl) (pz_D0 (A := fun _ => True)) hN⟩ rfl rfl hl.1 rfl (lv_room (Nat.le_of_ble_eq_true rfl)) dX12_order_27 ⟨Nat.le_of_ble_eq_true rfl, Nat.le_of_ble_eq_true rfl⟩) (fun r287 hw288 => ?_)
        obtain ⟨hw288r, hw288p⟩ := hw288
        refine lv_if_eq (tgt := 52) hx hb dX12_order_30 (by decide) (fun c289 => ?_) (fun c289 => ?_)
        · have ic289 : r287.toInt = 0 := zi_eq rfl rfl c289
          refine lv_iconst (v := 0) hx hb dX12_order_52 (by decide) ?_
          refine lv_istore (lv' := [(4, .int 0), (0, .ref h0), (1, .int v), (2, .int u), (3, .int a)]) hx hb dX12_order_53 hl (by decide) rfl (fun ls hl => ?_)
          refine lv_iload hx hb dX12_order_55 (lv_at hl 0 rfl) ?_
          refine lv_if_ne (tgt := 66) hx hb dX12_order_57 (by decide) (fun c9 => absurd c9 (by decide)) (fun _ => ?_)
          refine lv_aload_n hx hb dX12_order_60 rfl (lv_at hl 1 rfl) ?_
          refine lv_iconst (v := (-1)) hx hb dX12_order_61 (by decide) ?_
          refine tpk_pos (tp_in hG ht_h0 (by decide)) g32 (fun q290 eq290 => ?_)
          have hFc := tp_fr hD hS hA
          refine va_calli (va_runV (As := [.int (-1)]) (rest := []) ⟨hx, hb, hml, hown, hts⟩ (t_X12_told l dC dI _ κ τ ν ρ L f30 hG hT h0 ((-1)) ht_h0) (cwV 1 hts gX12_order_X12_told rfl rfl rfl ⟨rfl, pd_X12_told⟩ ⟨Nat.le_of_ble_eq_true rfl, Nat.le_of_ble_eq_true rfl⟩) ⟨pz_blind, va_recv hK hP (ci := 12) (q0 := q290) rfl eq290, pz_pre hP hK hD hN⟩ rfl rfl hl.1 rfl (lv_room (Nat.le_of_ble_eq_true rfl)) dX12_order_62 ⟨Nat.le_of_ble_eq_true rfl, Nat.le_of_ble_eq_true rfl⟩) hS (fun q _ h => hFc q h) hFc (fun r291 f293 t H1 locs ht hvm hw292 hB hz1 hk1 hS => ?_)
          refine tn_4 hw292 (fun hT hF294 hw292r hw292p => ?_); clear hw292
          have hR := hR.then hF294 (by decide)
          have hP := hB.1; rw [ht] at hP; have hD := tp_ad f293 hD; clear hB hFc hz1 hk1; subst ht; generalize t.heap = H at hP hS ⊢
          have hw292pq : r291.toInt = (-1) := by rw [hw292p]; rfl
          have hf_295 : f293 (ρ h0 2) = .inl (κ 0, 12967, .inl g27) := (hF294 _ (by rw [y1]; decide)).trans hf_33
          exact W.iret (v := r291) hx hb hr (fun t ht hW => ⟨⟨r291, f293, rfl, ⟨hT, hR, trivial, (by rw [hf_295, mo_i1]; exact hI)⟩, by rw [ht]; exact hP, va_K.moved hW.alike hK, hD⟩, hS.F ht⟩) hS.2.2 dX12_order_65
        · have ic289 : r287.toInt ≠ 0 := zi_eqf rfl rfl c289
          replace ic289 : 1 ≤ r287.toInt := by omega
          have p296 : 0 ≤ (a.toInt) ∧ (a.toInt) ≤ 2399 := (tp_cond.yes hw288p) (by omega)
          refine lv_goto (tgt := 48) hx hb dX12_order_33 (by decide) ?_
          refine lv_iconst (v := 1) hx hb dX12_order_48 (by decide) ?_
          refine lv_goto (tgt := 53) hx hb dX12_order_49 (by decide) ?_
          refine lv_istore (lv' := [(4, .int 1), (0, .ref h0), (1, .int v), (2, .int u), (3, .int a)]) hx hb dX12_order_53 hl (by decide) rfl (fun ls hl => ?_)
          refine lv_iload hx hb dX12_order_55 (lv_at hl 0 rfl) ?_
          refine lv_if_ne (tgt := 66) hx hb dX12_order_57 (by decide) (fun _ => ?_) (fun c9 => absurd c9 (by decide))
          refine lv_aload_n hx hb dX12_order_66 rfl (lv_at hl 1 rfl) ?_
          refine lv_iload_n hx hb dX12_order_67 rfl (lv_at hl 2 rfl) ?_
          refine tpk_pos (tp_in hG ht_h0 (by decide)) g32 (fun q297 eq297 => ?_)
          refine pz_calli (va_runV (As := [.int v]) (rest := []) ⟨hx, hb, hml, hown, hts⟩ (t_X12_isShip l dC dI _ κ τ ν ρ L f30 hG hT h0 v (-1) 0 ht_h0 (by omega) (by rw [hf_33, mo_i1]; exact hI)) (cwV 1 hts gX12_order_X12_isShip rfl rfl rfl ⟨rfl, pd_X12_isShip⟩ ⟨Nat.le_of_ble_eq_true rfl, Nat.le_of_ble_eq_true rfl⟩) ⟨pz_blind, va_recv hK hP (ci := 12) (q0 := q297) rfl eq297, pz_pre hP hK hD hN⟩ rfl rfl hl.1 rfl (lv_room (Nat.le_of_ble_eq_true rfl)) dX12_order_68 ⟨Nat.le_of_ble_eq_true rfl, Nat.le_of_ble_eq_true rfl⟩) (fun r298 hw299 => ?_)
          obtain ⟨hw299r, hw299p⟩ := hw299
          have := hI.k1
          rw [hf_33, mo_i1] at hw299p
          refine lv_if_eq (tgt := 86) hx hb dX12_order_71 (by decide) (fun c300 => ?_) (fun c300 => ?_)
          · have ic300 : r298.toInt = 0 := zi_eq rfl rfl c300
            refine lv_aload_n hx hb dX12_order_86 rfl (lv_at hl 1 rfl) ?_
            refine lv_bipush (v := (-2)) hx hb dX12_order_87 (by decide) ?_
            have hFc := tp_fr hD hS hA
            refine va_calli (va_runV (As := [.int (-2)]) (rest := []) ⟨hx, hb, hml, hown, hts⟩ (t_X12_told l dC dI _ κ τ ν ρ L f30 hG hT h0 ((-2)) ht_h0) (cwV 1 hts gX12_order_X12_told rfl rfl rfl ⟨rfl, pd_X12_told⟩ ⟨Nat.le_of_ble_eq_true rfl, Nat.le_of_ble_eq_true rfl⟩) ⟨pz_blind, va_recv hK hP (ci := 12) (q0 := q297) rfl eq297, pz_pre hP hK hD hN⟩ rfl rfl hl.1 rfl (lv_room (Nat.le_of_ble_eq_true rfl)) dX12_order_89 ⟨Nat.le_of_ble_eq_true rfl, Nat.le_of_ble_eq_true rfl⟩) hS (fun q _ h => hFc q h) hFc (fun r301 f303 t H1 locs ht hvm hw302 hB hz1 hk1 hS => ?_)
            refine tn_4 hw302 (fun hT hF304 hw302r hw302p => ?_); clear hw302
            have hR := hR.then hF304 (by decide)
            have hP := hB.1; rw [ht] at hP; have hD := tp_ad f303 hD; clear hB hFc hz1 hk1; subst ht; generalize t.heap = H at hP hS ⊢
            have hw302pq : r301.toInt = (-2) := by rw [hw302p]; rfl
            have hf_305 : f303 (ρ h0 2) = .inl (κ 0, 12967, .inl g27) := (hF304 _ (by rw [y1]; decide)).trans hf_33
            exact W.iret (v := r301) hx hb hr (fun t ht hW => ⟨⟨r301, f303, rfl, ⟨hT, hR, trivial, (by rw [hf_305, mo_i1]; exact hI)⟩, by rw [ht]; exact hP, va_K.moved hW.alike hK, hD⟩, hS.F ht⟩) hS.2.2 dX12_order_92
          · have ic300 : r298.toInt ≠ 0 := zi_eqf rfl rfl c300
            replace ic300 : 1 ≤ r298.toInt := by omega
            have p306 : 0 ≤ v.toInt ∧ v.toInt < mo_R g27 1 := (tp_cond.yes hw299p) (by omega)
            refine lv_iload_n hx hb dX12_order_74 rfl (lv_at hl 3 rfl) ?_
            refine lv_if_ne (tgt := 93) hx hb dX12_order_75 (by decide) (fun c307 => ?_) (fun c307 => ?_)
            · have ic307 : u.toInt ≠ 0 := zi_ne rfl rfl c307
              refine lv_iload_n hx hb dX12_order_93 rfl (lv_at hl 2 rfl) ?_
              refine pz_calli (va_runS (As := [.int v]) (rest := []) ⟨hx, hb, hml, hown, hts⟩ (t_X12_shipAt l dC dI _ v (v.toInt) (by omega) rfl) (va_cwS 1 hts gX12_order_X12_shipAt rfl rfl rfl pd_X12_shipAt ⟨Nat.le_of_ble_eq_true rfl, Nat.le_of_ble_eq_true rfl⟩) ⟨pz_blind, pz_pre pz_P0 (hK.sub (tys' := []) [] rfl) (pz_D0 (A := fun _ => True)) hN⟩ rfl rfl hl.1 rfl (lv_room (Nat.le_of_ble_eq_true rfl)) dX12_order_94 ⟨Nat.le_of_ble_eq_true rfl, Nat.le_of_ble_eq_true rfl⟩) (fun r308 hw309 => ?_)
              obtain ⟨hw309r, hw309p⟩ := hw309
              refine lv_istore (lv' := [(5, .int r308), (4, .int 1), (0, .ref h0), (1, .int v), (2, .int u), (3, .int a)]) hx hb dX12_order_97 hl (by decide) rfl (fun ls hl => ?_)
              refine lv_aload_n hx hb dX12_order_99 rfl (lv_at hl 2 rfl) ?_
              refine va_get (D := (dC, dI)) (ci := 12) (v := .ref (ρ h0 2)) (C := RX12) (T := TX12) (N := 53) hx hb hts hfX12 hown hK hP q297 eq297 rfl 2 (by decide) (hts (.fieldLink RX12 7 "ColdShipsModel" "row" "[I") wa_148) (fun _ h9 => h9) rfl dX12_order_100 ?_
              refine lv_iload hx hb dX12_order_103 (lv_at hl 0 rfl) ?_
              refine lv_bipush (v := 10) hx hb dX12_order_105 (by decide) ?_
              refine lv_iadd hx hb dX12_order_107 ?_
              refine lv_topi (fun z310 ez310 => ?_)
              have iz310 : z310.toInt = r308.toInt + 10 := zi_add ez310 rfl rfl (by omega) (by omega)
              refine tpk_pos (tp_in hG y1 (by decide)) hf_33 (fun q311 eq311 => ?_)
              refine va_iald hx hb hK hP q311 0 eq311 rfl (vp_in_iff.mpr ⟨by omega, by omega⟩) dX12_order_108 ?_
              refine lv_topi (fun z312 ez312 => ?_)
              have jz312 : z312.toInt = mo_R g27 (547 + 84 * v.toInt + 10) := mo_rd ez312 (by omega)
              have kz312 := hI.SO (s := v.toInt) (by omega) (by omega)
              refine lv_bipush (v := 20) hx hb dX12_order_109 (by decide) ?_
              refine lv_icmp_eq (tgt := 126) hx hb dX12_order_111 (by decide) (fun c313 => ?_) (fun c313 => ?_)
              · have ic313 : z312.toInt = 20 := zi_eq rfl rfl c313
                refine lv_aload_n hx hb dX12_order_126 rfl (lv_at hl 2 rfl) ?_
                refine lv_bipush (v := (-5)) hx hb dX12_order_127 (by decide) ?_
                have hFc := tp_fr hD hS hA
                refine va_calli (va_runV (As := [.int (-5)]) (rest := []) ⟨hx, hb, hml, hown, hts⟩ (t_X12_told l dC dI _ κ τ ν ρ L f30 hG hT h0 ((-5)) ht_h0) (cwV 1 hts gX12_order_X12_told rfl rfl rfl ⟨rfl, pd_X12_told⟩ ⟨Nat.le_of_ble_eq_true rfl, Nat.le_of_ble_eq_true rfl⟩) ⟨pz_blind, va_recv hK hP (ci := 12) (q0 := q297) rfl eq297, pz_pre hP hK hD hN⟩ rfl rfl hl.1 rfl (lv_room (Nat.le_of_ble_eq_true rfl)) dX12_order_129 ⟨Nat.le_of_ble_eq_true rfl, Nat.le_of_ble_eq_true rfl⟩) hS (fun q _ h => hFc q h) hFc (fun r314 f316 t H1 locs ht hvm hw315 hB hz1 hk1 hS => ?_)
                refine tn_4 hw315 (fun hT hF317 hw315r hw315p => ?_); clear hw315
                have hR := hR.then hF317 (by decide)
                have hP := hB.1; rw [ht] at hP; have hD := tp_ad f316 hD; clear hB hFc hz1 hk1; subst ht; generalize t.heap = H at hP hS ⊢
                have hw315pq : r314.toInt = (-5) := by rw [hw315p]; rfl
                have hf_318 : f316 (ρ h0 2) = .inl (κ 0, 12967, .inl g27) := (hF317 _ (by rw [y1]; decide)).trans hf_33
                exact W.iret (v := r314) hx hb hr (fun t ht hW => ⟨⟨r314, f316, rfl, ⟨hT, hR, trivial, (by rw [hf_318, mo_i1]; exact hI)⟩, by rw [ht]; exact hP, va_K.moved hW.alike hK, hD⟩, hS.F ht⟩) hS.2.2 dX12_order_132
              · have ic313 : z312.toInt ≠ 20 := zi_eqf rfl rfl c313
                replace ic313 : z312.toInt ≤ 19 := by omega
                refine lv_aload_n hx hb dX12_order_114 rfl (lv_at hl 2 rfl) ?_
                refine va_get (D := (dC, dI)) (ci := 12) (v := .ref (ρ h0 2)) (C := RX12) (T := TX12) (N := 53) hx hb hts hfX12 hown hK hP q297 eq297 rfl 2 (by decide) (hts (.fieldLink RX12 7 "ColdShipsModel" "row" "[I") wa_148) (fun _ h9 => h9) rfl dX12_order_115 ?_
                refine lv_iconst (v := 4) hx hb dX12_order_118 (by decide) ?_
                refine va_iald hx hb hK hP q311 0 eq311 rfl (vp_in_iff.mpr ⟨by decide, by decide⟩) dX12_order_119 ?_
                refine lv_topi (fun z319 ez319 => ?_)
                refine lv_sipush (v := 400) hx hb dX12_order_120 (by decide) ?_
                refine lv_icmp_ne (tgt := 133) hx hb dX12_order_123 (by decide) (fun c320 => ?_) (fun c320 => ?_)
                · have ic320 : z319.toInt ≠ 400 := zi_ne rfl rfl c320
                  refine lv_iload hx hb dX12_order_133 (lv_at hl 0 rfl) ?_
                  refine lv_bipush (v := 44) hx hb dX12_order_135 (by decide) ?_
                  refine lv_iadd hx hb dX12_order_137 ?_
                  refine lv_topi (fun z321 ez321 => ?_)
                  have iz321 : z321.toInt = r308.toInt + 44 := zi_add ez321 rfl rfl (by omega) (by omega)
                  refine lv_iconst (v := 2) hx hb dX12_order_138 (by decide) ?_
                  refine lv_aload_n hx hb dX12_order_139 rfl (lv_at hl 2 rfl) ?_
                  refine va_get (D := (dC, dI)) (ci := 12) (v := .ref (ρ h0 2)) (C := RX12) (T := TX12) (N := 53) hx hb hts hfX12 hown hK hP q297 eq297 rfl 2 (by decide) (hts (.fieldLink RX12 7 "ColdShipsModel" "row" "[I") wa_148) (fun _ h9 => h9) rfl dX12_order_140 ?_
                  refine lv_iload hx hb dX12_order_143 (lv_at hl 0 rfl) ?_
                  refine lv_bipush (v := 10) hx hb dX12_order_145 (by decide) ?_
                  refine lv_iadd hx hb dX12_order_147 ?_
                  refine lv_topi (fun z322 ez322 => ?_)
                  have iz322 : z322.toInt = r308.toInt + 10 := zi_add ez322 rfl rfl (by omega) (by omega)
                  refine va_iald hx hb hK hP q311 0 eq311 rfl (vp_in_iff.mpr ⟨by omega, by omega⟩) dX12_order_148 ?_
                  refine lv_topi (fun z323 ez323 => ?_)
                  have jz323 : z323.toInt = mo_R g27 (547 + 84 * v.toInt + 10) := mo_rd ez323 (by omega)
                  have kz323 := hI.SO (s := v.toInt) (by omega) (by omega)
                  have vz323 : z323.toInt = z312.toInt := jz323.trans (jz312).symm
                  refine lv_imul hx hb dX12_order_149 ?_
                  refine lv_topi (fun z324 ez324 => ?_)
                  have iz324 : z324.toInt = 2 * z323.toInt := zi_mul ez324 rfl rfl (by omega) (by omega)
                  refine lv_iadd hx hb dX12_order_150 ?_
                  refine lv_topi (fun z325 ez325 => ?_)
                  have iz325 : z325.toInt = z321.toInt + z324.toInt := zi_add ez325 rfl rfl (by omega) (by omega)
                  refine lv_istore (lv' := [(6, .int z325), (5, .int r308), (4, .int 1), (0, .ref h0), (1, .int v), (2, .int u), (3, .int a)]) hx hb dX12_order_151 hl (by decide) rfl (fun ls hl => ?_)
                  refine lv_aload_n hx hb dX12_order_153 rfl (lv_at hl 3 rfl) ?_
                  refine va_get (D := (dC, dI)) (ci := 12) (v := .ref (ρ h0 2)) (C := RX12) (T := TX12) (N := 53) hx hb hts hfX12 hown hK hP q297 eq297 rfl 2 (by decide) (hts (.fieldLink RX12 7 "ColdShipsModel" "row" "[I") wa_148) (fun _ h9 => h9) rfl dX12_order_154 ?_
                  refine lv_iload hx hb dX12_order_157 (lv_at hl 0 rfl) ?_
                  refine lv_iload_n hx hb dX12_order_159 rfl (lv_at hl 5 rfl) ?_
                  refine va_iast hx hb hK hP hD hS q311 0 eq311 rfl (vp_in_iff.mpr ⟨by omega, by omega⟩) dX12_order_160 (tp_k (.inl (κ 0, 12967, .inl (upd g27 z325.toNatClampNeg u))) hD (tp_in hG y1 (by decide)) eq311 (fun f326 H locs hP hD hS g328 k327 => ?_))
                  have hT := hT.up y1 g328 k327 tp_o32
                  have hR := hR.up y1 (by decide) k327
                  have hU : mo_U (mo_R g27) (mo_R (upd g27 z325.toNatClampNeg u)) (547 + 84 * v.toInt + 44 + 2 * z312.toInt) (u.toInt) := mo_up (by omega) (rfl : u.toInt = _) (by omega)
                  generalize (upd g27 z325.toNatClampNeg u) = g329 at g328 hU
                  have hI := mo_w_ord hI hU v.toInt (0 + 2 * z312.toInt) (by omega) (by omega) (by omega)
                  have pn330 : mo_R g329 (1) = n1 := (hU.ne (by omega) (by omega)).trans en1.symm
                  have pn331 : mo_R g329 (547 + 84 * v.toInt + 10) = z312.toInt := (hU.ne (by omega) (by omega)).trans (jz312).symm
                  have pn332 : mo_R g329 (547 + 84 * v.toInt + 44 + 2 * z312.toInt) = u.toInt := hU.eq (by omega)
                  refine lv_aload_n hx hb dX12_order_161 rfl (lv_at hl 3 rfl) ?_
                  have hf_333 : f326 h0 = .inr (12, [.int 0, .int o28_x1, .ref (ρ h0 2), .ref (ρ h0 3), .ref (ρ h0 4), .ref (ρ h0 5), .ref (ρ h0 6), .int o28_x7, .ref (ρ h0 8), .int o28_x9, .int o28_x10, .int o28_x11, .int o28_x12, .long o28_x13, .int o28_x14, .int o28_x15, .int o28_x16, .int o28_x17, .int o28_x18, .int o28_x19, .int o28_x20, .ref (ρ h0 21), .int o28_x22, .ref (ρ h0 23), .ref (ρ h0 24), .int o28_x25, .ref (ρ h0 26), .ref (ρ h0 27), .int o28_x28, .int o28_x29, .ref (ρ h0 30), .ref (ρ h0 31), .int o28_x32, .long o28_x33, .long o28_x34, .long o28_x35, .int o28_x36, .int o28_x37, .int o28_x38, .ref (ρ h0 39), .ref (ρ h0 40), .ref (ρ h0 41), .ref (ρ h0 42), .ref (ρ h0 43), .ref (ρ h0 44), .ref (ρ h0 45), .ref (ρ h0 46), .int o28_x47, .int o28_x48, .ref (ρ h0 49), .ref (ρ h0 50), .ref (ρ h0 51), .ref (ρ h0 52)]) := (k327 _ (tp_ne ht_h0 y1 (by decide))).trans g32
                  refine tpk_pos (tp_in hG ht_h0 (by decide)) hf_333 (fun q334 eq334 => ?_)
                  refine va_get (D := (dC, dI)) (ci := 12) (v := .ref (ρ h0 2)) (C := RX12) (T := TX12) (N := 53) hx hb hts hfX12 hown hK hP q334 eq334 rfl 2 (by decide) (hts (.fieldLink RX12 7 "ColdShipsModel" "row" "[I") wa_148) (fun _ h9 => h9) rfl dX12_order_162 ?_
                  refine lv_iload hx hb dX12_order_165 (lv_at hl 0 rfl) ?_
                  refine lv_iconst (v := 1) hx hb dX12_order_167 (by decide) ?_
                  refine lv_iadd hx hb dX12_order_168 ?_
                  refine lv_topi (fun z335 ez335 => ?_)
                  have iz335 : z335.toInt = z325.toInt + 1 := zi_add ez335 rfl rfl (by omega) (by omega)
                  refine lv_iload_n hx hb dX12_order_169 rfl (lv_at hl 6 rfl) ?_
                  refine tpk_pos (tp_in hG y1 (by decide)) g328 (fun q336 eq336 => ?_)
                  refine va_iast hx hb hK hP hD hS q336 0 eq336 rfl (vp_in_iff.mpr ⟨by omega, by omega⟩) dX12_order_170 (tp_k (.inl (κ 0, 12967, .inl (upd g329 z335.toNatClampNeg a))) hD (tp_in hG y1 (by decide)) eq336 (fun f337 H locs hP hD hS g339 k338 => ?_))
                  have hT := hT.up y1 g339 k338 tp_o32
                  have hR := hR.up y1 (by decide) k338
                  have hU : mo_U (mo_R g329) (mo_R (upd g329 z335.toNatClampNeg a)) (547 + 84 * v.toInt + 45 + 2 * z312.toInt) (a.toInt) := mo_up (by omega) (rfl : a.toInt = _) (by omega)
                  generalize (upd g329 z335.toNatClampNeg a) = g340 at g339 hU
                  have hI := mo_w_ord hI hU v.toInt (1 + 2 * z312.toInt) (by omega) (by omega) (by omega)
                  have pn341 : mo_R g340 (1) = n1 := (hU.ne (by omega) (by omega)).trans pn330
                  have pn342 : mo_R g340 (547 + 84 * v.toInt + 10) = z312.toInt := (hU.ne (by omega) (by omega)).trans pn331
                  have pn343 : mo_R g340 (547 + 84 * v.toInt + 44 + 2 * z312.toInt) = u.toInt := (hU.ne (by omega) (by omega)).trans pn332
                  have pn344 : mo_R g340 (547 + 84 * v.toInt + 45 + 2 * z312.toInt) = a.toInt := hU.eq (by omega)
                  refine lv_aload_n hx hb dX12_order_171 rfl (lv_at hl 3 rfl) ?_
                  have hf_345 : f337 h0 = .inr (12, [.int 0, .int o28_x1, .ref (ρ h0 2), .ref (ρ h0 3), .ref (ρ h0 4), .ref (ρ h0 5), .ref (ρ h0 6), .int o28_x7, .ref (ρ h0 8), .int o28_x9, .int o28_x10, .int o28_x11, .int o28_x12, .long o28_x13, .int o28_x14, .int o28_x15, .int o28_x16, .int o28_x17, .int o28_x18, .int o28_x19, .int o28_x20, .ref (ρ h0 21), .int o28_x22, .ref (ρ h0 23), .ref (ρ h0 24), .int o28_x25, .ref (ρ h0 26), .ref (ρ h0 27), .int o28_x28, .int o28_x29, .ref (ρ h0 30), .ref (ρ h0 31), .int o28_x32, .long o28_x33, .long o28_x34, .long o28_x35, .int o28_x36, .int o28_x37, .int o28_x38, .ref (ρ h0 39), .ref (ρ h0 40), .ref (ρ h0 41), .ref (ρ h0 42), .ref (ρ h0 43), .ref (ρ h0 44), .ref (ρ h0 45), .ref (ρ h0 46), .int o28_x47, .int o28_x48, .ref (ρ h0 49), .ref (ρ h0 50), .ref (ρ h0 51), .ref (ρ h0 52)]) := (k338 _ (tp_ne ht_h0 y1 (by decide))).trans hf_333
                  refine tpk_pos (tp_in hG ht_h0 (by decide)) hf_345 (fun q346 eq346 => ?_)
                  refine va_get (D := (dC, dI)) (ci := 12) (v := .ref (ρ h0 2)) (C := RX12) (T := TX12) (N := 53) hx hb hts hfX12 hown hK hP q346 eq346 rfl 2 (by decide) (hts (.fieldLink RX12 7 "ColdShipsModel" "row" "[I") wa_148) (fun _ h9 => h9) rfl dX12_order_172 ?_
                  refine lv_iload hx hb dX12_order_175 (lv_at hl 1 rfl) ?_
                  refine lv_bipush (v := 10) hx hb dX12_order_177 (by decide) ?_
                  refine lv_iadd hx hb dX12_order_179 ?_
                  refine lv_topi (fun z347 ez347 => ?_)
                  have iz347 : z347.toInt = r308.toInt + 10 := zi_add ez347 rfl rfl (by omega) (by omega)
                  refine lv_dup2_11 hx hb dX12_order_180 rfl rfl ?_
                  refine tpk_pos (tp_in hG y1 (by decide)) g339 (fun q348 eq348 => ?_)
                  refine va_iald hx hb hK hP q348 0 eq348 rfl (vp_in_iff.mpr ⟨by omega, by omega⟩) dX12_order_181 ?_
                  refine lv_topi (fun z349 ez349 => ?_)
                  have jz349 : z349.toInt = mo_R g340 (547 + 84 * v.toInt + 10) := mo_rd ez349 (by omega)
                  have kz349 := hI.SO (s := v.toInt) (by omega) (by omega)
                  have vz349 : z349.toInt = z312.toInt := jz349.trans pn342
                  refine lv_iconst (v := 1) hx hb dX12_order_182 (by decide) ?_
                  refine lv_iadd hx hb dX12_order_183 ?_
                  refine lv_topi (fun z350 ez350 => ?_)
                  have iz350 : z350.toInt = z349.toInt + 1 := zi_add ez350 rfl rfl (by omega) (by omega)
                  refine va_iast hx hb hK hP hD hS q348 0 eq348 rfl (vp_in_iff.mpr ⟨by omega, by omega⟩) dX12_order_184 (tp_k (.inl (κ 0, 12967, .inl (upd g340 z347.toNatClampNeg z350))) hD (tp_in hG y1 (by decide)) eq348 (fun f351 H locs hP hD hS g353 k352 => ?_))
                  have hT := hT.up y1 g353 k352 tp_o32
                  have hR := hR.up y1 (by decide) k352
                  have hU : mo_U (mo_R g340) (mo_R (upd g340 z347.toNatClampNeg z350)) (547 + 84 * v.toInt + 10) (z350.toInt) := mo_up (by omega) (rfl : z350.toInt = _) (by omega)
                  generalize (upd g340 z347.toNatClampNeg z350) = g354 at g353 hU
                  have hI := mo_w_ORDS hI hU v.toInt (z312.toInt) (by omega) (by omega) pn342 (by omega) (by omega)
                  have pn355 : mo_R g354 (1) = n1 := (hU.ne (by omega) (by omega)).trans pn341
                  have pn356 : mo_R g354 (547 + 84 * v.toInt + 44 + 2 * z312.toInt) = u.toInt := (hU.ne (by omega) (by omega)).trans pn343
                  have pn357 : mo_R g354 (547 + 84 * v.toInt + 45 + 2 * z312.toInt) = a.toInt := (hU.ne (by omega) (by omega)).trans pn344
                  have pn358 : mo_R g354 (547 + 84 * v.toInt + 10) = z350.toInt := hU.eq (by omega)
                  refine lv_aload_n hx hb dX12_order_185 rfl (lv_at hl 3 rfl) ?_
                  have hf_359 : f351 h0 = .inr (12, [.int 0, .int o28_x1, .ref (ρ h0 2), .ref (ρ h0 3), .ref (ρ h0 4), .ref (ρ h0 5), .ref (ρ h0 6), .int o28_x7, .ref (ρ h0 8), .int o28_x9, .int o28_x10, .int o28_x11, .int o28_x12, .long o28_x13, .int o28_x14, .int o28_x15, .int o28_x16, .int o28_x17, .int o28_x18, .int o28_x19, .int o28_x20, .ref (ρ h0 21), .int o28_x22, .ref (ρ h0 23), .ref (ρ h0 24), .int o28_x25, .ref (ρ h0 26), .ref (ρ h0 27), .int o28_x28, .int o28_x29, .ref (ρ h0 30), .ref (ρ h0 31), .int o28_x32, .long o28_x33, .long o28_x34, .long o28_x35, .int o28_x36, .int o28_x37, .int o28_x38, .ref (ρ h0 39), .ref (ρ h0 40), .ref (ρ h0 41), .ref (ρ h0 42), .ref (ρ h0 43), .ref (ρ h0 44), .ref (ρ h0 45), .ref (ρ h0 46), .int o28_x47, .int o28_x48, .ref (ρ h0 49), .ref (ρ h0 50), .ref (ρ h0 51), .ref (ρ h0 52)]) := (k352 _ (tp_ne ht_h0 y1 (by decide))).trans hf_345
                  refine tpk_pos (tp_in hG ht_h0 (by decide)) hf_359 (fun q360 eq360 => ?_)
                  refine va_get (D := (dC, dI)) (ci := 12) (v := .ref (ρ h0 2)) (C := RX12) (T := TX12) (N := 53) hx hb hts hfX12 hown hK hP q360 eq360 rfl 2 (by decide) (hts (.fieldLink RX12 7 "ColdShipsModel" "row" "[I") wa_148) (fun _ h9 => h9) rfl dX12_order_186 ?_
                  refine lv_iconst (v := 4) hx hb dX12_order_189 (by decide) ?_
                  refine lv_dup2_11 hx hb dX12_order_190 rfl rfl ?_
                  refine tpk_pos (tp_in hG y1 (by decide)) g353 (fun q361 eq361 => ?_)
                  refine va_iald hx hb hK hP q361 0 eq361 rfl (vp_in_iff.mpr ⟨by decide, by decide⟩) dX12_order_191 ?_
                  refine lv_topi (fun z362 ez362 => ?_)
                  refine lv_iconst (v := 1) hx hb dX12_order_192 (by decide) ?_
                  refine lv_iadd hx hb dX12_order_193 ?_
                  refine lv_topi (fun z363 ez363 => ?_)
                  refine va_iast hx hb hK hP hD hS q361 0 eq361 rfl (vp_in_iff.mpr ⟨by decide, by decide⟩) dX12_order_194 (tp_k (.inl (κ 0, 12967, .inl (upd g354 (4 : Int32).toNatClampNeg z363))) hD (tp_in hG y1 (by decide)) eq361 (fun f364 H locs hP hD hS g366 k365 => ?_))
                  have hT := hT.up y1 g366 k365 tp_o32
                  have hR := hR.up y1 (by decide) k365
                  have hU : mo_U (mo_R g354) (mo_R (upd g354 (4 : Int32).toNatClampNeg z363)) (4) (z363.toInt) := mo_up (show (4 : Int32).toInt = (4) from by decide) (rfl : z363.toInt = _) (by omega)
                  generalize (upd g354 (4 : Int32).toNatClampNeg z363) = g367 at g366 hU
                  have hI := mo_w_flat hI hU (by omega)
                  have pn368 : mo_R g367 (1) = n1 := (hU.ne (by omega) (by omega)).trans pn355
                  have pn369 : mo_R g367 (547 + 84 * v.toInt + 44 + 2 * z312.toInt) = u.toInt := (hU.ne (by omega) (by omega)).trans pn356
                  have pn370 : mo_R g367 (547 + 84 * v.toInt + 45 + 2 * z312.toInt) = a.toInt := (hU.ne (by omega) (by omega)).trans pn357
                  have pn371 : mo_R g367 (547 + 84 * v.toInt + 10) = z350.toInt := (hU.ne (by omega) (by omega)).trans pn358
                  refine lv_aload_n hx hb dX12_order_195 rfl (lv_at hl 3 rfl) ?_
                  have hf_372 : f364 h0 = .inr (12, [.int 0, .int o28_x1, .ref (ρ h0 2), .ref (ρ h0 3), .ref (ρ h0 4), .ref (ρ h0 5), .ref (ρ h0 6), .int o28_x7, .ref (ρ h0 8), .int o28_x9, .int o28_x10, .int o28_x11, .int o28_x12, .long o28_x13, .int o28_x14, .int o28_x15, .int o28_x16, .int o28_x17, .int o28_x18, .int o28_x19, .int o28_x20, .ref (ρ h0 21), .int o28_x22, .ref (ρ h0 23), .ref (ρ h0 24), .int o28_x25, .ref (ρ h0 26), .ref (ρ h0 27), .int o28_x28, .int o28_x29, .ref (ρ h0 30), .ref (ρ h0 31), .int o28_x32, .long o28_x33, .long o28_x34, .long o28_x35, .int o28_x36, .int o28_x37, .int o28_x38, .ref (ρ h0 39), .ref (ρ h0 40), .ref (ρ h0 41), .ref (ρ h0 42), .ref (ρ h0 43), .ref (ρ h0 44), .ref (ρ h0 45), .ref (ρ h0 46), .int o28_x47, .int o28_x48, .ref (ρ h0 49), .ref (ρ h0 50), .ref (ρ h0 51), .ref (ρ h0 52)]) := (k365 _ (tp_ne ht_h0 y1 (by decide))).trans hf_359
                  refine tpk_pos (tp_in hG ht_h0 (by decide)) hf_372 (fun q373 eq373 => ?_)
                  refine va_get (D := (dC, dI)) (ci := 12) (v := .ref (ρ h0 2)) (C := RX12) (T := TX12) (N := 53) hx hb hts hfX12 hown hK hP q373 eq373 rfl 2 (by decide) (hts (.fieldLink RX12 7 "ColdShipsModel" "row" "[I") wa_148) (fun _ h9 => h9) rfl dX12_order_196 ?_
                  refine lv_iload hx hb dX12_order_199 (lv_at hl 1 rfl) ?_
                  refine lv_bipush (v := 10) hx hb dX12_order_201 (by decide) ?_
                  refine lv_iadd hx hb dX12_order_203 ?_
                  refine lv_topi (fun z374 ez374 => ?_)
                  have iz374 : z374.toInt = r308.toInt + 10 := zi_add ez374 rfl rfl (by omega) (by omega)
                  refine tpk_pos (tp_in hG y1 (by decide)) g366 (fun q375 eq375 => ?_)
                  refine va_iald hx hb hK hP q375 0 eq375 rfl (vp_in_iff.mpr ⟨by omega, by omega⟩) dX12_order_204 ?_
                  refine lv_topi (fun z376 ez376 => ?_)
                  have jz376 : z376.toInt = mo_R g367 (547 + 84 * v.toInt + 10) := mo_rd ez376 (by omega)
                  have kz376 := hI.SO (s := v.toInt) (by omega) (by omega)
                  have vz376 : z376.toInt = z350.toInt := jz376.trans pn371
                  refine lv_iconst (v := 1) hx hb dX12_order_205 (by decide) ?_
                  refine lv_icmp_ne (tgt := 215) hx hb dX12_order_206 (by decide) (fun c377 => ?_) (fun c377 => ?_)
                  · have ic377 : z376.toInt ≠ 1 := zi_ne rfl rfl c377
                    replace ic377 : 2 ≤ z376.toInt := by omega
                    refine lv_aload_n hx hb dX12_order_215 rfl (lv_at hl 3 rfl) ?_
                    refine lv_aload_n hx hb dX12_order_216 rfl (lv_at hl 3 rfl) ?_
                    refine va_get (D := (dC, dI)) (ci := 12) (v := .ref (ρ h0 2)) (C := RX12) (T := TX12) (N := 53) hx hb hts hfX12 hown hK hP q373 eq373 rfl 2 (by decide) (hts (.fieldLink RX12 7 "ColdShipsModel" "row" "[I") wa_148) (fun _ h9 => h9) rfl dX12_order_217 ?_
                    refine lv_iload hx hb dX12_order_220 (lv_at hl 1 rfl) ?_
                    refine lv_bipush (v := 10) hx hb dX12_order_222 (by decide) ?_
                    refine lv_iadd hx hb dX12_order_224 ?_
                    refine lv_topi (fun z378 ez378 => ?_)
                    have iz378 : z378.toInt = r308.toInt + 10 := zi_add ez378 rfl rfl (by omega) (by omega)
                    refine va_iald hx hb hK hP q375 0 eq375 rfl (vp_in_iff.mpr ⟨by omega, by omega⟩) dX12_order_225 ?_
                    refine lv_topi (fun z379 ez379 => ?_)
                    have jz379 : z379.toInt = mo_R g367 (547 + 84 * v.toInt + 10) := mo_rd ez379 (by omega)
                    have kz379 := hI.SO (s := v.toInt) (by omega) (by omega)
                    have vz379 : z379.toInt = z350.toInt := jz379.trans pn371
                    have hFc := tp_fr hD hS hA
                    refine va_calli (va_runV (As := [.int z379]) (rest := []) ⟨hx, hb, hml, hown, hts⟩ (t_X12_told l dC dI _ κ τ ν ρ L f364 hG hT h0 z379 ht_h0) (cwV 1 hts gX12_order_X12_told rfl rfl rfl ⟨rfl, pd_X12_told⟩ ⟨Nat.le_of_ble_eq_true rfl, Nat.le_of_ble_eq_true rfl⟩) ⟨pz_blind, va_recv hK hP (ci := 12) (q0 := q373) rfl eq373, pz_pre hP hK hD hN⟩ rfl rfl hl.1 rfl (lv_room (Nat.le_of_ble_eq_true rfl)) dX12_order_226 ⟨Nat.le_of_ble_eq_true rfl, Nat.le_of_ble_eq_true rfl⟩) hS (fun q _ h => hFc q h) hFc (fun r380 f382 t H1 locs ht hvm hw381 hB hz1 hk1 hS => ?_)
                    refine tn_4 hw381 (fun hT hF383 hw381r hw381p => ?_); clear hw381
                    have hR := hR.then hF383 (by decide)
                    have hP := hB.1; rw [ht] at hP; have hD := tp_ad f382 hD; clear hB hFc hz1 hk1; subst ht; generalize t.heap = H at hP hS ⊢
                    have hw381pq : r380.toInt = z379.toInt := by rw [hw381p]
                    have hf_384 : f382 (ρ h0 2) = .inl (κ 0, 12967, .inl g367) := (hF383 _ (by rw [y1]; decide)).trans g366
                    exact W.iret (v := r380) hx hb hr (fun t ht hW => ⟨⟨r380, f382, rfl, ⟨hT, hR, trivial, (by rw [hf_384, mo_i1]; exact hI)⟩, by rw [ht]; exact hP, va_K.moved hW.alike hK, hD⟩, hS.F ht⟩) hS.2.2 dX12_order_229
                  · have ic377 : z376.toInt = 1 := zi_nef rfl rfl c377
                    refine lv_aload_n hx hb dX12_order_209 rfl (lv_at hl 3 rfl) ?_
                    refine lv_iload hx hb dX12_order_210 (lv_at hl 1 rfl) ?_
                    have hFc := tp_fr hD hS hA
                    refine va_callv (va_runV (As := [.int r308]) (rest := []) ⟨hx, hb, hml, hown, hts⟩ (t_X12_beginOrder l dC dI _ κ τ ν ρ L f364 hG hT h0 r308 (-1) 0 v.toInt ht_h0 (by omega) (by omega) (by omega) (by rw [g366, mo_i1]; exact hI) (by first | (simp only [g366, hf_o26, mo_i1]; omega) | (simp only [g366, hf_o26, mo_i1]; trivial) | (simp only [g366, hf_o26, mo_i1]; done) | omega)) (cwV 1 hts gX12_order_X12_beginOrder rfl rfl rfl ⟨rfl, pd_X12_beginOrder⟩ ⟨Nat.le_of_ble_eq_true rfl, Nat.le_of_ble_eq_true rfl⟩) ⟨pz_blind, va_recv hK hP (ci := 12) (q0 := q373) rfl eq373, pz_pre hP hK hD hN⟩ rfl rfl hl.1 rfl (lv_room (Nat.le_of_ble_eq_true rfl)) dX12_order_212 ⟨Nat.le_of_ble_eq_true rfl, Nat.le_of_ble_eq_true rfl⟩) hS (fun q _ h => hFc q h) hFc (fun f387 t H1 locs ht hvm hw386 hB hz1 hk1 hS => ?_)
                    refine tn_3 hw386 (fun hT hF388 hw386p => ?_); clear hw386
                    have hR := hR.then hF388 (by decide)
                    have hP := hB.1; rw [ht] at hP; have hD := tp_ad f387 hD; clear hB hFc hz1 hk1; subst ht; generalize t.heap = H at hP hS ⊢
                    obtain ⟨hJ, hw386pe⟩ := hw386p
                    refine tpk_32 hT y1 (fun g390 hf_o389 => ?_)
                    have hI : mo_RI (-1) 0 (mo_R g390) := by have q9 := hJ; rw [hf_o389, mo_i1] at q9; exact q9
                    rw [g366, mo_i1] at hw386pe
                    rw [hf_o389, mo_i1] at hw386pe
                    have pn391 : mo_R g390 (1) = n1 := (hw386pe.1).trans pn368
                    have pn392 : mo_R g390 (547 + 84 * v.toInt + 10) = z350.toInt := (hw386pe.2.2).trans pn371
                    refine lv_aload_n hx hb dX12_order_215 rfl (lv_at hl 3 rfl) ?_
                    refine lv_aload_n hx hb dX12_order_216 rfl (lv_at hl 3 rfl) ?_
                    have hf_393 : f387 h0 = .inr (12, [.int 0, .int o28_x1, .ref (ρ h0 2), .ref (ρ h0 3), .ref (ρ h0 4), .ref (ρ h0 5), .ref (ρ h0 6), .int o28_x7, .ref (ρ h0 8), .int o28_x9, .int o28_x10, .int o28_x11, .int o28_x12, .long o28_x13, .int o28_x14, .int o28_x15, .int o28_x16, .int o28_x17, .int o28_x18, .int o28_x19, .int o28_x20, .ref (ρ h0 21), .int o28_x22, .ref (ρ h0 23), .ref (ρ h0 24), .int o28_x25, .ref (ρ h0 26), .ref (ρ h0 27), .int o28_x28, .int o28_x29, .ref (ρ h0 30), .ref (ρ h0 31), .int o28_x32, .long o28_x33, .long o28_x34, .long o28_x35, .int o28_x36, .int o28_x37, .int o28_x38, .ref (ρ h0 39), .ref (ρ h0 40), .ref (ρ h0 41), .ref (ρ h0 42), .ref (ρ h0 43), .ref (ρ h0 44), .ref (ρ h0 45), .ref (ρ h0 46), .int o28_x47, .int o28_x48, .ref (ρ h0 49), .ref (ρ h0 50), .ref (ρ h0 51), .ref (ρ h0 52)]) := (hF388 _ (by rw [ht_h0]; decide)).trans hf_372
                    refine tpk_pos (tp_in hG ht_h0 (by decide)) hf_393 (fun q394 eq394 => ?_)
                    refine va_get (D := (dC, dI)) (ci := 12) (v := .ref (ρ h0 2)) (C := RX12) (T := TX12) (N := 53) hx hb hts hfX12 hown hK hP q394 eq394 rfl 2 (by decide) (hts (.fieldLink RX12 7 "ColdShipsModel" "row" "[I") wa_148) (fun _ h9 => h9) rfl dX12_order_217 ?_
                    refine lv_iload hx hb dX12_order_220 (lv_at hl 1 rfl) ?_
                    refine lv_bipush (v := 10) hx hb dX12_order_222 (by decide) ?_
                    refine lv_iadd hx hb dX12_order_224 ?_
                    refine lv_topi (fun z395 ez395 => ?_)
                    have iz395 : z395.toInt = r308.toInt + 10 := zi_add ez395 rfl rfl (by omega) (by omega)
                    refine tpk_pos (tp_in hG y1 (by decide)) hf_o389 (fun q396 eq396 => ?_)
                    refine va_iald hx hb hK hP q396 0 eq396 rfl (vp_in_iff.mpr ⟨by omega, by omega⟩) dX12_order_225 ?_
                    refine lv_topi (fun z397 ez397 => ?_)
                    have jz397 : z397.toInt = mo_R g390 (547 + 84 * v.toInt + 10) := mo_rd ez397 (by omega)
                    have kz397 := hI.SO (s := v.toInt) (by omega) (by omega)
                    have vz397 : z397.toInt = z350.toInt := jz397.trans pn392
                    have hFc := tp_fr hD hS hA
                    refine va_calli (va_runV (As := [.int z397]) (rest := []) ⟨hx, hb, hml, hown, hts⟩ (t_X12_told l dC dI _ κ τ ν ρ L f387 hG hT h0 z397 ht_h0) (cwV 1 hts gX12_order_X12_told rfl rfl rfl ⟨rfl, pd_X12_told⟩ ⟨Nat.le_of_ble_eq_true rfl, Nat.le_of_ble_eq_true rfl⟩) ⟨pz_blind, va_recv hK hP (ci := 12) (q0 := q394) rfl eq394, pz_pre hP hK hD hN⟩ rfl rfl hl.1 rfl (lv_room (Nat.le_of_ble_eq_true rfl)) dX12_order_226 ⟨Nat.le_of_ble_eq_true rfl, Nat.le_of_ble_eq_true rfl⟩) hS (fun q _ h => hFc q h) hFc (fun r398 f400 t H1 locs ht hvm hw399 hB hz1 hk1 hS => ?_)
                    refine tn_4 hw399 (fun hT hF401 hw399r hw399p => ?_); clear hw399
                    have hR := hR.then hF401 (by decide)
                    have hP := hB.1; rw [ht] at hP; have hD := tp_ad f400 hD; clear hB hFc hz1 hk1; subst ht; generalize t.heap = H at hP hS ⊢
                    have hw399pq : r398.toInt = z397.toInt := by rw [hw399p]
                    have hf_402 : f400 (ρ h0 2) = .inl (κ 0, 12967, .inl g390) := (hF401 _ (by rw [y1]; decide)).trans hf_o389
                    exact W.iret (v := r398) hx hb hr (fun t ht hW => ⟨⟨r398, f400, rfl, ⟨hT, hR, trivial, (by rw [hf_402, mo_i1]; exact hI)⟩, by rw [ht]; exact hP, va_K.moved hW.alike hK, hD⟩, hS.F ht⟩) hS.2.2 dX12_order_229
                · have ic320 : z319.toInt = 400 := zi_nef rfl rfl c320
                  refine lv_aload_n hx hb dX12_order_126 rfl (lv_at hl 2 rfl) ?_
                  refine lv_bipush (v := (-5)) hx hb dX12_order_127 (by decide) ?_
                  have hFc := tp_fr hD hS hA
                  refine va_calli (va_runV (As := [.int (-5)]) (rest := []) ⟨hx, hb, hml, hown, hts⟩ (t_X12_told l dC dI _ κ τ ν ρ L f30 hG hT h0 ((-5)) ht_h0) (cwV 1 hts gX12_order_X12_told rfl rfl rfl ⟨rfl, pd_X12_told⟩ ⟨Nat.le_of_ble_eq_true rfl, Nat.le_of_ble_eq_true rfl⟩) ⟨pz_blind, va_recv hK hP (ci := 12) (q0 := q297) rfl eq297, pz_pre hP hK hD hN⟩ rfl rfl hl.1 rfl (lv_room (Nat.le_of_ble_eq_true rfl)) dX12_order_129 ⟨Nat.le_of_ble_eq_true rfl, Nat.le_of_ble_eq_true rfl⟩) hS (fun q _ h => hFc q h) hFc (fun r403 f405 t H1 locs ht hvm hw404 hB hz1 hk1 hS => ?_)
                  refine tn_4 hw404 (fun hT hF406 hw404r hw404p => ?_); clear hw404
                  have hR := hR.then hF406 (by decide)
                  have hP := hB.1; rw [ht] at hP; have hD := tp_ad f405 hD; clear hB hFc hz1 hk1; subst ht; generalize t.heap = H at hP hS ⊢
                  have hw404pq : r403.toInt = (-5) := by rw [hw404p]; rfl
                  have hf_407 : f405 (ρ h0 2) = .inl (κ 0, 12967, .inl g27) := (hF406 _ (by rw [y1]; decide)).trans hf_33
                  exact W.iret (v := r403) hx hb hr (fun t ht hW => ⟨⟨r403, f405, rfl, ⟨hT, hR, trivial, (by rw [hf_407, mo_i1]; exact hI)⟩, by rw [ht]; exact hP, va_K.moved hW.alike hK, hD⟩, hS.F ht⟩) hS.2.2 dX12_order_132
            · have ic307 : u.toInt = 0 := zi_nef rfl rfl c307
              exfalso; omega

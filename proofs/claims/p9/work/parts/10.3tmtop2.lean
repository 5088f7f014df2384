section
set_option maxHeartbeats 4000000 in
set_option maxRecDepth 100000 in
theorem t_X12_order (l : Launch) (dC : Nat → ClassId) (dI : Nat → Nat → Nat) (sz : Nat) (κ : Nat → ClassId) (Θ : Nat → Option Int) (τ ν : Nat → Nat) (ρ : Nat → Nat → Nat) (L : List Nat) (f : Nat → va_E) (hG : tp_G τ ν ρ L) (hT : tp_T (mo_O κ Θ) κ τ ν ρ f) (h0 : Nat) (v : Int32) (u : Int32) (a : Int32) (ht_h0 : τ h0 = 13) (hJ : mo_RI (-1) 0 (mo_R (mo_i (f (ρ h0 2))))) : Met l yX12_order wqX12_order ({ frames := 4, cells := 0, slots := 0, locals := 1200 }) (va_Pc [.ref h0, .int v, .int u, .int a] (pz_B dC dI (tp_K κ) (va_pl L f) sz)) (va_Qi (fun (r : Int32) (f1 : Nat → va_E) => tp_T (mo_O κ Θ) κ τ ν ρ f1 ∧ tp_F τ [13, 32] f f1 ∧ True ∧ mo_RI (-1) 0 (mo_R (mo_i (f1 (ρ h0 2)))) ∧ mo_KN (fun k => k = 4) (mo_R (mo_i (f (ρ h0 2)))) (mo_R (mo_i (f1 (ρ h0 2))))) (fun (f1 : Nat → va_E) (t : State) => pz_E dC dI (tp_K κ) (va_A (va_pl L f) sz) (va_pl L f1) t) (va_A (va_pl L f) sz)) 0 0 (va_A (va_pl L f) sz) := by
  refine Met.ofW (cc := cX12_order) (maxL := 7) (ret := some .int) (by decide) rfl ?_
  intro p e s m args below meth c s₁ B hml hv
  obtain ⟨rfl, hsz, hP, hK, hD0, hN⟩ := hv
  have hx := B.exec
  have hb := B.bytes
  have hr := B.returns
  have hts := fun (w : Cond) (h : w ∈ WALL) => atoms_spec (ws := wqX12_order) B.pre w (List.mem_cons_of_mem _ h)
  have hown : s.vm.findClass RX12 = some m.cls := findClass_of_methodNamed B.named
  have hlocks := B.notSynchronized
  subst hsz
  have hD := hD0.self (sz := s.heap.size)
  generalize hAe : va_A (va_pl L f) s.heap.size = A at hD ⊢
  have hA : ∀ q : Nat, s.heap.size ≤ q → A q := fun q h => by rw [← hAe]; exact Or.inr h
  have hS : va_S A s.heap s.heap [] := va_S.rf
  have hR : tp_F τ [13, 32] f f := tp_F.rf
  have hl := lv_entry ([.ref h0, .int v, .int u, .int a]) (n := 7) (Nat.le_of_ble_eq_true rfl)
  rw [lg_entry_eq]
  generalize (lg_sl ([.ref h0, .int v, .int u, .int a]) ++ List.replicate (7 - (lg_sl ([.ref h0, .int v, .int u, .int a])).length) Slot.unset).toArray = ls at hl ⊢
  have hl : lv_has ls 7 [(0, .ref h0), (1, .int v), (2, .int u), (3, .int a)] := hl
  refine tgk_13 hG ht_h0 (fun y1 y2 y3 y4 y5 y6 y7 y8 y9 y10 y11 y12 y13 y14 y15 y16 y17 y18 y19 y20 y21 y22 y23 y24 y25 => ?_)
  refine tpk_32 hT y1 (fun g27 hf_o26 => ?_)
  have hI : mo_RI (-1) 0 (mo_R g27) := by have q9 := hJ; rw [hf_o26, mo_i1] at q9; exact q9
  obtain ⟨n1, en1⟩ : ∃ n : Int, n = mo_R g27 (1) := ⟨_, rfl⟩
  have kn1 := hI.k1
  have hKN : mo_KN (fun k => k = 4) (mo_R g27) (mo_R g27) := mo_KN.rf
  refine lv_aload_n hx hb dX12_order_0 rfl (lv_at hl 0 rfl) ?_
  refine lv_iconst (v := 0) hx hb dX12_order_1 (by decide) ?_
  refine tpk_13 hT ht_h0 (fun o28_x0 o28_x1 o28_x7 o28_x9 o28_x10 o28_x11 o28_x12 o28_x13 o28_x14 o28_x15 o28_x16 o28_x17 o28_x18 o28_x19 o28_x20 o28_x22 o28_x25 o28_x28 o28_x29 o28_x32 o28_x33 o28_x34 o28_x35 o28_x36 o28_x37 o28_x38 o28_x47 o28_x48 hf_o28 ro28_0 ro28_1 ro28_2 ro28_3 ro28_4 ro28_5 ro28_6 ro28_7 ro28_8 ro28_9 ro28_10 ro28_11 ro28_12 ro28_13 ro28_14 => ?_)
  refine tpk_pos (tp_in hG ht_h0 (by decide)) hf_o28 (fun q29 eq29 => ?_)
  refine va_put (D := (dC, dI)) (ci := 12) (v := .int 0) (ty := .int) (C := RX12) (T := TX12) (N := 53) hx hb hts hfX12 tyX12 tyX12_ok nmX12 hown hK hP hD hS q29 eq29 rfl 0 (by decide) (hts (.fieldLink RX12 91 "ColdShipsModel" "thrown" "I") wa_209) (fun _ h9 => h9) rfl (tyX12_ok 0 (by decide)) rfl rfl (Nat.le_of_ble_eq_true rfl) dX12_order_2 (tp_k (.inr (12, [.int 0, .int o28_x1, .ref (ρ h0 2), .ref (ρ h0 3), .ref (ρ h0 4), .ref (ρ h0 5), .ref (ρ h0 6), .int o28_x7, .ref (ρ h0 8), .int o28_x9, .int o28_x10, .int o28_x11, .int o28_x12, .long o28_x13, .int o28_x14, .int o28_x15, .int o28_x16, .int o28_x17, .int o28_x18, .int o28_x19, .int o28_x20, .ref (ρ h0 21), .int o28_x22, .ref (ρ h0 23), .ref (ρ h0 24), .int o28_x25, .ref (ρ h0 26), .ref (ρ h0 27), .int o28_x28, .int o28_x29, .ref (ρ h0 30), .ref (ρ h0 31), .int o28_x32, .long o28_x33, .long o28_x34, .long o28_x35, .int o28_x36, .int o28_x37, .int o28_x38, .ref (ρ h0 39), .ref (ρ h0 40), .ref (ρ h0 41), .ref (ρ h0 42), .ref (ρ h0 43), .ref (ρ h0 44), .ref (ρ h0 45), .ref (ρ h0 46), .int o28_x47, .int o28_x48, .ref (ρ h0 49), .ref (ρ h0 50), .ref (ρ h0 51), .ref (ρ h0 52)])) hD (tp_in hG ht_h0 (by decide)) eq29 (fun f30 H locs hP hD hS g32 k31 => ?_))
  have hT := hT.up ht_h0 g32 k31 ⟨_, _, _, _, _, _, _, _, _, _, _, _, _, _, _, _, _, _, _, _, _, _, _, _, _, _, _, _, rfl, ro28_0, ro28_1, ro28_2, ro28_3, ro28_4, ro28_5, ro28_6, ro28_7, ro28_8, ro28_9, ro28_10, ro28_11, ro28_12, ro28_13, ro28_14⟩
  have hR := hR.up ht_h0 (by decide) k31
  refine lv_iload_n hx hb dX12_order_5 rfl (lv_at hl 2 rfl) ?_
  refine lv_i2l hx hb dX12_order_6 rfl ?_
  refine lv_lconst (v := 0) hx hb dX12_order_7 (by decide) ?_
  refine lv_ldc2 (own := RX12) (v := 3) hx hb hown (hts (.constantLong RX12 152 (3)) wa_391) dX12_order_8 ?_
  have hf_33 : f30 (ρ h0 2) = .inl (κ 0, 12967, .inl g27) := (k31 _ (tp_ne y1 ht_h0 (by decide))).trans hf_o26
  refine pz_calli (va_runS (As := [.long u.toInt64, .long 0, .long 3]) (rest := []) ⟨hx, hb, hml, hown, hts⟩ (t_X12_in l dC dI _ u.toInt64 (0) (3) (u.toInt) (0) (3) (Int32.toInt_toInt64 u) rfl rfl) (va_cwS 3 hts gX12_order_X12_in rfl rfl rfl pd_X12_in ⟨Nat.le_of_ble_eq_true rfl, Nat.le_of_ble_eq_true rfl⟩) ⟨pz_blind, pz_pre pz_P0 (hK.sub (tys' := []) [] rfl) (pz_D0 (A := fun _ => True)) hN⟩ rfl rfl hl.1 rfl (lv_room (Nat.le_of_ble_eq_true rfl)) dX12_order_11 ⟨Nat.le_of_ble_eq_true rfl, Nat.le_of_ble_eq_true rfl⟩) (fun r34 hw35 => ?_)
  obtain ⟨hw35r, hw35p⟩ := hw35
  refine lv_if_eq (tgt := 52) hx hb dX12_order_14 (by decide) (fun c36 => ?_) (fun c36 => ?_)
  · have ic36 : r34.toInt = 0 := zi_eq rfl rfl c36
    clear hw35r ic36
    refine lv_iconst (v := 0) hx hb dX12_order_52 (by decide) ?_
    refine lv_istore (lv' := [(4, .int 0), (0, .ref h0), (1, .int v), (2, .int u), (3, .int a)]) hx hb dX12_order_53 hl (by decide) rfl (fun ls hl => ?_)
    refine lv_iload hx hb dX12_order_55 (lv_at hl 0 rfl) ?_
    refine lv_if_ne (tgt := 66) hx hb dX12_order_57 (by decide) (fun c9 => absurd c9 (by decide)) (fun _ => ?_)
    refine lv_aload_n hx hb dX12_order_60 rfl (lv_at hl 1 rfl) ?_
    refine lv_iconst (v := (-1)) hx hb dX12_order_61 (by decide) ?_
    refine tpk_pos (tp_in hG ht_h0 (by decide)) g32 (fun q37 eq37 => ?_)
    have hFc := tp_fr hD hS hA
    refine va_calli (va_runV (As := [.int (-1)]) (rest := []) ⟨hx, hb, hml, hown, hts⟩ (t_X12_told l dC dI _ κ Θ τ ν ρ L f30 hG hT h0 ((-1)) ht_h0) (cwV 1 hts gX12_order_X12_told rfl rfl rfl ⟨rfl, pd_X12_told⟩ ⟨Nat.le_of_ble_eq_true rfl, Nat.le_of_ble_eq_true rfl⟩) ⟨pz_blind, va_recv hK hP (ci := 12) (q0 := q37) rfl eq37, pz_pre hP hK hD hN⟩ rfl rfl hl.1 rfl (lv_room (Nat.le_of_ble_eq_true rfl)) dX12_order_62 ⟨Nat.le_of_ble_eq_true rfl, Nat.le_of_ble_eq_true rfl⟩) hS (fun q _ h => hFc q h) hFc (fun r38 f40 t H1 locs ht hvm hw39 hB hz1 hk1 hS => ?_)
    refine tn_4 hw39 (fun hT hF41 hw39r hw39p => ?_); clear hw39
    have hR := hR.then hF41 (by decide)
    have hP := hB.1; rw [ht] at hP; have hD := tp_ad f40 hD; clear hB hFc hz1 hk1; subst ht; generalize t.heap = H at hP hS ⊢
    have hw39pq : r38.toInt = (-1) := by rw [hw39p]; rfl
    have hf_42 : f40 (ρ h0 2) = .inl (κ 0, 12967, .inl g27) := (hF41 _ (by rw [tp_iu y1]; decide)).trans hf_33
    exact W.iret (v := r38) hx hb hr (fun t ht hW => ⟨⟨r38, f40, rfl, ⟨hT, hR, trivial, ⟨(by rw [hf_42, mo_i1]; exact hI), (by rw [hf_42, mo_i1, hf_o26, mo_i1]; exact hKN)⟩⟩, by rw [ht]; exact hP, va_K.moved hW.alike hK, hD⟩, hS.F ht⟩) hS.2.2 dX12_order_65
  · have ic36 : r34.toInt ≠ 0 := zi_eqf rfl rfl c36
    replace ic36 : 1 ≤ r34.toInt := by omega
    have p43 : (0) ≤ (u.toInt) ∧ (u.toInt) ≤ (3) := (tp_cond.yes hw35p) (by omega)
    clear hw35r ic36
    refine lv_iload_n hx hb dX12_order_17 rfl (lv_at hl 2 rfl) ?_
    refine lv_if_eq (tgt := 48) hx hb dX12_order_18 (by decide) (fun c44 => ?_) (fun c44 => ?_)
    · have ic44 : u.toInt = 0 := zi_eq rfl rfl c44
      refine lv_iconst (v := 1) hx hb dX12_order_48 (by decide) ?_
      refine lv_goto (tgt := 53) hx hb dX12_order_49 (by decide) ?_
      refine lv_istore (lv' := [(4, .int 1), (0, .ref h0), (1, .int v), (2, .int u), (3, .int a)]) hx hb dX12_order_53 hl (by decide) rfl (fun ls hl => ?_)
      refine lv_iload hx hb dX12_order_55 (lv_at hl 0 rfl) ?_
      refine lv_if_ne (tgt := 66) hx hb dX12_order_57 (by decide) (fun _ => ?_) (fun c9 => absurd c9 (by decide))
      refine lv_aload_n hx hb dX12_order_66 rfl (lv_at hl 1 rfl) ?_
      refine lv_iload_n hx hb dX12_order_67 rfl (lv_at hl 2 rfl) ?_
      refine tpk_pos (tp_in hG ht_h0 (by decide)) g32 (fun q45 eq45 => ?_)
      refine pz_calli (va_runV (As := [.int v]) (rest := []) ⟨hx, hb, hml, hown, hts⟩ (t_X12_isShip l dC dI _ κ Θ τ ν ρ L f30 hG hT h0 v (-1) 0 ht_h0 (by omega) (by rw [hf_33, mo_i1]; exact hI)) (cwV 1 hts gX12_order_X12_isShip rfl rfl rfl ⟨rfl, pd_X12_isShip⟩ ⟨Nat.le_of_ble_eq_true rfl, Nat.le_of_ble_eq_true rfl⟩) ⟨pz_blind, va_recv hK hP (ci := 12) (q0 := q45) rfl eq45, pz_pre hP hK hD hN⟩ rfl rfl hl.1 rfl (lv_room (Nat.le_of_ble_eq_true rfl)) dX12_order_68 ⟨Nat.le_of_ble_eq_true rfl, Nat.le_of_ble_eq_true rfl⟩) (fun r46 hw47 => ?_)
      obtain ⟨hw47r, hw47p⟩ := hw47
      have := hI.k1
      rw [hf_33, mo_i1] at hw47p
      refine lv_if_eq (tgt := 86) hx hb dX12_order_71 (by decide) (fun c48 => ?_) (fun c48 => ?_)
      · have ic48 : r46.toInt = 0 := zi_eq rfl rfl c48
        clear hw47r ic48
        refine lv_aload_n hx hb dX12_order_86 rfl (lv_at hl 1 rfl) ?_
        refine lv_bipush (v := (-2)) hx hb dX12_order_87 (by decide) ?_
        have hFc := tp_fr hD hS hA
        refine va_calli (va_runV (As := [.int (-2)]) (rest := []) ⟨hx, hb, hml, hown, hts⟩ (t_X12_told l dC dI _ κ Θ τ ν ρ L f30 hG hT h0 ((-2)) ht_h0) (cwV 1 hts gX12_order_X12_told rfl rfl rfl ⟨rfl, pd_X12_told⟩ ⟨Nat.le_of_ble_eq_true rfl, Nat.le_of_ble_eq_true rfl⟩) ⟨pz_blind, va_recv hK hP (ci := 12) (q0 := q45) rfl eq45, pz_pre hP hK hD hN⟩ rfl rfl hl.1 rfl (lv_room (Nat.le_of_ble_eq_true rfl)) dX12_order_89 ⟨Nat.le_of_ble_eq_true rfl, Nat.le_of_ble_eq_true rfl⟩) hS (fun q _ h => hFc q h) hFc (fun r49 f51 t H1 locs ht hvm hw50 hB hz1 hk1 hS => ?_)
        refine tn_4 hw50 (fun hT hF52 hw50r hw50p => ?_); clear hw50
        have hR := hR.then hF52 (by decide)
        have hP := hB.1; rw [ht] at hP; have hD := tp_ad f51 hD; clear hB hFc hz1 hk1; subst ht; generalize t.heap = H at hP hS ⊢
        have hw50pq : r49.toInt = (-2) := by rw [hw50p]; rfl
        have hf_53 : f51 (ρ h0 2) = .inl (κ 0, 12967, .inl g27) := (hF52 _ (by rw [tp_iu y1]; decide)).trans hf_33
        exact W.iret (v := r49) hx hb hr (fun t ht hW => ⟨⟨r49, f51, rfl, ⟨hT, hR, trivial, ⟨(by rw [hf_53, mo_i1]; exact hI), (by rw [hf_53, mo_i1, hf_o26, mo_i1]; exact hKN)⟩⟩, by rw [ht]; exact hP, va_K.moved hW.alike hK, hD⟩, hS.F ht⟩) hS.2.2 dX12_order_92
      · have ic48 : r46.toInt ≠ 0 := zi_eqf rfl rfl c48
        replace ic48 : 1 ≤ r46.toInt := by omega
        have p54 : 0 ≤ v.toInt ∧ v.toInt < mo_R g27 1 := (tp_cond.yes hw47p) (by omega)
        clear hw47r ic48
        refine lv_iload_n hx hb dX12_order_74 rfl (lv_at hl 3 rfl) ?_
        refine lv_if_ne (tgt := 93) hx hb dX12_order_75 (by decide) (fun c55 => ?_) (fun c55 => ?_)
        · have ic55 : u.toInt ≠ 0 := zi_ne rfl rfl c55
          exfalso; omega
        · have ic55 : u.toInt = 0 := zi_nef rfl rfl c55
          refine lv_aload_n hx hb dX12_order_78 rfl (lv_at hl 1 rfl) ?_
          refine lv_iload_n hx hb dX12_order_79 rfl (lv_at hl 4 rfl) ?_
          refine pz_calli (va_runV (As := [.int a]) (rest := []) ⟨hx, hb, hml, hown, hts⟩ (t_X12_isTerminal l dC dI _ κ Θ τ ν ρ L f30 hG hT h0 a (-1) 0 ht_h0 (by omega) (by rw [hf_33, mo_i1]; exact hI)) (cwV 1 hts gX12_order_X12_isTerminal rfl rfl rfl ⟨rfl, pd_X12_isTerminal⟩ ⟨Nat.le_of_ble_eq_true rfl, Nat.le_of_ble_eq_true rfl⟩) ⟨pz_blind, va_recv hK hP (ci := 12) (q0 := q45) rfl eq45, pz_pre hP hK hD hN⟩ rfl rfl hl.1 rfl (lv_room (Nat.le_of_ble_eq_true rfl)) dX12_order_80 ⟨Nat.le_of_ble_eq_true rfl, Nat.le_of_ble_eq_true rfl⟩) (fun r56 hw57 => ?_)
          obtain ⟨hw57r, hw57p⟩ := hw57
          have := hI.k0
          rw [hf_33, mo_i1] at hw57p
          refine lv_if_ne (tgt := 93) hx hb dX12_order_83 (by decide) (fun c58 => ?_) (fun c58 => ?_)
          · have ic58 : r56.toInt ≠ 0 := zi_ne rfl rfl c58
            replace ic58 : 1 ≤ r56.toInt := by omega
            have p59 : 0 ≤ a.toInt ∧ a.toInt < mo_R g27 0 := (tp_cond.yes hw57p) (by omega)
            clear hw57r ic58
            refine lv_iload_n hx hb dX12_order_93 rfl (lv_at hl 2 rfl) ?_
            refine pz_calli (va_runS (As := [.int v]) (rest := []) ⟨hx, hb, hml, hown, hts⟩ (t_X12_shipAt l dC dI _ v (v.toInt) (by omega) rfl) (va_cwS 1 hts gX12_order_X12_shipAt rfl rfl rfl pd_X12_shipAt ⟨Nat.le_of_ble_eq_true rfl, Nat.le_of_ble_eq_true rfl⟩) ⟨pz_blind, pz_pre pz_P0 (hK.sub (tys' := []) [] rfl) (pz_D0 (A := fun _ => True)) hN⟩ rfl rfl hl.1 rfl (lv_room (Nat.le_of_ble_eq_true rfl)) dX12_order_94 ⟨Nat.le_of_ble_eq_true rfl, Nat.le_of_ble_eq_true rfl⟩) (fun r60 hw61 => ?_)
            obtain ⟨hw61r, hw61p⟩ := hw61
            refine lv_istore (lv' := [(5, .int r60), (4, .int 1), (0, .ref h0), (1, .int v), (2, .int u), (3, .int a)]) hx hb dX12_order_97 hl (by decide) rfl (fun ls hl => ?_)
            refine lv_aload_n hx hb dX12_order_99 rfl (lv_at hl 2 rfl) ?_
            refine va_get (D := (dC, dI)) (ci := 12) (v := .ref (ρ h0 2)) (C := RX12) (T := TX12) (N := 53) hx hb hts hfX12 hown hK hP q45 eq45 rfl 2 (by decide) (hts (.fieldLink RX12 7 "ColdShipsModel" "row" "[I") wa_148) (fun _ h9 => h9) rfl dX12_order_100 ?_
            refine lv_iload hx hb dX12_order_103 (lv_at hl 0 rfl) ?_
            refine lv_bipush (v := 10) hx hb dX12_order_105 (by decide) ?_
            refine lv_iadd hx hb dX12_order_107 ?_
            refine lv_topi (fun z62 ez62 => ?_)
            have iz62 : z62.toInt = r60.toInt + 10 := zi_add ez62 rfl rfl (by omega) (by omega)
            refine tpk_pos (tp_in hG y1 (by decide)) hf_33 (fun q63 eq63 => ?_)
            refine va_iald hx hb hK hP q63 0 eq63 rfl (vp_in_iff.mpr ⟨by omega, by omega⟩) dX12_order_108 ?_
            refine lv_topi (fun z64 ez64 => ?_)
            have jz64 : z64.toInt = mo_R g27 (547 + 84 * v.toInt + 10) := mo_rd ez64 (by omega)
            have kz64 := hI.SO (s := v.toInt) (by omega) (by omega)
            refine lv_bipush (v := 20) hx hb dX12_order_109 (by decide) ?_
            refine lv_icmp_eq (tgt := 126) hx hb dX12_order_111 (by decide) (fun c65 => ?_) (fun c65 => ?_)
            · have ic65 : z64.toInt = 20 := zi_eq rfl rfl c65
              refine lv_aload_n hx hb dX12_order_126 rfl (lv_at hl 2 rfl) ?_
              refine lv_bipush (v := (-5)) hx hb dX12_order_127 (by decide) ?_
              have hFc := tp_fr hD hS hA
              refine va_calli (va_runV (As := [.int (-5)]) (rest := []) ⟨hx, hb, hml, hown, hts⟩ (t_X12_told l dC dI _ κ Θ τ ν ρ L f30 hG hT h0 ((-5)) ht_h0) (cwV 1 hts gX12_order_X12_told rfl rfl rfl ⟨rfl, pd_X12_told⟩ ⟨Nat.le_of_ble_eq_true rfl, Nat.le_of_ble_eq_true rfl⟩) ⟨pz_blind, va_recv hK hP (ci := 12) (q0 := q45) rfl eq45, pz_pre hP hK hD hN⟩ rfl rfl hl.1 rfl (lv_room (Nat.le_of_ble_eq_true rfl)) dX12_order_129 ⟨Nat.le_of_ble_eq_true rfl, Nat.le_of_ble_eq_true rfl⟩) hS (fun q _ h => hFc q h) hFc (fun r66 f68 t H1 locs ht hvm hw67 hB hz1 hk1 hS => ?_)
              refine tn_4 hw67 (fun hT hF69 hw67r hw67p => ?_); clear hw67
              have hR := hR.then hF69 (by decide)
              have hP := hB.1; rw [ht] at hP; have hD := tp_ad f68 hD; clear hB hFc hz1 hk1; subst ht; generalize t.heap = H at hP hS ⊢
              have hw67pq : r66.toInt = (-5) := by rw [hw67p]; rfl
              have hf_70 : f68 (ρ h0 2) = .inl (κ 0, 12967, .inl g27) := (hF69 _ (by rw [tp_iu y1]; decide)).trans hf_33
              exact W.iret (v := r66) hx hb hr (fun t ht hW => ⟨⟨r66, f68, rfl, ⟨hT, hR, trivial, ⟨(by rw [hf_70, mo_i1]; exact hI), (by rw [hf_70, mo_i1, hf_o26, mo_i1]; exact hKN)⟩⟩, by rw [ht]; exact hP, va_K.moved hW.alike hK, hD⟩, hS.F ht⟩) hS.2.2 dX12_order_132
            · have ic65 : z64.toInt ≠ 20 := zi_eqf rfl rfl c65
              replace ic65 : z64.toInt ≤ 19 := by omega
              refine lv_aload_n hx hb dX12_order_114 rfl (lv_at hl 2 rfl) ?_
              refine va_get (D := (dC, dI)) (ci := 12) (v := .ref (ρ h0 2)) (C := RX12) (T := TX12) (N := 53) hx hb hts hfX12 hown hK hP q45 eq45 rfl 2 (by decide) (hts (.fieldLink RX12 7 "ColdShipsModel" "row" "[I") wa_148) (fun _ h9 => h9) rfl dX12_order_115 ?_
              refine lv_iconst (v := 4) hx hb dX12_order_118 (by decide) ?_
              refine va_iald hx hb hK hP q63 0 eq63 rfl (vp_in_iff.mpr ⟨by decide, by decide⟩) dX12_order_119 ?_
              refine lv_topi (fun z71 ez71 => ?_)
              refine lv_sipush (v := 400) hx hb dX12_order_120 (by decide) ?_
              refine lv_icmp_ne (tgt := 133) hx hb dX12_order_123 (by decide) (fun c72 => ?_) (fun c72 => ?_)
              · have ic72 : z71.toInt ≠ 400 := zi_ne rfl rfl c72
                refine lv_iload hx hb dX12_order_133 (lv_at hl 0 rfl) ?_
                refine lv_bipush (v := 44) hx hb dX12_order_135 (by decide) ?_
                refine lv_iadd hx hb dX12_order_137 ?_
                refine lv_topi (fun z73 ez73 => ?_)
                have iz73 : z73.toInt = r60.toInt + 44 := zi_add ez73 rfl rfl (by omega) (by omega)
                refine lv_iconst (v := 2) hx hb dX12_order_138 (by decide) ?_
                refine lv_aload_n hx hb dX12_order_139 rfl (lv_at hl 2 rfl) ?_
                refine va_get (D := (dC, dI)) (ci := 12) (v := .ref (ρ h0 2)) (C := RX12) (T := TX12) (N := 53) hx hb hts hfX12 hown hK hP q45 eq45 rfl 2 (by decide) (hts (.fieldLink RX12 7 "ColdShipsModel" "row" "[I") wa_148) (fun _ h9 => h9) rfl dX12_order_140 ?_
                refine lv_iload hx hb dX12_order_143 (lv_at hl 0 rfl) ?_
                refine lv_bipush (v := 10) hx hb dX12_order_145 (by decide) ?_
                refine lv_iadd hx hb dX12_order_147 ?_
                refine lv_topi (fun z74 ez74 => ?_)
                have iz74 : z74.toInt = r60.toInt + 10 := zi_add ez74 rfl rfl (by omega) (by omega)
                refine va_iald hx hb hK hP q63 0 eq63 rfl (vp_in_iff.mpr ⟨by omega, by omega⟩) dX12_order_148 ?_
                refine lv_topi (fun z75 ez75 => ?_)
                have jz75 : z75.toInt = mo_R g27 (547 + 84 * v.toInt + 10) := mo_rd ez75 (by omega)
                have kz75 := hI.SO (s := v.toInt) (by omega) (by omega)
                have vz75 : z75.toInt = z64.toInt := jz75.trans (jz64).symm
                refine lv_imul hx hb dX12_order_149 ?_
                refine lv_topi (fun z76 ez76 => ?_)
                have iz76 : z76.toInt = 2 * z75.toInt := zi_mul ez76 rfl rfl (by omega) (by omega)
                refine lv_iadd hx hb dX12_order_150 ?_
                refine lv_topi (fun z77 ez77 => ?_)
                have iz77 : z77.toInt = z73.toInt + z76.toInt := zi_add ez77 rfl rfl (by omega) (by omega)
                refine lv_istore (lv' := [(6, .int z77), (5, .int r60), (4, .int 1), (0, .ref h0), (1, .int v), (2, .int u), (3, .int a)]) hx hb dX12_order_151 hl (by decide) rfl (fun ls hl => ?_)
                refine lv_aload_n hx hb dX12_order_153 rfl (lv_at hl 3 rfl) ?_
                refine va_get (D := (dC, dI)) (ci := 12) (v := .ref (ρ h0 2)) (C := RX12) (T := TX12) (N := 53) hx hb hts hfX12 hown hK hP q45 eq45 rfl 2 (by decide) (hts (.fieldLink RX12 7 "ColdShipsModel" "row" "[I") wa_148) (fun _ h9 => h9) rfl dX12_order_154 ?_
                refine lv_iload hx hb dX12_order_157 (lv_at hl 0 rfl) ?_
                refine lv_iload_n hx hb dX12_order_159 rfl (lv_at hl 5 rfl) ?_
                refine va_iast hx hb hK hP hD hS q63 0 eq63 rfl (vp_in_iff.mpr ⟨by omega, by omega⟩) dX12_order_160 (tp_k (.inl (κ 0, 12967, .inl (upd g27 z77.toNatClampNeg u))) hD (tp_in hG y1 (by decide)) eq63 (fun f78 H locs hP hD hS g80 k79 => ?_))
                have hT := hT.up y1 g80 k79 tp_o32
                have hR := hR.up y1 (by decide) k79
                have hU : mo_U (mo_R g27) (mo_R (upd g27 z77.toNatClampNeg u)) (547 + 84 * v.toInt + 44 + 2 * z64.toInt) (u.toInt) := mo_up (by omega) (rfl : u.toInt = _) (by omega)
                generalize (upd g27 z77.toNatClampNeg u) = g81 at g80 hU
                have hI := mo_w_ord hI hU v.toInt (0 + 2 * z64.toInt) (by omega) (by omega) (by omega)
                have hKN := hKN.up hU (Or.inl (by omega))
                have pn82 : mo_R g81 (1) = n1 := (hU.ne (by omega) (by omega)).trans en1.symm
                have pn83 : mo_R g81 (547 + 84 * v.toInt + 10) = z64.toInt := (hU.ne (by omega) (by omega)).trans (jz64).symm
                have pn84 : mo_R g81 (547 + 84 * v.toInt + 44 + 2 * z64.toInt) = u.toInt := hU.eq (by omega)
                refine lv_aload_n hx hb dX12_order_161 rfl (lv_at hl 3 rfl) ?_
                have hf_85 : f78 h0 = .inr (12, [.int 0, .int o28_x1, .ref (ρ h0 2), .ref (ρ h0 3), .ref (ρ h0 4), .ref (ρ h0 5), .ref (ρ h0 6), .int o28_x7, .ref (ρ h0 8), .int o28_x9, .int o28_x10, .int o28_x11, .int o28_x12, .long o28_x13, .int o28_x14, .int o28_x15, .int o28_x16, .int o28_x17, .int o28_x18, .int o28_x19, .int o28_x20, .ref (ρ h0 21), .int o28_x22, .ref (ρ h0 23), .ref (ρ h0 24), .int o28_x25, .ref (ρ h0 26), .ref (ρ h0 27), .int o28_x28, .int o28_x29, .ref (ρ h0 30), .ref (ρ h0 31), .int o28_x32, .long o28_x33, .long o28_x34, .long o28_x35, .int o28_x36, .int o28_x37, .int o28_x38, .ref (ρ h0 39), .ref (ρ h0 40), .ref (ρ h0 41), .ref (ρ h0 42), .ref (ρ h0 43), .ref (ρ h0 44), .ref (ρ h0 45), .ref (ρ h0 46), .int o28_x47, .int o28_x48, .ref (ρ h0 49), .ref (ρ h0 50), .ref (ρ h0 51), .ref (ρ h0 52)]) := (k79 _ (tp_ne ht_h0 y1 (by decide))).trans g32
                refine tpk_pos (tp_in hG ht_h0 (by decide)) hf_85 (fun q86 eq86 => ?_)
                refine va_get (D := (dC, dI)) (ci := 12) (v := .ref (ρ h0 2)) (C := RX12) (T := TX12) (N := 53) hx hb hts hfX12 hown hK hP q86 eq86 rfl 2 (by decide) (hts (.fieldLink RX12 7 "ColdShipsModel" "row" "[I") wa_148) (fun _ h9 => h9) rfl dX12_order_162 ?_
                refine lv_iload hx hb dX12_order_165 (lv_at hl 0 rfl) ?_
                refine lv_iconst (v := 1) hx hb dX12_order_167 (by decide) ?_
                refine lv_iadd hx hb dX12_order_168 ?_
                refine lv_topi (fun z87 ez87 => ?_)
                have iz87 : z87.toInt = z77.toInt + 1 := zi_add ez87 rfl rfl (by omega) (by omega)
                refine lv_iload_n hx hb dX12_order_169 rfl (lv_at hl 6 rfl) ?_
                refine tpk_pos (tp_in hG y1 (by decide)) g80 (fun q88 eq88 => ?_)
                refine va_iast hx hb hK hP hD hS q88 0 eq88 rfl (vp_in_iff.mpr ⟨by omega, by omega⟩) dX12_order_170 (tp_k (.inl (κ 0, 12967, .inl (upd g81 z87.toNatClampNeg a))) hD (tp_in hG y1 (by decide)) eq88 (fun f89 H locs hP hD hS g91 k90 => ?_))
                have hT := hT.up y1 g91 k90 tp_o32
                have hR := hR.up y1 (by decide) k90
                have hU : mo_U (mo_R g81) (mo_R (upd g81 z87.toNatClampNeg a)) (547 + 84 * v.toInt + 45 + 2 * z64.toInt) (a.toInt) := mo_up (by omega) (rfl : a.toInt = _) (by omega)
                generalize (upd g81 z87.toNatClampNeg a) = g92 at g91 hU
                have hI := mo_w_ord hI hU v.toInt (1 + 2 * z64.toInt) (by omega) (by omega) (by omega)
                have hKN := hKN.up hU (Or.inl (by omega))
                have pn93 : mo_R g92 (1) = n1 := (hU.ne (by omega) (by omega)).trans pn82
                have pn94 : mo_R g92 (547 + 84 * v.toInt + 10) = z64.toInt := (hU.ne (by omega) (by omega)).trans pn83
                have pn95 : mo_R g92 (547 + 84 * v.toInt + 44 + 2 * z64.toInt) = u.toInt := (hU.ne (by omega) (by omega)).trans pn84
                have pn96 : mo_R g92 (547 + 84 * v.toInt + 45 + 2 * z64.toInt) = a.toInt := hU.eq (by omega)
                refine lv_aload_n hx hb dX12_order_171 rfl (lv_at hl 3 rfl) ?_
                have hf_97 : f89 h0 = .inr (12, [.int 0, .int o28_x1, .ref (ρ h0 2), .ref (ρ h0 3), .ref (ρ h0 4), .ref (ρ h0 5), .ref (ρ h0 6), .int o28_x7, .ref (ρ h0 8), .int o28_x9, .int o28_x10, .int o28_x11, .int o28_x12, .long o28_x13, .int o28_x14, .int o28_x15, .int o28_x16, .int o28_x17, .int o28_x18, .int o28_x19, .int o28_x20, .ref (ρ h0 21), .int o28_x22, .ref (ρ h0 23), .ref (ρ h0 24), .int o28_x25, .ref (ρ h0 26), .ref (ρ h0 27), .int o28_x28, .int o28_x29, .ref (ρ h0 30), .ref (ρ h0 31), .int o28_x32, .long o28_x33, .long o28_x34, .long o28_x35, .int o28_x36, .int o28_x37, .int o28_x38, .ref (ρ h0 39), .ref (ρ h0 40), .ref (ρ h0 41), .ref (ρ h0 42), .ref (ρ h0 43), .ref (ρ h0 44), .ref (ρ h0 45), .ref (ρ h0 46), .int o28_x47, .int o28_x48, .ref (ρ h0 49), .ref (ρ h0 50), .ref (ρ h0 51), .ref (ρ h0 52)]) := (k90 _ (tp_ne ht_h0 y1 (by decide))).trans hf_85
                refine tpk_pos (tp_in hG ht_h0 (by decide)) hf_97 (fun q98 eq98 => ?_)
                refine va_get (D := (dC, dI)) (ci := 12) (v := .ref (ρ h0 2)) (C := RX12) (T := TX12) (N := 53) hx hb hts hfX12 hown hK hP q98 eq98 rfl 2 (by decide) (hts (.fieldLink RX12 7 "ColdShipsModel" "row" "[I") wa_148) (fun _ h9 => h9) rfl dX12_order_172 ?_
                refine lv_iload hx hb dX12_order_175 (lv_at hl 1 rfl) ?_
                refine lv_bipush (v := 10) hx hb dX12_order_177 (by decide) ?_
                refine lv_iadd hx hb dX12_order_179 ?_
                refine lv_topi (fun z99 ez99 => ?_)
                have iz99 : z99.toInt = r60.toInt + 10 := zi_add ez99 rfl rfl (by omega) (by omega)
                refine lv_dup2_11 hx hb dX12_order_180 rfl rfl ?_
                refine tpk_pos (tp_in hG y1 (by decide)) g91 (fun q100 eq100 => ?_)
                refine va_iald hx hb hK hP q100 0 eq100 rfl (vp_in_iff.mpr ⟨by omega, by omega⟩) dX12_order_181 ?_
                refine lv_topi (fun z101 ez101 => ?_)
                have jz101 : z101.toInt = mo_R g92 (547 + 84 * v.toInt + 10) := mo_rd ez101 (by omega)
                have kz101 := hI.SO (s := v.toInt) (by omega) (by omega)
                have vz101 : z101.toInt = z64.toInt := jz101.trans pn94
                refine lv_iconst (v := 1) hx hb dX12_order_182 (by decide) ?_
                refine lv_iadd hx hb dX12_order_183 ?_
                refine lv_topi (fun z102 ez102 => ?_)
                have iz102 : z102.toInt = z101.toInt + 1 := zi_add ez102 rfl rfl (by omega) (by omega)
                refine va_iast hx hb hK hP hD hS q100 0 eq100 rfl (vp_in_iff.mpr ⟨by omega, by omega⟩) dX12_order_184 (tp_k (.inl (κ 0, 12967, .inl (upd g92 z99.toNatClampNeg z102))) hD (tp_in hG y1 (by decide)) eq100 (fun f103 H locs hP hD hS g105 k104 => ?_))
                have hT := hT.up y1 g105 k104 tp_o32
                have hR := hR.up y1 (by decide) k104
                have hU : mo_U (mo_R g92) (mo_R (upd g92 z99.toNatClampNeg z102)) (547 + 84 * v.toInt + 10) (z102.toInt) := mo_up (by omega) (rfl : z102.toInt = _) (by omega)
                generalize (upd g92 z99.toNatClampNeg z102) = g106 at g105 hU
                have hI := mo_w_ORDS hI hU v.toInt (z64.toInt) (by omega) (by omega) pn94 (by omega) (by omega)
                have hKN := hKN.up hU (Or.inl (by omega))
                have pn107 : mo_R g106 (1) = n1 := (hU.ne (by omega) (by omega)).trans pn93
                have pn108 : mo_R g106 (547 + 84 * v.toInt + 44 + 2 * z64.toInt) = u.toInt := (hU.ne (by omega) (by omega)).trans pn95
                have pn109 : mo_R g106 (547 + 84 * v.toInt + 45 + 2 * z64.toInt) = a.toInt := (hU.ne (by omega) (by omega)).trans pn96
                have pn110 : mo_R g106 (547 + 84 * v.toInt + 10) = z102.toInt := hU.eq (by omega)
                refine lv_aload_n hx hb dX12_order_185 rfl (lv_at hl 3 rfl) ?_
                have hf_111 : f103 h0 = .inr (12, [.int 0, .int o28_x1, .ref (ρ h0 2), .ref (ρ h0 3), .ref (ρ h0 4), .ref (ρ h0 5), .ref (ρ h0 6), .int o28_x7, .ref (ρ h0 8), .int o28_x9, .int o28_x10, .int o28_x11, .int o28_x12, .long o28_x13, .int o28_x14, .int o28_x15, .int o28_x16, .int o28_x17, .int o28_x18, .int o28_x19, .int o28_x20, .ref (ρ h0 21), .int o28_x22, .ref (ρ h0 23), .ref (ρ h0 24), .int o28_x25, .ref (ρ h0 26), .ref (ρ h0 27), .int o28_x28, .int o28_x29, .ref (ρ h0 30), .ref (ρ h0 31), .int o28_x32, .long o28_x33, .long o28_x34, .long o28_x35, .int o28_x36, .int o28_x37, .int o28_x38, .ref (ρ h0 39), .ref (ρ h0 40), .ref (ρ h0 41), .ref (ρ h0 42), .ref (ρ h0 43), .ref (ρ h0 44), .ref (ρ h0 45), .ref (ρ h0 46), .int o28_x47, .int o28_x48, .ref (ρ h0 49), .ref (ρ h0 50), .ref (ρ h0 51), .ref (ρ h0 52)]) := (k104 _ (tp_ne ht_h0 y1 (by decide))).trans hf_97
                refine tpk_pos (tp_in hG ht_h0 (by decide)) hf_111 (fun q112 eq112 => ?_)
                refine va_get (D := (dC, dI)) (ci := 12) (v := .ref (ρ h0 2)) (C := RX12) (T := TX12) (N := 53) hx hb hts hfX12 hown hK hP q112 eq112 rfl 2 (by decide) (hts (.fieldLink RX12 7 "ColdShipsModel" "row" "[I") wa_148) (fun _ h9 => h9) rfl dX12_order_186 ?_
                refine lv_iconst (v := 4) hx hb dX12_order_189 (by decide) ?_
                refine lv_dup2_11 hx hb dX12_order_190 rfl rfl ?_
                refine tpk_pos (tp_in hG y1 (by decide)) g105 (fun q113 eq113 => ?_)
                refine va_iald hx hb hK hP q113 0 eq113 rfl (vp_in_iff.mpr ⟨by decide, by decide⟩) dX12_order_191 ?_
                refine lv_topi (fun z114 ez114 => ?_)
                refine lv_iconst (v := 1) hx hb dX12_order_192 (by decide) ?_
                refine lv_iadd hx hb dX12_order_193 ?_
                refine lv_topi (fun z115 ez115 => ?_)
                refine va_iast hx hb hK hP hD hS q113 0 eq113 rfl (vp_in_iff.mpr ⟨by decide, by decide⟩) dX12_order_194 (tp_k (.inl (κ 0, 12967, .inl (upd g106 (4 : Int32).toNatClampNeg z115))) hD (tp_in hG y1 (by decide)) eq113 (fun f116 H locs hP hD hS g118 k117 => ?_))
                have hT := hT.up y1 g118 k117 tp_o32
                have hR := hR.up y1 (by decide) k117
                have hU : mo_U (mo_R g106) (mo_R (upd g106 (4 : Int32).toNatClampNeg z115)) (4) (z115.toInt) := mo_up (show (4 : Int32).toInt = (4) from by decide) (rfl : z115.toInt = _) (by omega)
                generalize (upd g106 (4 : Int32).toNatClampNeg z115) = g119 at g118 hU
                have hI := mo_w_flat hI hU (by omega)
                have hKN := hKN.up hU (Or.inr (by show (4) = 4; omega))
                have pn120 : mo_R g119 (1) = n1 := (hU.ne (by omega) (by omega)).trans pn107
                have pn121 : mo_R g119 (547 + 84 * v.toInt + 44 + 2 * z64.toInt) = u.toInt := (hU.ne (by omega) (by omega)).trans pn108
                have pn122 : mo_R g119 (547 + 84 * v.toInt + 45 + 2 * z64.toInt) = a.toInt := (hU.ne (by omega) (by omega)).trans pn109
                have pn123 : mo_R g119 (547 + 84 * v.toInt + 10) = z102.toInt := (hU.ne (by omega) (by omega)).trans pn110
                refine lv_aload_n hx hb dX12_order_195 rfl (lv_at hl 3 rfl) ?_
                have hf_124 : f116 h0 = .inr (12, [.int 0, .int o28_x1, .ref (ρ h0 2), .ref (ρ h0 3), .ref (ρ h0 4), .ref (ρ h0 5), .ref (ρ h0 6), .int o28_x7, .ref (ρ h0 8), .int o28_x9, .int o28_x10, .int o28_x11, .int o28_x12, .long o28_x13, .int o28_x14, .int o28_x15, .int o28_x16, .int o28_x17, .int o28_x18, .int o28_x19, .int o28_x20, .ref (ρ h0 21), .int o28_x22, .ref (ρ h0 23), .ref (ρ h0 24), .int o28_x25, .ref (ρ h0 26), .ref (ρ h0 27), .int o28_x28, .int o28_x29, .ref (ρ h0 30), .ref (ρ h0 31), .int o28_x32, .long o28_x33, .long o28_x34, .long o28_x35, .int o28_x36, .int o28_x37, .int o28_x38, .ref (ρ h0 39), .ref (ρ h0 40), .ref (ρ h0 41), .ref (ρ h0 42), .ref (ρ h0 43), .ref (ρ h0 44), .ref (ρ h0 45), .ref (ρ h0 46), .int o28_x47, .int o28_x48, .ref (ρ h0 49), .ref (ρ h0 50), .ref (ρ h0 51), .ref (ρ h0 52)]) := (k117 _ (tp_ne ht_h0 y1 (by decide))).trans hf_111
                refine tpk_pos (tp_in hG ht_h0 (by decide)) hf_124 (fun q125 eq125 => ?_)
                refine va_get (D := (dC, dI)) (ci := 12) (v := .ref (ρ h0 2)) (C := RX12) (T := TX12) (N := 53) hx hb hts hfX12 hown hK hP q125 eq125 rfl 2 (by decide) (hts (.fieldLink RX12 7 "ColdShipsModel" "row" "[I") wa_148) (fun _ h9 => h9) rfl dX12_order_196 ?_
                refine lv_iload hx hb dX12_order_199 (lv_at hl 1 rfl) ?_
                refine lv_bipush (v := 10) hx hb dX12_order_201 (by decide) ?_
                refine lv_iadd hx hb dX12_order_203 ?_
                refine lv_topi (fun z126 ez126 => ?_)
                have iz126 : z126.toInt = r60.toInt + 10 := zi_add ez126 rfl rfl (by omega) (by omega)
                refine tpk_pos (tp_in hG y1 (by decide)) g118 (fun q127 eq127 => ?_)
                refine va_iald hx hb hK hP q127 0 eq127 rfl (vp_in_iff.mpr ⟨by omega, by omega⟩) dX12_order_204 ?_
                refine lv_topi (fun z128 ez128 => ?_)
                have jz128 : z128.toInt = mo_R g119 (547 + 84 * v.toInt + 10) := mo_rd ez128 (by omega)
                have kz128 := hI.SO (s := v.toInt) (by omega) (by omega)
                have vz128 : z128.toInt = z102.toInt := jz128.trans pn123
                refine lv_iconst (v := 1) hx hb dX12_order_205 (by decide) ?_
                refine lv_icmp_ne (tgt := 215) hx hb dX12_order_206 (by decide) (fun c129 => ?_) (fun c129 => ?_)
                · have ic129 : z128.toInt ≠ 1 := zi_ne rfl rfl c129
                  replace ic129 : 2 ≤ z128.toInt := by omega
                  refine lv_aload_n hx hb dX12_order_215 rfl (lv_at hl 3 rfl) ?_
                  refine lv_aload_n hx hb dX12_order_216 rfl (lv_at hl 3 rfl) ?_
                  refine va_get (D := (dC, dI)) (ci := 12) (v := .ref (ρ h0 2)) (C := RX12) (T := TX12) (N := 53) hx hb hts hfX12 hown hK hP q125 eq125 rfl 2 (by decide) (hts (.fieldLink RX12 7 "ColdShipsModel" "row" "[I") wa_148) (fun _ h9 => h9) rfl dX12_order_217 ?_
                  refine lv_iload hx hb dX12_order_220 (lv_at hl 1 rfl) ?_
                  refine lv_bipush (v := 10) hx hb dX12_order_222 (by decide) ?_
                  refine lv_iadd hx hb dX12_order_224 ?_
                  refine lv_topi (fun z130 ez130 => ?_)
                  have iz130 : z130.toInt = r60.toInt + 10 := zi_add ez130 rfl rfl (by omega) (by omega)
                  refine va_iald hx hb hK hP q127 0 eq127 rfl (vp_in_iff.mpr ⟨by omega, by omega⟩) dX12_order_225 ?_
                  refine lv_topi (fun z131 ez131 => ?_)
                  have jz131 : z131.toInt = mo_R g119 (547 + 84 * v.toInt + 10) := mo_rd ez131 (by omega)
                  have kz131 := hI.SO (s := v.toInt) (by omega) (by omega)
                  have vz131 : z131.toInt = z102.toInt := jz131.trans pn123
                  have hFc := tp_fr hD hS hA
                  refine va_calli (va_runV (As := [.int z131]) (rest := []) ⟨hx, hb, hml, hown, hts⟩ (t_X12_told l dC dI _ κ Θ τ ν ρ L f116 hG hT h0 z131 ht_h0) (cwV 1 hts gX12_order_X12_told rfl rfl rfl ⟨rfl, pd_X12_told⟩ ⟨Nat.le_of_ble_eq_true rfl, Nat.le_of_ble_eq_true rfl⟩) ⟨pz_blind, va_recv hK hP (ci := 12) (q0 := q125) rfl eq125, pz_pre hP hK hD hN⟩ rfl rfl hl.1 rfl (lv_room (Nat.le_of_ble_eq_true rfl)) dX12_order_226 ⟨Nat.le_of_ble_eq_true rfl, Nat.le_of_ble_eq_true rfl⟩) hS (fun q _ h => hFc q h) hFc (fun r132 f134 t H1 locs ht hvm hw133 hB hz1 hk1 hS => ?_)
                  refine tn_4 hw133 (fun hT hF135 hw133r hw133p => ?_); clear hw133
                  have hR := hR.then hF135 (by decide)
                  have hP := hB.1; rw [ht] at hP; have hD := tp_ad f134 hD; clear hB hFc hz1 hk1; subst ht; generalize t.heap = H at hP hS ⊢
                  have hw133pq : r132.toInt = z131.toInt := by rw [hw133p]
                  have hf_136 : f134 (ρ h0 2) = .inl (κ 0, 12967, .inl g119) := (hF135 _ (by rw [tp_iu y1]; decide)).trans g118
                  exact W.iret (v := r132) hx hb hr (fun t ht hW => ⟨⟨r132, f134, rfl, ⟨hT, hR, trivial, ⟨(by rw [hf_136, mo_i1]; exact hI), (by rw [hf_136, mo_i1, hf_o26, mo_i1]; exact hKN)⟩⟩, by rw [ht]; exact hP, va_K.moved hW.alike hK, hD⟩, hS.F ht⟩) hS.2.2 dX12_order_229
                · have ic129 : z128.toInt = 1 := zi_nef rfl rfl c129
                  refine lv_aload_n hx hb dX12_order_209 rfl (lv_at hl 3 rfl) ?_
                  refine lv_iload hx hb dX12_order_210 (lv_at hl 1 rfl) ?_
                  have hFc := tp_fr hD hS hA
                  refine va_callv (va_runV (As := [.int r60]) (rest := []) ⟨hx, hb, hml, hown, hts⟩ (t_X12_beginOrder l dC dI _ κ Θ τ ν ρ L f116 hG hT h0 r60 (-1) 0 v.toInt ht_h0 (by omega) (by omega) (by omega) (by rw [g118, mo_i1]; exact hI) (by first | (simp only [g118, hf_o26, mo_i1]; omega) | (simp only [g118, hf_o26, mo_i1]; trivial) | (simp only [g118, hf_o26, mo_i1]; done) | omega)) (cwV 1 hts gX12_order_X12_beginOrder rfl rfl rfl ⟨rfl, pd_X12_beginOrder⟩ ⟨Nat.le_of_ble_eq_true rfl, Nat.le_of_ble_eq_true rfl⟩) ⟨pz_blind, va_recv hK hP (ci := 12) (q0 := q125) rfl eq125, pz_pre hP hK hD hN⟩ rfl rfl hl.1 rfl (lv_room (Nat.le_of_ble_eq_true rfl)) dX12_order_212 ⟨Nat.le_of_ble_eq_true rfl, Nat.le_of_ble_eq_true rfl⟩) hS (fun q _ h => hFc q h) hFc (fun f139 t H1 locs ht hvm hw138 hB hz1 hk1 hS => ?_)
                  refine tn_3 hw138 (fun hT hF140 hw138p => ?_); clear hw138
                  have hR := hR.then hF140 (by decide)
                  have hP := hB.1; rw [ht] at hP; have hD := tp_ad f139 hD; clear hB hFc hz1 hk1; subst ht; generalize t.heap = H at hP hS ⊢
                  obtain ⟨hJ, hw138pe⟩ := hw138p
                  refine tpk_32 hT y1 (fun g142 hf_o141 => ?_)
                  have hI : mo_RI (-1) 0 (mo_R g142) := by have q9 := hJ; rw [hf_o141, mo_i1] at q9; exact q9
                  rw [g118, mo_i1] at hw138pe
                  rw [hf_o141, mo_i1] at hw138pe
                  obtain ⟨hw138pek, hw138peq⟩ := hw138pe
                  have hKN := hKN.th hw138pek (fun k q9 => False.elim q9)
                  have pn143 : mo_R g142 (1) = n1 := (hw138peq.1).trans pn120
                  have pn144 : mo_R g142 (547 + 84 * v.toInt + 10) = z102.toInt := (hw138peq.2.2).trans pn123
                  refine lv_aload_n hx hb dX12_order_215 rfl (lv_at hl 3 rfl) ?_
                  refine lv_aload_n hx hb dX12_order_216 rfl (lv_at hl 3 rfl) ?_
                  have hf_145 : f139 h0 = .inr (12, [.int 0, .int o28_x1, .ref (ρ h0 2), .ref (ρ h0 3), .ref (ρ h0 4), .ref (ρ h0 5), .ref (ρ h0 6), .int o28_x7, .ref (ρ h0 8), .int o28_x9, .int o28_x10, .int o28_x11, .int o28_x12, .long o28_x13, .int o28_x14, .int o28_x15, .int o28_x16, .int o28_x17, .int o28_x18, .int o28_x19, .int o28_x20, .ref (ρ h0 21), .int o28_x22, .ref (ρ h0 23), .ref (ρ h0 24), .int o28_x25, .ref (ρ h0 26), .ref (ρ h0 27), .int o28_x28, .int o28_x29, .ref (ρ h0 30), .ref (ρ h0 31), .int o28_x32, .long o28_x33, .long o28_x34, .long o28_x35, .int o28_x36, .int o28_x37, .int o28_x38, .ref (ρ h0 39), .ref (ρ h0 40), .ref (ρ h0 41), .ref (ρ h0 42), .ref (ρ h0 43), .ref (ρ h0 44), .ref (ρ h0 45), .ref (ρ h0 46), .int o28_x47, .int o28_x48, .ref (ρ h0 49), .ref (ρ h0 50), .ref (ρ h0 51), .ref (ρ h0 52)]) := (hF140 _ (by rw [ht_h0]; decide)).trans hf_124
                  refine tpk_pos (tp_in hG ht_h0 (by decide)) hf_145 (fun q146 eq146 => ?_)
                  refine va_get (D := (dC, dI)) (ci := 12) (v := .ref (ρ h0 2)) (C := RX12) (T := TX12) (N := 53) hx hb hts hfX12 hown hK hP q146 eq146 rfl 2 (by decide) (hts (.fieldLink RX12 7 "ColdShipsModel" "row" "[I") wa_148) (fun _ h9 => h9) rfl dX12_order_217 ?_
                  refine lv_iload hx hb dX12_order_220 (lv_at hl 1 rfl) ?_
                  refine lv_bipush (v := 10) hx hb dX12_order_222 (by decide) ?_
                  refine lv_iadd hx hb dX12_order_224 ?_
                  refine lv_topi (fun z147 ez147 => ?_)
                  have iz147 : z147.toInt = r60.toInt + 10 := zi_add ez147 rfl rfl (by omega) (by omega)
                  refine tpk_pos (tp_in hG y1 (by decide)) hf_o141 (fun q148 eq148 => ?_)
                  refine va_iald hx hb hK hP q148 0 eq148 rfl (vp_in_iff.mpr ⟨by omega, by omega⟩) dX12_order_225 ?_
                  refine lv_topi (fun z149 ez149 => ?_)
                  have jz149 : z149.toInt = mo_R g142 (547 + 84 * v.toInt + 10) := mo_rd ez149 (by omega)
                  have kz149 := hI.SO (s := v.toInt) (by omega) (by omega)
                  have vz149 : z149.toInt = z102.toInt := jz149.trans pn144
                  have hFc := tp_fr hD hS hA
                  refine va_calli (va_runV (As := [.int z149]) (rest := []) ⟨hx, hb, hml, hown, hts⟩ (t_X12_told l dC dI _ κ Θ τ ν ρ L f139 hG hT h0 z149 ht_h0) (cwV 1 hts gX12_order_X12_told rfl rfl rfl ⟨rfl, pd_X12_told⟩ ⟨Nat.le_of_ble_eq_true rfl, Nat.le_of_ble_eq_true rfl⟩) ⟨pz_blind, va_recv hK hP (ci := 12) (q0 := q146) rfl eq146, pz_pre hP hK hD hN⟩ rfl rfl hl.1 rfl (lv_room (Nat.le_of_ble_eq_true rfl)) dX12_order_226 ⟨Nat.le_of_ble_eq_true rfl, Nat.le_of_ble_eq_true rfl⟩) hS (fun q _ h => hFc q h) hFc (fun r150 f152 t H1 locs ht hvm hw151 hB hz1 hk1 hS => ?_)
                  refine tn_4 hw151 (fun hT hF153 hw151r hw151p => ?_); clear hw151
                  have hR := hR.then hF153 (by decide)
                  have hP := hB.1; rw [ht] at hP; have hD := tp_ad f152 hD; clear hB hFc hz1 hk1; subst ht; generalize t.heap = H at hP hS ⊢
                  have hw151pq : r150.toInt = z149.toInt := by rw [hw151p]
                  have hf_154 : f152 (ρ h0 2) = .inl (κ 0, 12967, .inl g142) := (hF153 _ (by rw [tp_iu y1]; decide)).trans hf_o141
                  exact W.iret (v := r150) hx hb hr (fun t ht hW => ⟨⟨r150, f152, rfl, ⟨hT, hR, trivial, ⟨(by rw [hf_154, mo_i1]; exact hI), (by rw [hf_154, mo_i1, hf_o26, mo_i1]; exact hKN)⟩⟩, by rw [ht]; exact hP, va_K.moved hW.alike hK, hD⟩, hS.F ht⟩) hS.2.2 dX12_order_229
              · have ic72 : z71.toInt = 400 := zi_nef rfl rfl c72
                refine lv_aload_n hx hb dX12_order_126 rfl (lv_at hl 2 rfl) ?_
                refine lv_bipush (v := (-5)) hx hb dX12_order_127 (by decide) ?_
                have hFc := tp_fr hD hS hA
                refine va_calli (va_runV (As := [.int (-5)]) (rest := []) ⟨hx, hb, hml, hown, hts⟩ (t_X12_told l dC dI _ κ Θ τ ν ρ L f30 hG hT h0 ((-5)) ht_h0) (cwV 1 hts gX12_order_X12_told rfl rfl rfl ⟨rfl, pd_X12_told⟩ ⟨Nat.le_of_ble_eq_true rfl, Nat.le_of_ble_eq_true rfl⟩) ⟨pz_blind, va_recv hK hP (ci := 12) (q0 := q45) rfl eq45, pz_pre hP hK hD hN⟩ rfl rfl hl.1 rfl (lv_room (Nat.le_of_ble_eq_true rfl)) dX12_order_129 ⟨Nat.le_of_ble_eq_true rfl, Nat.le_of_ble_eq_true rfl⟩) hS (fun q _ h => hFc q h) hFc (fun r155 f157 t H1 locs ht hvm hw156 hB hz1 hk1 hS => ?_)
                refine tn_4 hw156 (fun hT hF158 hw156r hw156p => ?_); clear hw156
                have hR := hR.then hF158 (by decide)
                have hP := hB.1; rw [ht] at hP; have hD := tp_ad f157 hD; clear hB hFc hz1 hk1; subst ht; generalize t.heap = H at hP hS ⊢
                have hw156pq : r155.toInt = (-5) := by rw [hw156p]; rfl
                have hf_159 : f157 (ρ h0 2) = .inl (κ 0, 12967, .inl g27) := (hF158 _ (by rw [tp_iu y1]; decide)).trans hf_33
                exact W.iret (v := r155) hx hb hr (fun t ht hW => ⟨⟨r155, f157, rfl, ⟨hT, hR, trivial, ⟨(by rw [hf_159, mo_i1]; exact hI), (by rw [hf_159, mo_i1, hf_o26, mo_i1]; exact hKN)⟩⟩, by rw [ht]; exact hP, va_K.moved hW.alike hK, hD⟩, hS.F ht⟩) hS.2.2 dX12_order_132
          · have ic58 : r56.toInt = 0 := zi_nef rfl rfl c58
            clear hw57r ic58
            refine lv_aload_n hx hb dX12_order_86 rfl (lv_at hl 1 rfl) ?_
            refine lv_bipush (v := (-2)) hx hb dX12_order_87 (by decide) ?_
            have hFc := tp_fr hD hS hA
            refine va_calli (va_runV (As := [.int (-2)]) (rest := []) ⟨hx, hb, hml, hown, hts⟩ (t_X12_told l dC dI _ κ Θ τ ν ρ L f30 hG hT h0 ((-2)) ht_h0) (cwV 1 hts gX12_order_X12_told rfl rfl rfl ⟨rfl, pd_X12_told⟩ ⟨Nat.le_of_ble_eq_true rfl, Nat.le_of_ble_eq_true rfl⟩) ⟨pz_blind, va_recv hK hP (ci := 12) (q0 := q45) rfl eq45, pz_pre hP hK hD hN⟩ rfl rfl hl.1 rfl (lv_room (Nat.le_of_ble_eq_true rfl)) dX12_order_89 ⟨Nat.le_of_ble_eq_true rfl, Nat.le_of_ble_eq_true rfl⟩) hS (fun q _ h => hFc q h) hFc (fun r160 f162 t H1 locs ht hvm hw161 hB hz1 hk1 hS => ?_)
            refine tn_4 hw161 (fun hT hF163 hw161r hw161p => ?_); clear hw161
            have hR := hR.then hF163 (by decide)
            have hP := hB.1; rw [ht] at hP; have hD := tp_ad f162 hD; clear hB hFc hz1 hk1; subst ht; generalize t.heap = H at hP hS ⊢
            have hw161pq : r160.toInt = (-2) := by rw [hw161p]; rfl
            have hf_164 : f162 (ρ h0 2) = .inl (κ 0, 12967, .inl g27) := (hF163 _ (by rw [tp_iu y1]; decide)).trans hf_33
            exact W.iret (v := r160) hx hb hr (fun t ht hW => ⟨⟨r160, f162, rfl, ⟨hT, hR, trivial, ⟨(by rw [hf_164, mo_i1]; exact hI), (by rw [hf_164, mo_i1, hf_o26, mo_i1]; exact hKN)⟩⟩, by rw [ht]; exact hP, va_K.moved hW.alike hK, hD⟩, hS.F ht⟩) hS.2.2 dX12_order_92
    · have ic44 : u.toInt ≠ 0 := zi_eqf rfl rfl c44
      replace ic44 : 1 ≤ u.toInt := by omega
      refine lv_iload_n hx hb dX12_order_21 rfl (lv_at hl 2 rfl) ?_
      refine lv_iconst (v := 3) hx hb dX12_order_22 (by decide) ?_
      refine lv_icmp_ne (tgt := 36) hx hb dX12_order_23 (by decide) (fun c165 => ?_) (fun c165 => ?_)
      · have ic165 : u.toInt ≠ 3 := zi_ne rfl rfl c165
        replace ic165 : u.toInt ≤ 2 := by omega
        refine lv_iload_n hx hb dX12_order_36 rfl (lv_at hl 3 rfl) ?_
        refine lv_i2l hx hb dX12_order_37 rfl ?_
        refine lv_lconst (v := 1) hx hb dX12_order_38 (by decide) ?_
        refine lv_ldc2 (own := RX12) (v := 200000) hx hb hown (hts (.constantLong RX12 124 (200000)) wa_272) dX12_order_39 ?_
        refine pz_calli (va_runS (As := [.long a.toInt64, .long 1, .long 200000]) (rest := []) ⟨hx, hb, hml, hown, hts⟩ (t_X12_in l dC dI _ a.toInt64 (1) (200000) (a.toInt) (1) (200000) (Int32.toInt_toInt64 a) rfl rfl) (va_cwS 3 hts gX12_order_X12_in rfl rfl rfl pd_X12_in ⟨Nat.le_of_ble_eq_true rfl, Nat.le_of_ble_eq_true rfl⟩) ⟨pz_blind, pz_pre pz_P0 (hK.sub (tys' := []) [] rfl) (pz_D0 (A := fun _ => True)) hN⟩ rfl rfl hl.1 rfl (lv_room (Nat.le_of_ble_eq_true rfl)) dX12_order_42 ⟨Nat.le_of_ble_eq_true rfl, Nat.le_of_ble_eq_true rfl⟩) (fun r166 hw167 => ?_)
        obtain ⟨hw167r, hw167p⟩ := hw167
        refine lv_if_eq (tgt := 52) hx hb dX12_order_45 (by decide) (fun c168 => ?_) (fun c168 => ?_)
        · have ic168 : r166.toInt = 0 := zi_eq rfl rfl c168
          clear hw167r ic168
          refine lv_iconst (v := 0) hx hb dX12_order_52 (by decide) ?_
          refine lv_istore (lv' := [(4, .int 0), (0, .ref h0), (1, .int v), (2, .int u), (3, .int a)]) hx hb dX12_order_53 hl (by decide) rfl (fun ls hl => ?_)
          refine lv_iload hx hb dX12_order_55 (lv_at hl 0 rfl) ?_
          refine lv_if_ne (tgt := 66) hx hb dX12_order_57 (by decide) (fun c9 => absurd c9 (by decide)) (fun _ => ?_)
          refine lv_aload_n hx hb dX12_order_60 rfl (lv_at hl 1 rfl) ?_
          refine lv_iconst (v := (-1)) hx hb dX12_order_61 (by decide) ?_
          refine tpk_pos (tp_in hG ht_h0 (by decide)) g32 (fun q169 eq169 => ?_)
          have hFc := tp_fr hD hS hA
          refine va_calli (va_runV (As := [.int (-1)]) (rest := []) ⟨hx, hb, hml, hown, hts⟩ (t_X12_told l dC dI _ κ Θ τ ν ρ L f30 hG hT h0 ((-1)) ht_h0) (cwV 1 hts gX12_order_X12_told rfl rfl rfl ⟨rfl, pd_X12_told⟩ ⟨Nat.le_of_ble_eq_true rfl, Nat.le_of_ble_eq_true rfl⟩) ⟨pz_blind, va_recv hK hP (ci := 12) (q0 := q169) rfl eq169, pz_pre hP hK hD hN⟩ rfl rfl hl.1 rfl (lv_room (Nat.le_of_ble_eq_true rfl)) dX12_order_62 ⟨Nat.le_of_ble_eq_true rfl, Nat.le_of_ble_eq_true rfl⟩) hS (fun q _ h => hFc q h) hFc (fun r170 f172 t H1 locs ht hvm hw171 hB hz1 hk1 hS => ?_)
          refine tn_4 hw171 (fun hT hF173 hw171r hw171p => ?_); clear hw171
          have hR := hR.then hF173 (by decide)
          have hP := hB.1; rw [ht] at hP; have hD := tp_ad f172 hD; clear hB hFc hz1 hk1; subst ht; generalize t.heap = H at hP hS ⊢
          have hw171pq : r170.toInt = (-1) := by rw [hw171p]; rfl
          have hf_174 : f172 (ρ h0 2) = .inl (κ 0, 12967, .inl g27) := (hF173 _ (by rw [tp_iu y1]; decide)).trans hf_33
          exact W.iret (v := r170) hx hb hr (fun t ht hW => ⟨⟨r170, f172, rfl, ⟨hT, hR, trivial, ⟨(by rw [hf_174, mo_i1]; exact hI), (by rw [hf_174, mo_i1, hf_o26, mo_i1]; exact hKN)⟩⟩, by rw [ht]; exact hP, va_K.moved hW.alike hK, hD⟩, hS.F ht⟩) hS.2.2 dX12_order_65
        · have ic168 : r166.toInt ≠ 0 := zi_eqf rfl rfl c168
          replace ic168 : 1 ≤ r166.toInt := by omega
          have p175 : (1) ≤ (a.toInt) ∧ (a.toInt) ≤ (200000) := (tp_cond.yes hw167p) (by omega)
          clear hw167r ic168
          refine lv_iconst (v := 1) hx hb dX12_order_48 (by decide) ?_
          refine lv_goto (tgt := 53) hx hb dX12_order_49 (by decide) ?_
          refine lv_istore (lv' := [(4, .int 1), (0, .ref h0), (1, .int v), (2, .int u), (3, .int a)]) hx hb dX12_order_53 hl (by decide) rfl (fun ls hl => ?_)
          refine lv_iload hx hb dX12_order_55 (lv_at hl 0 rfl) ?_
          refine lv_if_ne (tgt := 66) hx hb dX12_order_57 (by decide) (fun _ => ?_) (fun c9 => absurd c9 (by decide))
          refine lv_aload_n hx hb dX12_order_66 rfl (lv_at hl 1 rfl) ?_
          refine lv_iload_n hx hb dX12_order_67 rfl (lv_at hl 2 rfl) ?_
          refine tpk_pos (tp_in hG ht_h0 (by decide)) g32 (fun q176 eq176 => ?_)
          refine pz_calli (va_runV (As := [.int v]) (rest := []) ⟨hx, hb, hml, hown, hts⟩ (t_X12_isShip l dC dI _ κ Θ τ ν ρ L f30 hG hT h0 v (-1) 0 ht_h0 (by omega) (by rw [hf_33, mo_i1]; exact hI)) (cwV 1 hts gX12_order_X12_isShip rfl rfl rfl ⟨rfl, pd_X12_isShip⟩ ⟨Nat.le_of_ble_eq_true rfl, Nat.le_of_ble_eq_true rfl⟩) ⟨pz_blind, va_recv hK hP (ci := 12) (q0 := q176) rfl eq176, pz_pre hP hK hD hN⟩ rfl rfl hl.1 rfl (lv_room (Nat.le_of_ble_eq_true rfl)) dX12_order_68 ⟨Nat.le_of_ble_eq_true rfl, Nat.le_of_ble_eq_true rfl⟩) (fun r177 hw178 => ?_)
          obtain ⟨hw178r, hw178p⟩ := hw178
          have := hI.k1
          rw [hf_33, mo_i1] at hw178p
          refine lv_if_eq (tgt := 86) hx hb dX12_order_71 (by decide) (fun c179 => ?_) (fun c179 => ?_)
          · have ic179 : r177.toInt = 0 := zi_eq rfl rfl c179
            clear hw178r ic179
            refine lv_aload_n hx hb dX12_order_86 rfl (lv_at hl 1 rfl) ?_
            refine lv_bipush (v := (-2)) hx hb dX12_order_87 (by decide) ?_
            have hFc := tp_fr hD hS hA
            refine va_calli (va_runV (As := [.int (-2)]) (rest := []) ⟨hx, hb, hml, hown, hts⟩ (t_X12_told l dC dI _ κ Θ τ ν ρ L f30 hG hT h0 ((-2)) ht_h0) (cwV 1 hts gX12_order_X12_told rfl rfl rfl ⟨rfl, pd_X12_told⟩ ⟨Nat.le_of_ble_eq_true rfl, Nat.le_of_ble_eq_true rfl⟩) ⟨pz_blind, va_recv hK hP (ci := 12) (q0 := q176) rfl eq176, pz_pre hP hK hD hN⟩ rfl rfl hl.1 rfl (lv_room (Nat.le_of_ble_eq_true rfl)) dX12_order_89 ⟨Nat.le_of_ble_eq_true rfl, Nat.le_of_ble_eq_true rfl⟩) hS (fun q _ h => hFc q h) hFc (fun r180 f182 t H1 locs ht hvm hw181 hB hz1 hk1 hS => ?_)
            refine tn_4 hw181 (fun hT hF183 hw181r hw181p => ?_); clear hw181
            have hR := hR.then hF183 (by decide)
            have hP := hB.1; rw [ht] at hP; have hD := tp_ad f182 hD; clear hB hFc hz1 hk1; subst ht; generalize t.heap = H at hP hS ⊢
            have hw181pq : r180.toInt = (-2) := by rw [hw181p]; rfl
            have hf_184 : f182 (ρ h0 2) = .inl (κ 0, 12967, .inl g27) := (hF183 _ (by rw [tp_iu y1]; decide)).trans hf_33
            exact W.iret (v := r180) hx hb hr (fun t ht hW => ⟨⟨r180, f182, rfl, ⟨hT, hR, trivial, ⟨(by rw [hf_184, mo_i1]; exact hI), (by rw [hf_184, mo_i1, hf_o26, mo_i1]; exact hKN)⟩⟩, by rw [ht]; exact hP, va_K.moved hW.alike hK, hD⟩, hS.F ht⟩) hS.2.2 dX12_order_92
          · have ic179 : r177.toInt ≠ 0 := zi_eqf rfl rfl c179
            replace ic179 : 1 ≤ r177.toInt := by omega
            have p185 : 0 ≤ v.toInt ∧ v.toInt < mo_R g27 1 := (tp_cond.yes hw178p) (by omega)
            clear hw178r ic179
            refine lv_iload_n hx hb dX12_order_74 rfl (lv_at hl 3 rfl) ?_
            refine lv_if_ne (tgt := 93) hx hb dX12_order_75 (by decide) (fun c186 => ?_) (fun c186 => ?_)
            · have ic186 : u.toInt ≠ 0 := zi_ne rfl rfl c186
              refine lv_iload_n hx hb dX12_order_93 rfl (lv_at hl 2 rfl) ?_
              refine pz_calli (va_runS (As := [.int v]) (rest := []) ⟨hx, hb, hml, hown, hts⟩ (t_X12_shipAt l dC dI _ v (v.toInt) (by omega) rfl) (va_cwS 1 hts gX12_order_X12_shipAt rfl rfl rfl pd_X12_shipAt ⟨Nat.le_of_ble_eq_true rfl, Nat.le_of_ble_eq_true rfl⟩) ⟨pz_blind, pz_pre pz_P0 (hK.sub (tys' := []) [] rfl) (pz_D0 (A := fun _ => True)) hN⟩ rfl rfl hl.1 rfl (lv_room (Nat.le_of_ble_eq_true rfl)) dX12_order_94 ⟨Nat.le_of_ble_eq_true rfl, Nat.le_of_ble_eq_true rfl⟩) (fun r187 hw188 => ?_)
              obtain ⟨hw188r, hw188p⟩ := hw188
              refine lv_istore (lv' := [(5, .int r187), (4, .int 1), (0, .ref h0), (1, .int v), (2, .int u), (3, .int a)]) hx hb dX12_order_97 hl (by decide) rfl (fun ls hl => ?_)
              refine lv_aload_n hx hb dX12_order_99 rfl (lv_at hl 2 rfl) ?_
              refine va_get (D := (dC, dI)) (ci := 12) (v := .ref (ρ h0 2)) (C := RX12) (T := TX12) (N := 53) hx hb hts hfX12 hown hK hP q176 eq176 rfl 2 (by decide) (hts (.fieldLink RX12 7 "ColdShipsModel" "row" "[I") wa_148) (fun _ h9 => h9) rfl dX12_order_100 ?_
              refine lv_iload hx hb dX12_order_103 (lv_at hl 0 rfl) ?_
              refine lv_bipush (v := 10) hx hb dX12_order_105 (by decide) ?_
              refine lv_iadd hx hb dX12_order_107 ?_
              refine lv_topi (fun z189 ez189 => ?_)
              have iz189 : z189.toInt = r187.toInt + 10 := zi_add ez189 rfl rfl (by omega) (by omega)
              refine tpk_pos (tp_in hG y1 (by decide)) hf_33 (fun q190 eq190 => ?_)
              refine va_iald hx hb hK hP q190 0 eq190 rfl (vp_in_iff.mpr ⟨by omega, by omega⟩) dX12_order_108 ?_
              refine lv_topi (fun z191 ez191 => ?_)
              have jz191 : z191.toInt = mo_R g27 (547 + 84 * v.toInt + 10) := mo_rd ez191 (by omega)
              have kz191 := hI.SO (s := v.toInt) (by omega) (by omega)
              refine lv_bipush (v := 20) hx hb dX12_order_109 (by decide) ?_
              refine lv_icmp_eq (tgt := 126) hx hb dX12_order_111 (by decide) (fun c192 => ?_) (fun c192 => ?_)
              · have ic192 : z191.toInt = 20 := zi_eq rfl rfl c192
                refine lv_aload_n hx hb dX12_order_126 rfl (lv_at hl 2 rfl) ?_
                refine lv_bipush (v := (-5)) hx hb dX12_order_127 (by decide) ?_
                have hFc := tp_fr hD hS hA
                refine va_calli (va_runV (As := [.int (-5)]) (rest := []) ⟨hx, hb, hml, hown, hts⟩ (t_X12_told l dC dI _ κ Θ τ ν ρ L f30 hG hT h0 ((-5)) ht_h0) (cwV 1 hts gX12_order_X12_told rfl rfl rfl ⟨rfl, pd_X12_told⟩ ⟨Nat.le_of_ble_eq_true rfl, Nat.le_of_ble_eq_true rfl⟩) ⟨pz_blind, va_recv hK hP (ci := 12) (q0 := q176) rfl eq176, pz_pre hP hK hD hN⟩ rfl rfl hl.1 rfl (lv_room (Nat.le_of_ble_eq_true rfl)) dX12_order_129 ⟨Nat.le_of_ble_eq_true rfl, Nat.le_of_ble_eq_true rfl⟩) hS (fun q _ h => hFc q h) hFc (fun r193 f195 t H1 locs ht hvm hw194 hB hz1 hk1 hS => ?_)
                refine tn_4 hw194 (fun hT hF196 hw194r hw194p => ?_); clear hw194
                have hR := hR.then hF196 (by decide)
                have hP := hB.1; rw [ht] at hP; have hD := tp_ad f195 hD; clear hB hFc hz1 hk1; subst ht; generalize t.heap = H at hP hS ⊢
                have hw194pq : r193.toInt = (-5) := by rw [hw194p]; rfl
                have hf_197 : f195 (ρ h0 2) = .inl (κ 0, 12967, .inl g27) := (hF196 _ (by rw [tp_iu y1]; decide)).trans hf_33
                exact W.iret (v := r193) hx hb hr (fun t ht hW => ⟨⟨r193, f195, rfl, ⟨hT, hR, trivial, ⟨(by rw [hf_197, mo_i1]; exact hI), (by rw [hf_197, mo_i1, hf_o26, mo_i1]; exact hKN)⟩⟩, by rw [ht]; exact hP, va_K.moved hW.alike hK, hD⟩, hS.F ht⟩) hS.2.2 dX12_order_132
              · have ic192 : z191.toInt ≠ 20 := zi_eqf rfl rfl c192
                replace ic192 : z191.toInt ≤ 19 := by omega
                refine lv_aload_n hx hb dX12_order_114 rfl (lv_at hl 2 rfl) ?_
                refine va_get (D := (dC, dI)) (ci := 12) (v := .ref (ρ h0 2)) (C := RX12) (T := TX12) (N := 53) hx hb hts hfX12 hown hK hP q176 eq176 rfl 2 (by decide) (hts (.fieldLink RX12 7 "ColdShipsModel" "row" "[I") wa_148) (fun _ h9 => h9) rfl dX12_order_115 ?_
                refine lv_iconst (v := 4) hx hb dX12_order_118 (by decide) ?_
                refine va_iald hx hb hK hP q190 0 eq190 rfl (vp_in_iff.mpr ⟨by decide, by decide⟩) dX12_order_119 ?_
                refine lv_topi (fun z198 ez198 => ?_)
                refine lv_sipush (v := 400) hx hb dX12_order_120 (by decide) ?_
                refine lv_icmp_ne (tgt := 133) hx hb dX12_order_123 (by decide) (fun c199 => ?_) (fun c199 => ?_)
                · have ic199 : z198.toInt ≠ 400 := zi_ne rfl rfl c199
                  refine lv_iload hx hb dX12_order_133 (lv_at hl 0 rfl) ?_
                  refine lv_bipush (v := 44) hx hb dX12_order_135 (by decide) ?_
                  refine lv_iadd hx hb dX12_order_137 ?_
                  refine lv_topi (fun z200 ez200 => ?_)
                  have iz200 : z200.toInt = r187.toInt + 44 := zi_add ez200 rfl rfl (by omega) (by omega)
                  refine lv_iconst (v := 2) hx hb dX12_order_138 (by decide) ?_
                  refine lv_aload_n hx hb dX12_order_139 rfl (lv_at hl 2 rfl) ?_
                  refine va_get (D := (dC, dI)) (ci := 12) (v := .ref (ρ h0 2)) (C := RX12) (T := TX12) (N := 53) hx hb hts hfX12 hown hK hP q176 eq176 rfl 2 (by decide) (hts (.fieldLink RX12 7 "ColdShipsModel" "row" "[I") wa_148) (fun _ h9 => h9) rfl dX12_order_140 ?_
                  refine lv_iload hx hb dX12_order_143 (lv_at hl 0 rfl) ?_
                  refine lv_bipush (v := 10) hx hb dX12_order_145 (by decide) ?_
                  refine lv_iadd hx hb dX12_order_147 ?_
                  refine lv_topi (fun z201 ez201 => ?_)
                  have iz201 : z201.toInt = r187.toInt + 10 := zi_add ez201 rfl rfl (by omega) (by omega)
                  refine va_iald hx hb hK hP q190 0 eq190 rfl (vp_in_iff.mpr ⟨by omega, by omega⟩) dX12_order_148 ?_
                  refine lv_topi (fun z202 ez202 => ?_)
                  have jz202 : z202.toInt = mo_R g27 (547 + 84 * v.toInt + 10) := mo_rd ez202 (by omega)
                  have kz202 := hI.SO (s := v.toInt) (by omega) (by omega)
                  have vz202 : z202.toInt = z191.toInt := jz202.trans (jz191).symm
                  refine lv_imul hx hb dX12_order_149 ?_
                  refine lv_topi (fun z203 ez203 => ?_)
                  have iz203 : z203.toInt = 2 * z202.toInt := zi_mul ez203 rfl rfl (by omega) (by omega)
                  refine lv_iadd hx hb dX12_order_150 ?_
                  refine lv_topi (fun z204 ez204 => ?_)
                  have iz204 : z204.toInt = z200.toInt + z203.toInt := zi_add ez204 rfl rfl (by omega) (by omega)
                  refine lv_istore (lv' := [(6, .int z204), (5, .int r187), (4, .int 1), (0, .ref h0), (1, .int v), (2, .int u), (3, .int a)]) hx hb dX12_order_151 hl (by decide) rfl (fun ls hl => ?_)
                  refine lv_aload_n hx hb dX12_order_153 rfl (lv_at hl 3 rfl) ?_
                  refine va_get (D := (dC, dI)) (ci := 12) (v := .ref (ρ h0 2)) (C := RX12) (T := TX12) (N := 53) hx hb hts hfX12 hown hK hP q176 eq176 rfl 2 (by decide) (hts (.fieldLink RX12 7 "ColdShipsModel" "row" "[I") wa_148) (fun _ h9 => h9) rfl dX12_order_154 ?_
                  refine lv_iload hx hb dX12_order_157 (lv_at hl 0 rfl) ?_
                  refine lv_iload_n hx hb dX12_order_159 rfl (lv_at hl 5 rfl) ?_
                  refine va_iast hx hb hK hP hD hS q190 0 eq190 rfl (vp_in_iff.mpr ⟨by omega, by omega⟩) dX12_order_160 (tp_k (.inl (κ 0, 12967, .inl (upd g27 z204.toNatClampNeg u))) hD (tp_in hG y1 (by decide)) eq190 (fun f205 H locs hP hD hS g207 k206 => ?_))
                  have hT := hT.up y1 g207 k206 tp_o32
                  have hR := hR.up y1 (by decide) k206
                  have hU : mo_U (mo_R g27) (mo_R (upd g27 z204.toNatClampNeg u)) (547 + 84 * v.toInt + 44 + 2 * z191.toInt) (u.toInt) := mo_up (by omega) (rfl : u.toInt = _) (by omega)
                  generalize (upd g27 z204.toNatClampNeg u) = g208 at g207 hU
                  have hI := mo_w_ord hI hU v.toInt (0 + 2 * z191.toInt) (by omega) (by omega) (by omega)
                  have hKN := hKN.up hU (Or.inl (by omega))
                  have pn209 : mo_R g208 (1) = n1 := (hU.ne (by omega) (by omega)).trans en1.symm
                  have pn210 : mo_R g208 (547 + 84 * v.toInt + 10) = z191.toInt := (hU.ne (by omega) (by omega)).trans (jz191).symm
                  have pn211 : mo_R g208 (547 + 84 * v.toInt + 44 + 2 * z191.toInt) = u.toInt := hU.eq (by omega)
                  refine lv_aload_n hx hb dX12_order_161 rfl (lv_at hl 3 rfl) ?_
                  have hf_212 : f205 h0 = .inr (12, [.int 0, .int o28_x1, .ref (ρ h0 2), .ref (ρ h0 3), .ref (ρ h0 4), .ref (ρ h0 5), .ref (ρ h0 6), .int o28_x7, .ref (ρ h0 8), .int o28_x9, .int o28_x10, .int o28_x11, .int o28_x12, .long o28_x13, .int o28_x14, .int o28_x15, .int o28_x16, .int o28_x17, .int o28_x18, .int o28_x19, .int o28_x20, .ref (ρ h0 21), .int o28_x22, .ref (ρ h0 23), .ref (ρ h0 24), .int o28_x25, .ref (ρ h0 26), .ref (ρ h0 27), .int o28_x28, .int o28_x29, .ref (ρ h0 30), .ref (ρ h0 31), .int o28_x32, .long o28_x33, .long o28_x34, .long o28_x35, .int o28_x36, .int o28_x37, .int o28_x38, .ref (ρ h0 39), .ref (ρ h0 40), .ref (ρ h0 41), .ref (ρ h0 42), .ref (ρ h0 43), .ref (ρ h0 44), .ref (ρ h0 45), .ref (ρ h0 46), .int o28_x47, .int o28_x48, .ref (ρ h0 49), .ref (ρ h0 50), .ref (ρ h0 51), .ref (ρ h0 52)]) := (k206 _ (tp_ne ht_h0 y1 (by decide))).trans g32
                  refine tpk_pos (tp_in hG ht_h0 (by decide)) hf_212 (fun q213 eq213 => ?_)
                  refine va_get (D := (dC, dI)) (ci := 12) (v := .ref (ρ h0 2)) (C := RX12) (T := TX12) (N := 53) hx hb hts hfX12 hown hK hP q213 eq213 rfl 2 (by decide) (hts (.fieldLink RX12 7 "ColdShipsModel" "row" "[I") wa_148) (fun _ h9 => h9) rfl dX12_order_162 ?_
                  refine lv_iload hx hb dX12_order_165 (lv_at hl 0 rfl) ?_
                  refine lv_iconst (v := 1) hx hb dX12_order_167 (by decide) ?_
                  refine lv_iadd hx hb dX12_order_168 ?_
                  refine lv_topi (fun z214 ez214 => ?_)
                  have iz214 : z214.toInt = z204.toInt + 1 := zi_add ez214 rfl rfl (by omega) (by omega)
                  refine lv_iload_n hx hb dX12_order_169 rfl (lv_at hl 6 rfl) ?_
                  refine tpk_pos (tp_in hG y1 (by decide)) g207 (fun q215 eq215 => ?_)
                  refine va_iast hx hb hK hP hD hS q215 0 eq215 rfl (vp_in_iff.mpr ⟨by omega, by omega⟩) dX12_order_170 (tp_k (.inl (κ 0, 12967, .inl (upd g208 z214.toNatClampNeg a))) hD (tp_in hG y1 (by decide)) eq215 (fun f216 H locs hP hD hS g218 k217 => ?_))
                  have hT := hT.up y1 g218 k217 tp_o32
                  have hR := hR.up y1 (by decide) k217
                  have hU : mo_U (mo_R g208) (mo_R (upd g208 z214.toNatClampNeg a)) (547 + 84 * v.toInt + 45 + 2 * z191.toInt) (a.toInt) := mo_up (by omega) (rfl : a.toInt = _) (by omega)
                  generalize (upd g208 z214.toNatClampNeg a) = g219 at g218 hU
                  have hI := mo_w_ord hI hU v.toInt (1 + 2 * z191.toInt) (by omega) (by omega) (by omega)
                  have hKN := hKN.up hU (Or.inl (by omega))
                  have pn220 : mo_R g219 (1) = n1 := (hU.ne (by omega) (by omega)).trans pn209
                  have pn221 : mo_R g219 (547 + 84 * v.toInt + 10) = z191.toInt := (hU.ne (by omega) (by omega)).trans pn210
                  have pn222 : mo_R g219 (547 + 84 * v.toInt + 44 + 2 * z191.toInt) = u.toInt := (hU.ne (by omega) (by omega)).trans pn211
                  have pn223 : mo_R g219 (547 + 84 * v.toInt + 45 + 2 * z191.toInt) = a.toInt := hU.eq (by omega)
                  refine lv_aload_n hx hb dX12_order_171 rfl (lv_at hl 3 rfl) ?_
                  have hf_224 : f216 h0 = .inr (12, [.int 0, .int o28_x1, .ref (ρ h0 2), .ref (ρ h0 3), .ref (ρ h0 4), .ref (ρ h0 5), .ref (ρ h0 6), .int o28_x7, .ref (ρ h0 8), .int o28_x9, .int o28_x10, .int o28_x11, .int o28_x12, .long o28_x13, .int o28_x14, .int o28_x15, .int o28_x16, .int o28_x17, .int o28_x18, .int o28_x19, .int o28_x20, .ref (ρ h0 21), .int o28_x22, .ref (ρ h0 23), .ref (ρ h0 24), .int o28_x25, .ref (ρ h0 26), .ref (ρ h0 27), .int o28_x28, .int o28_x29, .ref (ρ h0 30), .ref (ρ h0 31), .int o28_x32, .long o28_x33, .long o28_x34, .long o28_x35, .int o28_x36, .int o28_x37, .int o28_x38, .ref (ρ h0 39), .ref (ρ h0 40), .ref (ρ h0 41), .ref (ρ h0 42), .ref (ρ h0 43), .ref (ρ h0 44), .ref (ρ h0 45), .ref (ρ h0 46), .int o28_x47, .int o28_x48, .ref (ρ h0 49), .ref (ρ h0 50), .ref (ρ h0 51), .ref (ρ h0 52)]) := (k217 _ (tp_ne ht_h0 y1 (by decide))).trans hf_212
                  refine tpk_pos (tp_in hG ht_h0 (by decide)) hf_224 (fun q225 eq225 => ?_)
                  refine va_get (D := (dC, dI)) (ci := 12) (v := .ref (ρ h0 2)) (C := RX12) (T := TX12) (N := 53) hx hb hts hfX12 hown hK hP q225 eq225 rfl 2 (by decide) (hts (.fieldLink RX12 7 "ColdShipsModel" "row" "[I") wa_148) (fun _ h9 => h9) rfl dX12_order_172 ?_
                  refine lv_iload hx hb dX12_order_175 (lv_at hl 1 rfl) ?_
                  refine lv_bipush (v := 10) hx hb dX12_order_177 (by decide) ?_
                  refine lv_iadd hx hb dX12_order_179 ?_
                  refine lv_topi (fun z226 ez226 => ?_)
                  have iz226 : z226.toInt = r187.toInt + 10 := zi_add ez226 rfl rfl (by omega) (by omega)
                  refine lv_dup2_11 hx hb dX12_order_180 rfl rfl ?_
                  refine tpk_pos (tp_in hG y1 (by decide)) g218 (fun q227 eq227 => ?_)
                  refine va_iald hx hb hK hP q227 0 eq227 rfl (vp_in_iff.mpr ⟨by omega, by omega⟩) dX12_order_181 ?_
                  refine lv_topi (fun z228 ez228 => ?_)
                  have jz228 : z228.toInt = mo_R g219 (547 + 84 * v.toInt + 10) := mo_rd ez228 (by omega)
                  have kz228 := hI.SO (s := v.toInt) (by omega) (by omega)
                  have vz228 : z228.toInt = z191.toInt := jz228.trans pn221
                  refine lv_iconst (v := 1) hx hb dX12_order_182 (by decide) ?_
                  refine lv_iadd hx hb dX12_order_183 ?_
                  refine lv_topi (fun z229 ez229 => ?_)
                  have iz229 : z229.toInt = z228.toInt + 1 := zi_add ez229 rfl rfl (by omega) (by omega)
                  refine va_iast hx hb hK hP hD hS q227 0 eq227 rfl (vp_in_iff.mpr ⟨by omega, by omega⟩) dX12_order_184 (tp_k (.inl (κ 0, 12967, .inl (upd g219 z226.toNatClampNeg z229))) hD (tp_in hG y1 (by decide)) eq227 (fun f230 H locs hP hD hS g232 k231 => ?_))
                  have hT := hT.up y1 g232 k231 tp_o32
                  have hR := hR.up y1 (by decide) k231
                  have hU : mo_U (mo_R g219) (mo_R (upd g219 z226.toNatClampNeg z229)) (547 + 84 * v.toInt + 10) (z229.toInt) := mo_up (by omega) (rfl : z229.toInt = _) (by omega)
                  generalize (upd g219 z226.toNatClampNeg z229) = g233 at g232 hU
                  have hI := mo_w_ORDS hI hU v.toInt (z191.toInt) (by omega) (by omega) pn221 (by omega) (by omega)
                  have hKN := hKN.up hU (Or.inl (by omega))
                  have pn234 : mo_R g233 (1) = n1 := (hU.ne (by omega) (by omega)).trans pn220
                  have pn235 : mo_R g233 (547 + 84 * v.toInt + 44 + 2 * z191.toInt) = u.toInt := (hU.ne (by omega) (by omega)).trans pn222
                  have pn236 : mo_R g233 (547 + 84 * v.toInt + 45 + 2 * z191.toInt) = a.toInt := (hU.ne (by omega) (by omega)).trans pn223
                  have pn237 : mo_R g233 (547 + 84 * v.toInt + 10) = z229.toInt := hU.eq (by omega)
                  refine lv_aload_n hx hb dX12_order_185 rfl (lv_at hl 3 rfl) ?_
                  have hf_238 : f230 h0 = .inr (12, [.int 0, .int o28_x1, .ref (ρ h0 2), .ref (ρ h0 3), .ref (ρ h0 4), .ref (ρ h0 5), .ref (ρ h0 6), .int o28_x7, .ref (ρ h0 8), .int o28_x9, .int o28_x10, .int o28_x11, .int o28_x12, .long o28_x13, .int o28_x14, .int o28_x15, .int o28_x16, .int o28_x17, .int o28_x18, .int o28_x19, .int o28_x20, .ref (ρ h0 21), .int o28_x22, .ref (ρ h0 23), .ref (ρ h0 24), .int o28_x25, .ref (ρ h0 26), .ref (ρ h0 27), .int o28_x28, .int o28_x29, .ref (ρ h0 30), .ref (ρ h0 31), .int o28_x32, .long o28_x33, .long o28_x34, .long o28_x35, .int o28_x36, .int o28_x37, .int o28_x38, .ref (ρ h0 39), .ref (ρ h0 40), .ref (ρ h0 41), .ref (ρ h0 42), .ref (ρ h0 43), .ref (ρ h0 44), .ref (ρ h0 45), .ref (ρ h0 46), .int o28_x47, .int o28_x48, .ref (ρ h0 49), .ref (ρ h0 50), .ref (ρ h0 51), .ref (ρ h0 52)]) := (k231 _ (tp_ne ht_h0 y1 (by decide))).trans hf_224
                  refine tpk_pos (tp_in hG ht_h0 (by decide)) hf_238 (fun q239 eq239 => ?_)
                  refine va_get (D := (dC, dI)) (ci := 12) (v := .ref (ρ h0 2)) (C := RX12) (T := TX12) (N := 53) hx hb hts hfX12 hown hK hP q239 eq239 rfl 2 (by decide) (hts (.fieldLink RX12 7 "ColdShipsModel" "row" "[I") wa_148) (fun _ h9 => h9) rfl dX12_order_186 ?_
                  refine lv_iconst (v := 4) hx hb dX12_order_189 (by decide) ?_
                  refine lv_dup2_11 hx hb dX12_order_190 rfl rfl ?_
                  refine tpk_pos (tp_in hG y1 (by decide)) g232 (fun q240 eq240 => ?_)
                  refine va_iald hx hb hK hP q240 0 eq240 rfl (vp_in_iff.mpr ⟨by decide, by decide⟩) dX12_order_191 ?_
                  refine lv_topi (fun z241 ez241 => ?_)
                  refine lv_iconst (v := 1) hx hb dX12_order_192 (by decide) ?_
                  refine lv_iadd hx hb dX12_order_193 ?_
                  refine lv_topi (fun z242 ez242 => ?_)
                  refine va_iast hx hb hK hP hD hS q240 0 eq240 rfl (vp_in_iff.mpr ⟨by decide, by decide⟩) dX12_order_194 (tp_k (.inl (κ 0, 12967, .inl (upd g233 (4 : Int32).toNatClampNeg z242))) hD (tp_in hG y1 (by decide)) eq240 (fun f243 H locs hP hD hS g245 k244 => ?_))
                  have hT := hT.up y1 g245 k244 tp_o32
                  have hR := hR.up y1 (by decide) k244
                  have hU : mo_U (mo_R g233) (mo_R (upd g233 (4 : Int32).toNatClampNeg z242)) (4) (z242.toInt) := mo_up (show (4 : Int32).toInt = (4) from by decide) (rfl : z242.toInt = _) (by omega)
                  generalize (upd g233 (4 : Int32).toNatClampNeg z242) = g246 at g245 hU
                  have hI := mo_w_flat hI hU (by omega)
                  have hKN := hKN.up hU (Or.inr (by show (4) = 4; omega))
                  have pn247 : mo_R g246 (1) = n1 := (hU.ne (by omega) (by omega)).trans pn234
                  have pn248 : mo_R g246 (547 + 84 * v.toInt + 44 + 2 * z191.toInt) = u.toInt := (hU.ne (by omega) (by omega)).trans pn235
                  have pn249 : mo_R g246 (547 + 84 * v.toInt + 45 + 2 * z191.toInt) = a.toInt := (hU.ne (by omega) (by omega)).trans pn236
                  have pn250 : mo_R g246 (547 + 84 * v.toInt + 10) = z229.toInt := (hU.ne (by omega) (by omega)).trans pn237
                  refine lv_aload_n hx hb dX12_order_195 rfl (lv_at hl 3 rfl) ?_
                  have hf_251 : f243 h0 = .inr (12, [.int 0, .int o28_x1, .ref (ρ h0 2), .ref (ρ h0 3), .ref (ρ h0 4), .ref (ρ h0 5), .ref (ρ h0 6), .int o28_x7, .ref (ρ h0 8), .int o28_x9, .int o28_x10, .int o28_x11, .int o28_x12, .long o28_x13, .int o28_x14, .int o28_x15, .int o28_x16, .int o28_x17, .int o28_x18, .int o28_x19, .int o28_x20, .ref (ρ h0 21), .int o28_x22, .ref (ρ h0 23), .ref (ρ h0 24), .int o28_x25, .ref (ρ h0 26), .ref (ρ h0 27), .int o28_x28, .int o28_x29, .ref (ρ h0 30), .ref (ρ h0 31), .int o28_x32, .long o28_x33, .long o28_x34, .long o28_x35, .int o28_x36, .int o28_x37, .int o28_x38, .ref (ρ h0 39), .ref (ρ h0 40), .ref (ρ h0 41), .ref (ρ h0 42), .ref (ρ h0 43), .ref (ρ h0 44), .ref (ρ h0 45), .ref (ρ h0 46), .int o28_x47, .int o28_x48, .ref (ρ h0 49), .ref (ρ h0 50), .ref (ρ h0 51), .ref (ρ h0 52)]) := (k244 _ (tp_ne ht_h0 y1 (by decide))).trans hf_238
                  refine tpk_pos (tp_in hG ht_h0 (by decide)) hf_251 (fun q252 eq252 => ?_)
                  refine va_get (D := (dC, dI)) (ci := 12) (v := .ref (ρ h0 2)) (C := RX12) (T := TX12) (N := 53) hx hb hts hfX12 hown hK hP q252 eq252 rfl 2 (by decide) (hts (.fieldLink RX12 7 "ColdShipsModel" "row" "[I") wa_148) (fun _ h9 => h9) rfl dX12_order_196 ?_
                  refine lv_iload hx hb dX12_order_199 (lv_at hl 1 rfl) ?_
                  refine lv_bipush (v := 10) hx hb dX12_order_201 (by decide) ?_
                  refine lv_iadd hx hb dX12_order_203 ?_
                  refine lv_topi (fun z253 ez253 => ?_)
                  have iz253 : z253.toInt = r187.toInt + 10 := zi_add ez253 rfl rfl (by omega) (by omega)
                  refine tpk_pos (tp_in hG y1 (by decide)) g245 (fun q254 eq254 => ?_)
                  refine va_iald hx hb hK hP q254 0 eq254 rfl (vp_in_iff.mpr ⟨by omega, by omega⟩) dX12_order_204 ?_
                  refine lv_topi (fun z255 ez255 => ?_)
                  have jz255 : z255.toInt = mo_R g246 (547 + 84 * v.toInt + 10) := mo_rd ez255 (by omega)
                  have kz255 := hI.SO (s := v.toInt) (by omega) (by omega)
                  have vz255 : z255.toInt = z229.toInt := jz255.trans pn250
                  refine lv_iconst (v := 1) hx hb dX12_order_205 (by decide) ?_
                  refine lv_icmp_ne (tgt := 215) hx hb dX12_order_206 (by decide) (fun c256 => ?_) (fun c256 => ?_)
                  · have ic256 : z255.toInt ≠ 1 := zi_ne rfl rfl c256
                    replace ic256 : 2 ≤ z255.toInt := by omega
                    refine lv_aload_n hx hb dX12_order_215 rfl (lv_at hl 3 rfl) ?_
                    refine lv_aload_n hx hb dX12_order_216 rfl (lv_at hl 3 rfl) ?_
                    refine va_get (D := (dC, dI)) (ci := 12) (v := .ref (ρ h0 2)) (C := RX12) (T := TX12) (N := 53) hx hb hts hfX12 hown hK hP q252 eq252 rfl 2 (by decide) (hts (.fieldLink RX12 7 "ColdShipsModel" "row" "[I") wa_148) (fun _ h9 => h9) rfl dX12_order_217 ?_
                    refine lv_iload hx hb dX12_order_220 (lv_at hl 1 rfl) ?_
                    refine lv_bipush (v := 10) hx hb dX12_order_222 (by decide) ?_
                    refine lv_iadd hx hb dX12_order_224 ?_
                    refine lv_topi (fun z257 ez257 => ?_)
                    have iz257 : z257.toInt = r187.toInt + 10 := zi_add ez257 rfl rfl (by omega) (by omega)
                    refine va_iald hx hb hK hP q254 0 eq254 rfl (vp_in_iff.mpr ⟨by omega, by omega⟩) dX12_order_225 ?_
                    refine lv_topi (fun z258 ez258 => ?_)
                    have jz258 : z258.toInt = mo_R g246 (547 + 84 * v.toInt + 10) := mo_rd ez258 (by omega)
                    have kz258 := hI.SO (s := v.toInt) (by omega) (by omega)
                    have vz258 : z258.toInt = z229.toInt := jz258.trans pn250
                    have hFc := tp_fr hD hS hA
                    refine va_calli (va_runV (As := [.int z258]) (rest := []) ⟨hx, hb, hml, hown, hts⟩ (t_X12_told l dC dI _ κ Θ τ ν ρ L f243 hG hT h0 z258 ht_h0) (cwV 1 hts gX12_order_X12_told rfl rfl rfl ⟨rfl, pd_X12_told⟩ ⟨Nat.le_of_ble_eq_true rfl, Nat.le_of_ble_eq_true rfl⟩) ⟨pz_blind, va_recv hK hP (ci := 12) (q0 := q252) rfl eq252, pz_pre hP hK hD hN⟩ rfl rfl hl.1 rfl (lv_room (Nat.le_of_ble_eq_true rfl)) dX12_order_226 ⟨Nat.le_of_ble_eq_true rfl, Nat.le_of_ble_eq_true rfl⟩) hS (fun q _ h => hFc q h) hFc (fun r259 f261 t H1 locs ht hvm hw260 hB hz1 hk1 hS => ?_)
                    refine tn_4 hw260 (fun hT hF262 hw260r hw260p => ?_); clear hw260
                    have hR := hR.then hF262 (by decide)
                    have hP := hB.1; rw [ht] at hP; have hD := tp_ad f261 hD; clear hB hFc hz1 hk1; subst ht; generalize t.heap = H at hP hS ⊢
                    have hw260pq : r259.toInt = z258.toInt := by rw [hw260p]
                    have hf_263 : f261 (ρ h0 2) = .inl (κ 0, 12967, .inl g246) := (hF262 _ (by rw [tp_iu y1]; decide)).trans g245
                    exact W.iret (v := r259) hx hb hr (fun t ht hW => ⟨⟨r259, f261, rfl, ⟨hT, hR, trivial, ⟨(by rw [hf_263, mo_i1]; exact hI), (by rw [hf_263, mo_i1, hf_o26, mo_i1]; exact hKN)⟩⟩, by rw [ht]; exact hP, va_K.moved hW.alike hK, hD⟩, hS.F ht⟩) hS.2.2 dX12_order_229
                  · have ic256 : z255.toInt = 1 := zi_nef rfl rfl c256
                    refine lv_aload_n hx hb dX12_order_209 rfl (lv_at hl 3 rfl) ?_
                    refine lv_iload hx hb dX12_order_210 (lv_at hl 1 rfl) ?_
                    have hFc := tp_fr hD hS hA
                    refine va_callv (va_runV (As := [.int r187]) (rest := []) ⟨hx, hb, hml, hown, hts⟩ (t_X12_beginOrder l dC dI _ κ Θ τ ν ρ L f243 hG hT h0 r187 (-1) 0 v.toInt ht_h0 (by omega) (by omega) (by omega) (by rw [g245, mo_i1]; exact hI) (by first | (simp only [g245, hf_o26, mo_i1]; omega) | (simp only [g245, hf_o26, mo_i1]; trivial) | (simp only [g245, hf_o26, mo_i1]; done) | omega)) (cwV 1 hts gX12_order_X12_beginOrder rfl rfl rfl ⟨rfl, pd_X12_beginOrder⟩ ⟨Nat.le_of_ble_eq_true rfl, Nat.le_of_ble_eq_true rfl⟩) ⟨pz_blind, va_recv hK hP (ci := 12) (q0 := q252) rfl eq252, pz_pre hP hK hD hN⟩ rfl rfl hl.1 rfl (lv_room (Nat.le_of_ble_eq_true rfl)) dX12_order_212 ⟨Nat.le_of_ble_eq_true rfl, Nat.le_of_ble_eq_true rfl⟩) hS (fun q _ h => hFc q h) hFc (fun f266 t H1 locs ht hvm hw265 hB hz1 hk1 hS => ?_)
                    refine tn_3 hw265 (fun hT hF267 hw265p => ?_); clear hw265
                    have hR := hR.then hF267 (by decide)
                    have hP := hB.1; rw [ht] at hP; have hD := tp_ad f266 hD; clear hB hFc hz1 hk1; subst ht; generalize t.heap = H at hP hS ⊢
                    obtain ⟨hJ, hw265pe⟩ := hw265p
                    refine tpk_32 hT y1 (fun g269 hf_o268 => ?_)
                    have hI : mo_RI (-1) 0 (mo_R g269) := by have q9 := hJ; rw [hf_o268, mo_i1] at q9; exact q9
                    rw [g245, mo_i1] at hw265pe
                    rw [hf_o268, mo_i1] at hw265pe
                    obtain ⟨hw265pek, hw265peq⟩ := hw265pe
                    have hKN := hKN.th hw265pek (fun k q9 => False.elim q9)
                    have pn270 : mo_R g269 (1) = n1 := (hw265peq.1).trans pn247
                    have pn271 : mo_R g269 (547 + 84 * v.toInt + 10) = z229.toInt := (hw265peq.2.2).trans pn250
                    refine lv_aload_n hx hb dX12_order_215 rfl (lv_at hl 3 rfl) ?_
                    refine lv_aload_n hx hb dX12_order_216 rfl (lv_at hl 3 rfl) ?_
                    have hf_272 : f266 h0 = .inr (12, [.int 0, .int o28_x1, .ref (ρ h0 2), .ref (ρ h0 3), .ref (ρ h0 4), .ref (ρ h0 5), .ref (ρ h0 6), .int o28_x7, .ref (ρ h0 8), .int o28_x9, .int o28_x10, .int o28_x11, .int o28_x12, .long o28_x13, .int o28_x14, .int o28_x15, .int o28_x16, .int o28_x17, .int o28_x18, .int o28_x19, .int o28_x20, .ref (ρ h0 21), .int o28_x22, .ref (ρ h0 23), .ref (ρ h0 24), .int o28_x25, .ref (ρ h0 26), .ref (ρ h0 27), .int o28_x28, .int o28_x29, .ref (ρ h0 30), .ref (ρ h0 31), .int o28_x32, .long o28_x33, .long o28_x34, .long o28_x35, .int o28_x36, .int o28_x37, .int o28_x38, .ref (ρ h0 39), .ref (ρ h0 40), .ref (ρ h0 41), .ref (ρ h0 42), .ref (ρ h0 43), .ref (ρ h0 44), .ref (ρ h0 45), .ref (ρ h0 46), .int o28_x47, .int o28_x48, .ref (ρ h0 49), .ref (ρ h0 50), .ref (ρ h0 51), .ref (ρ h0 52)]) := (hF267 _ (by rw [ht_h0]; decide)).trans hf_251
                    refine tpk_pos (tp_in hG ht_h0 (by decide)) hf_272 (fun q273 eq273 => ?_)
                    refine va_get (D := (dC, dI)) (ci := 12) (v := .ref (ρ h0 2)) (C := RX12) (T := TX12) (N := 53) hx hb hts hfX12 hown hK hP q273 eq273 rfl 2 (by decide) (hts (.fieldLink RX12 7 "ColdShipsModel" "row" "[I") wa_148) (fun _ h9 => h9) rfl dX12_order_217 ?_
                    refine lv_iload hx hb dX12_order_220 (lv_at hl 1 rfl) ?_
                    refine lv_bipush (v := 10) hx hb dX12_order_222 (by decide) ?_
                    refine lv_iadd hx hb dX12_order_224 ?_
                    refine lv_topi (fun z274 ez274 => ?_)
                    have iz274 : z274.toInt = r187.toInt + 10 := zi_add ez274 rfl rfl (by omega) (by omega)
                    refine tpk_pos (tp_in hG y1 (by decide)) hf_o268 (fun q275 eq275 => ?_)
                    refine va_iald hx hb hK hP q275 0 eq275 rfl (vp_in_iff.mpr ⟨by omega, by omega⟩) dX12_order_225 ?_
                    refine lv_topi (fun z276 ez276 => ?_)
                    have jz276 : z276.toInt = mo_R g269 (547 + 84 * v.toInt + 10) := mo_rd ez276 (by omega)
                    have kz276 := hI.SO (s := v.toInt) (by omega) (by omega)
                    have vz276 : z276.toInt = z229.toInt := jz276.trans pn271
                    have hFc := tp_fr hD hS hA
                    refine va_calli (va_runV (As := [.int z276]) (rest := []) ⟨hx, hb, hml, hown, hts⟩ (t_X12_told l dC dI _ κ Θ τ ν ρ L f266 hG hT h0 z276 ht_h0) (cwV 1 hts gX12_order_X12_told rfl rfl rfl ⟨rfl, pd_X12_told⟩ ⟨Nat.le_of_ble_eq_true rfl, Nat.le_of_ble_eq_true rfl⟩) ⟨pz_blind, va_recv hK hP (ci := 12) (q0 := q273) rfl eq273, pz_pre hP hK hD hN⟩ rfl rfl hl.1 rfl (lv_room (Nat.le_of_ble_eq_true rfl)) dX12_order_226 ⟨Nat.le_of_ble_eq_true rfl, Nat.le_of_ble_eq_true rfl⟩) hS (fun q _ h => hFc q h) hFc (fun r277 f279 t H1 locs ht hvm hw278 hB hz1 hk1 hS => ?_)
                    refine tn_4 hw278 (fun hT hF280 hw278r hw278p => ?_); clear hw278
                    have hR := hR.then hF280 (by decide)
                    have hP := hB.1; rw [ht] at hP; have hD := tp_ad f279 hD; clear hB hFc hz1 hk1; subst ht; generalize t.heap = H at hP hS ⊢
                    have hw278pq : r277.toInt = z276.toInt := by rw [hw278p]
                    have hf_281 : f279 (ρ h0 2) = .inl (κ 0, 12967, .inl g269) := (hF280 _ (by rw [tp_iu y1]; decide)).trans hf_o268
                    exact W.iret (v := r277) hx hb hr (fun t ht hW => ⟨⟨r277, f279, rfl, ⟨hT, hR, trivial, ⟨(by rw [hf_281, mo_i1]; exact hI), (by rw [hf_281, mo_i1, hf_o26, mo_i1]; exact hKN)⟩⟩, by rw [ht]; exact hP, va_K.moved hW.alike hK, hD⟩, hS.F ht⟩) hS.2.2 dX12_order_229
                · have ic199 : z198.toInt = 400 := zi_nef rfl rfl c199
                  refine lv_aload_n hx hb dX12_order_126 rfl (lv_at hl 2 rfl) ?_
                  refine lv_bipush (v := (-5)) hx hb dX12_order_127 (by decide) ?_
                  have hFc := tp_fr hD hS hA
                  refine va_calli (va_runV (As := [.int (-5)]) (rest := []) ⟨hx, hb, hml, hown, hts⟩ (t_X12_told l dC dI _ κ Θ τ ν ρ L f30 hG hT h0 ((-5)) ht_h0) (cwV 1 hts gX12_order_X12_told rfl rfl rfl ⟨rfl, pd_X12_told⟩ ⟨Nat.le_of_ble_eq_true rfl, Nat.le_of_ble_eq_true rfl⟩) ⟨pz_blind, va_recv hK hP (ci := 12) (q0 := q176) rfl eq176, pz_pre hP hK hD hN⟩ rfl rfl hl.1 rfl (lv_room (Nat.le_of_ble_eq_true rfl)) dX12_order_129 ⟨Nat.le_of_ble_eq_true rfl, Nat.le_of_ble_eq_true rfl⟩) hS (fun q _ h => hFc q h) hFc (fun r282 f284 t H1 locs ht hvm hw283 hB hz1 hk1 hS => ?_)
                  refine tn_4 hw283 (fun hT hF285 hw283r hw283p => ?_); clear hw283
                  have hR := hR.then hF285 (by decide)
                  have hP := hB.1; rw [ht] at hP; have hD := tp_ad f284 hD; clear hB hFc hz1 hk1; subst ht; generalize t.heap = H at hP hS ⊢
                  have hw283pq : r282.toInt = (-5) := by rw [hw283p]; rfl
                  have hf_286 : f284 (ρ h0 2) = .inl (κ 0, 12967, .inl g27) := (hF285 _ (by rw [tp_iu y1]; decide)).trans hf_33
                  exact W.iret (v := r282) hx hb hr (fun t ht hW => ⟨⟨r282, f284, rfl, ⟨hT, hR, trivial, ⟨(by rw [hf_286, mo_i1]; exact hI), (by rw [hf_286, mo_i1, hf_o26, mo_i1]; exact hKN)⟩⟩, by rw [ht]; exact hP, va_K.moved hW.alike hK, hD⟩, hS.F ht⟩) hS.2.2 dX12_order_132
            · have ic186 : u.toInt = 0 := zi_nef rfl rfl c186
              exfalso; omega
      · have ic165 : u.toInt = 3 := zi_nef rfl rfl c165
        refine lv_iload_n hx hb dX12_order_26 rfl (lv_at hl 3 rfl) ?_
        refine pz_calli (va_runS (As := [.int a]) (rest := []) ⟨hx, hb, hml, hown, hts⟩ (t_X12_isHour l dC dI _ a (a.toInt) rfl) (va_cwS 1 hts gX12_order_X12_isHour rfl rfl rfl pd_X12_isHour ⟨Nat.le_of_ble_eq_true rfl, Nat.le_of_ble_eq_true rfl⟩) ⟨pz_blind, pz_pre pz_P0 (hK.sub (tys' := []) [] rfl) (pz_D0 (A := fun _ => True)) hN⟩ rfl rfl hl.1 rfl (lv_room (Nat.le_of_ble_eq_true rfl)) dX12_order_27 ⟨Nat.le_of_ble_eq_true rfl, Nat.le_of_ble_eq_true rfl⟩) (fun r287 hw288 => ?_)
        obtain ⟨hw288r, hw288p⟩ := hw288
        refine lv_if_eq (tgt := 52) hx hb dX12_order_30 (by decide) (fun c289 => ?_) (fun c289 => ?_)
        · have ic289 : r287.toInt = 0 := zi_eq rfl rfl c289
          clear hw288r ic289
          refine lv_iconst (v := 0) hx hb dX12_order_52 (by decide) ?_
          refine lv_istore (lv' := [(4, .int 0), (0, .ref h0), (1, .int v), (2, .int u), (3, .int a)]) hx hb dX12_order_53 hl (by decide) rfl (fun ls hl => ?_)
          refine lv_iload hx hb dX12_order_55 (lv_at hl 0 rfl) ?_
          refine lv_if_ne (tgt := 66) hx hb dX12_order_57 (by decide) (fun c9 => absurd c9 (by decide)) (fun _ => ?_)
          refine lv_aload_n hx hb dX12_order_60 rfl (lv_at hl 1 rfl) ?_
          refine lv_iconst (v := (-1)) hx hb dX12_order_61 (by decide) ?_
          refine tpk_pos (tp_in hG ht_h0 (by decide)) g32 (fun q290 eq290 => ?_)
          have hFc := tp_fr hD hS hA
          refine va_calli (va_runV (As := [.int (-1)]) (rest := []) ⟨hx, hb, hml, hown, hts⟩ (t_X12_told l dC dI _ κ Θ τ ν ρ L f30 hG hT h0 ((-1)) ht_h0) (cwV 1 hts gX12_order_X12_told rfl rfl rfl ⟨rfl, pd_X12_told⟩ ⟨Nat.le_of_ble_eq_true rfl, Nat.le_of_ble_eq_true rfl⟩) ⟨pz_blind, va_recv hK hP (ci := 12) (q0 := q290) rfl eq290, pz_pre hP hK hD hN⟩ rfl rfl hl.1 rfl (lv_room (Nat.le_of_ble_eq_true rfl)) dX12_order_62 ⟨Nat.le_of_ble_eq_true rfl, Nat.le_of_ble_eq_true rfl⟩) hS (fun q _ h => hFc q h) hFc (fun r291 f293 t H1 locs ht hvm hw292 hB hz1 hk1 hS => ?_)
          refine tn_4 hw292 (fun hT hF294 hw292r hw292p => ?_); clear hw292
          have hR := hR.then hF294 (by decide)
          have hP := hB.1; rw [ht] at hP; have hD := tp_ad f293 hD; clear hB hFc hz1 hk1; subst ht; generalize t.heap = H at hP hS ⊢
          have hw292pq : r291.toInt = (-1) := by rw [hw292p]; rfl
          have hf_295 : f293 (ρ h0 2) = .inl (κ 0, 12967, .inl g27) := (hF294 _ (by rw [tp_iu y1]; decide)).trans hf_33
          exact W.iret (v := r291) hx hb hr (fun t ht hW => ⟨⟨r291, f293, rfl, ⟨hT, hR, trivial, ⟨(by rw [hf_295, mo_i1]; exact hI), (by rw [hf_295, mo_i1, hf_o26, mo_i1]; exact hKN)⟩⟩, by rw [ht]; exact hP, va_K.moved hW.alike hK, hD⟩, hS.F ht⟩) hS.2.2 dX12_order_65
        · have ic289 : r287.toInt ≠ 0 := zi_eqf rfl rfl c289
          replace ic289 : 1 ≤ r287.toInt := by omega
          have p296 : 0 ≤ (a.toInt) ∧ (a.toInt) ≤ 2399 := (tp_cond.yes hw288p) (by omega)
          clear hw288r ic289
          refine lv_goto (tgt := 48) hx hb dX12_order_33 (by decide) ?_
          refine lv_iconst (v := 1) hx hb dX12_order_48 (by decide) ?_
          refine lv_goto (tgt := 53) hx hb dX12_order_49 (by decide) ?_
          refine lv_istore (lv' := [(4, .int 1), (0, .ref h0), (1, .int v), (2, .int u), (3, .int a)]) hx hb dX12_order_53 hl (by decide) rfl (fun ls hl => ?_)
          refine lv_iload hx hb dX12_order_55 (lv_at hl 0 rfl) ?_
          refine lv_if_ne (tgt := 66) hx hb dX12_order_57 (by decide) (fun _ => ?_) (fun c9 => absurd c9 (by decide))
          refine lv_aload_n hx hb dX12_order_66 rfl (lv_at hl 1 rfl) ?_
          refine lv_iload_n hx hb dX12_order_67 rfl (lv_at hl 2 rfl) ?_
          refine tpk_pos (tp_in hG ht_h0 (by decide)) g32 (fun q297 eq297 => ?_)
          refine pz_calli (va_runV (As := [.int v]) (rest := []) ⟨hx, hb, hml, hown, hts⟩ (t_X12_isShip l dC dI _ κ Θ τ ν ρ L f30 hG hT h0 v (-1) 0 ht_h0 (by omega) (by rw [hf_33, mo_i1]; exact hI)) (cwV 1 hts gX12_order_X12_isShip rfl rfl rfl ⟨rfl, pd_X12_isShip⟩ ⟨Nat.le_of_ble_eq_true rfl, Nat.le_of_ble_eq_true rfl⟩) ⟨pz_blind, va_recv hK hP (ci := 12) (q0 := q297) rfl eq297, pz_pre hP hK hD hN⟩ rfl rfl hl.1 rfl (lv_room (Nat.le_of_ble_eq_true rfl)) dX12_order_68 ⟨Nat.le_of_ble_eq_true rfl, Nat.le_of_ble_eq_true rfl⟩) (fun r298 hw299 => ?_)
          obtain ⟨hw299r, hw299p⟩ := hw299
          have := hI.k1
          rw [hf_33, mo_i1] at hw299p
          refine lv_if_eq (tgt := 86) hx hb dX12_order_71 (by decide) (fun c300 => ?_) (fun c300 => ?_)
          · have ic300 : r298.toInt = 0 := zi_eq rfl rfl c300
            clear hw299r ic300
            refine lv_aload_n hx hb dX12_order_86 rfl (lv_at hl 1 rfl) ?_
            refine lv_bipush (v := (-2)) hx hb dX12_order_87 (by decide) ?_
            have hFc := tp_fr hD hS hA
            refine va_calli (va_runV (As := [.int (-2)]) (rest := []) ⟨hx, hb, hml, hown, hts⟩ (t_X12_told l dC dI _ κ Θ τ ν ρ L f30 hG hT h0 ((-2)) ht_h0) (cwV 1 hts gX12_order_X12_told rfl rfl rfl ⟨rfl, pd_X12_told⟩ ⟨Nat.le_of_ble_eq_true rfl, Nat.le_of_ble_eq_true rfl⟩) ⟨pz_blind, va_recv hK hP (ci := 12) (q0 := q297) rfl eq297, pz_pre hP hK hD hN⟩ rfl rfl hl.1 rfl (lv_room (Nat.le_of_ble_eq_true rfl)) dX12_order_89 ⟨Nat.le_of_ble_eq_true rfl, Nat.le_of_ble_eq_true rfl⟩) hS (fun q _ h => hFc q h) hFc (fun r301 f303 t H1 locs ht hvm hw302 hB hz1 hk1 hS => ?_)
            refine tn_4 hw302 (fun hT hF304 hw302r hw302p => ?_); clear hw302
            have hR := hR.then hF304 (by decide)
            have hP := hB.1; rw [ht] at hP; have hD := tp_ad f303 hD; clear hB hFc hz1 hk1; subst ht; generalize t.heap = H at hP hS ⊢
            have hw302pq : r301.toInt = (-2) := by rw [hw302p]; rfl
            have hf_305 : f303 (ρ h0 2) = .inl (κ 0, 12967, .inl g27) := (hF304 _ (by rw [tp_iu y1]; decide)).trans hf_33
            exact W.iret (v := r301) hx hb hr (fun t ht hW => ⟨⟨r301, f303, rfl, ⟨hT, hR, trivial, ⟨(by rw [hf_305, mo_i1]; exact hI), (by rw [hf_305, mo_i1, hf_o26, mo_i1]; exact hKN)⟩⟩, by rw [ht]; exact hP, va_K.moved hW.alike hK, hD⟩, hS.F ht⟩) hS.2.2 dX12_order_92
          · have ic300 : r298.toInt ≠ 0 := zi_eqf rfl rfl c300
            replace ic300 : 1 ≤ r298.toInt := by omega
            have p306 : 0 ≤ v.toInt ∧ v.toInt < mo_R g27 1 := (tp_cond.yes hw299p) (by omega)
            clear hw299r ic300
            refine lv_iload_n hx hb dX12_order_74 rfl (lv_at hl 3 rfl) ?_
            refine lv_if_ne (tgt := 93) hx hb dX12_order_75 (by decide) (fun c307 => ?_) (fun c307 => ?_)
            · have ic307 : u.toInt ≠ 0 := zi_ne rfl rfl c307
              refine lv_iload_n hx hb dX12_order_93 rfl (lv_at hl 2 rfl) ?_
              refine pz_calli (va_runS (As := [.int v]) (rest := []) ⟨hx, hb, hml, hown, hts⟩ (t_X12_shipAt l dC dI _ v (v.toInt) (by omega) rfl) (va_cwS 1 hts gX12_order_X12_shipAt rfl rfl rfl pd_X12_shipAt ⟨Nat.le_of_ble_eq_true rfl, Nat.le_of_ble_eq_true rfl⟩) ⟨pz_blind, pz_pre pz_P0 (hK.sub (tys' := []) [] rfl) (pz_D0 (A := fun _ => True)) hN⟩ rfl rfl hl.1 rfl (lv_room (Nat.le_of_ble_eq_true rfl)) dX12_order_94 ⟨Nat.le_of_ble_eq_true rfl, Nat.le_of_ble_eq_true rfl⟩) (fun r308 hw309 => ?_)
              obtain ⟨hw309r, hw309p⟩ := hw309
              refine lv_istore (lv' := [(5, .int r308), (4, .int 1), (0, .ref h0), (1, .int v), (2, .int u), (3, .int a)]) hx hb dX12_order_97 hl (by decide) rfl (fun ls hl => ?_)
              refine lv_aload_n hx hb dX12_order_99 rfl (lv_at hl 2 rfl) ?_
              refine va_get (D := (dC, dI)) (ci := 12) (v := .ref (ρ h0 2)) (C := RX12) (T := TX12) (N := 53) hx hb hts hfX12 hown hK hP q297 eq297 rfl 2 (by decide) (hts (.fieldLink RX12 7 "ColdShipsModel" "row" "[I") wa_148) (fun _ h9 => h9) rfl dX12_order_100 ?_
              refine lv_iload hx hb dX12_order_103 (lv_at hl 0 rfl) ?_
              refine lv_bipush (v := 10) hx hb dX12_order_105 (by decide) ?_
              refine lv_iadd hx hb dX12_order_107 ?_
              refine lv_topi (fun z310 ez310 => ?_)
              have iz310 : z310.toInt = r308.toInt + 10 := zi_add ez310 rfl rfl (by omega) (by omega)
              refine tpk_pos (tp_in hG y1 (by decide)) hf_33 (fun q311 eq311 => ?_)
              refine va_iald hx hb hK hP q311 0 eq311 rfl (vp_in_iff.mpr ⟨by omega, by omega⟩) dX12_order_108 ?_
              refine lv_topi (fun z312 ez312 => ?_)
              have jz312 : z312.toInt = mo_R g27 (547 + 84 * v.toInt + 10) := mo_rd ez312 (by omega)
              have kz312 := hI.SO (s := v.toInt) (by omega) (by omega)
              refine lv_bipush (v := 20) hx hb dX12_order_109 (by decide) ?_
              refine lv_icmp_eq (tgt := 126) hx hb dX12_order_111 (by decide) (fun c313 => ?_) (fun c313 => ?_)
              · have ic313 : z312.toInt = 20 := zi_eq rfl rfl c313
                refine lv_aload_n hx hb dX12_order_126 rfl (lv_at hl 2 rfl) ?_
                refine lv_bipush (v := (-5)) hx hb dX12_order_127 (by decide) ?_
                have hFc := tp_fr hD hS hA
                refine va_calli (va_runV (As := [.int (-5)]) (rest := []) ⟨hx, hb, hml, hown, hts⟩ (t_X12_told l dC dI _ κ Θ τ ν ρ L f30 hG hT h0 ((-5)) ht_h0) (cwV 1 hts gX12_order_X12_told rfl rfl rfl ⟨rfl, pd_X12_told⟩ ⟨Nat.le_of_ble_eq_true rfl, Nat.le_of_ble_eq_true rfl⟩) ⟨pz_blind, va_recv hK hP (ci := 12) (q0 := q297) rfl eq297, pz_pre hP hK hD hN⟩ rfl rfl hl.1 rfl (lv_room (Nat.le_of_ble_eq_true rfl)) dX12_order_129 ⟨Nat.le_of_ble_eq_true rfl, Nat.le_of_ble_eq_true rfl⟩) hS (fun q _ h => hFc q h) hFc (fun r314 f316 t H1 locs ht hvm hw315 hB hz1 hk1 hS => ?_)
                refine tn_4 hw315 (fun hT hF317 hw315r hw315p => ?_); clear hw315
                have hR := hR.then hF317 (by decide)
                have hP := hB.1; rw [ht] at hP; have hD := tp_ad f316 hD; clear hB hFc hz1 hk1; subst ht; generalize t.heap = H at hP hS ⊢
                have hw315pq : r314.toInt = (-5) := by rw [hw315p]; rfl
                have hf_318 : f316 (ρ h0 2) = .inl (κ 0, 12967, .inl g27) := (hF317 _ (by rw [tp_iu y1]; decide)).trans hf_33
                exact W.iret (v := r314) hx hb hr (fun t ht hW => ⟨⟨r314, f316, rfl, ⟨hT, hR, trivial, ⟨(by rw [hf_318, mo_i1]; exact hI), (by rw [hf_318, mo_i1, hf_o26, mo_i1]; exact hKN)⟩⟩, by rw [ht]; exact hP, va_K.moved hW.alike hK, hD⟩, hS.F ht⟩) hS.2.2 dX12_order_132
              · have ic313 : z312.toInt ≠ 20 := zi_eqf rfl rfl c313
                replace ic313 : z312.toInt ≤ 19 := by omega
                refine lv_aload_n hx hb dX12_order_114 rfl (lv_at hl 2 rfl) ?_
                refine va_get (D := (dC, dI)) (ci := 12) (v := .ref (ρ h0 2)) (C := RX12) (T := TX12) (N := 53) hx hb hts hfX12 hown hK hP q297 eq297 rfl 2 (by decide) (hts (.fieldLink RX12 7 "ColdShipsModel" "row" "[I") wa_148) (fun _ h9 => h9) rfl dX12_order_115 ?_
                refine lv_iconst (v := 4) hx hb dX12_order_118 (by decide) ?_
                refine va_iald hx hb hK hP q311 0 eq311 rfl (vp_in_iff.mpr ⟨by decide, by decide⟩) dX12_order_119 ?_
                refine lv_topi (fun z319 ez319 => ?_)
                refine lv_sipush (v := 400) hx hb dX12_order_120 (by decide) ?_
                refine lv_icmp_ne (tgt := 133) hx hb dX12_order_123 (by decide) (fun c320 => ?_) (fun c320 => ?_)
                · have ic320 : z319.toInt ≠ 400 := zi_ne rfl rfl c320
                  refine lv_iload hx hb dX12_order_133 (lv_at hl 0 rfl) ?_
                  refine lv_bipush (v := 44) hx hb dX12_order_135 (by decide) ?_
                  refine lv_iadd hx hb dX12_order_137 ?_
                  refine lv_topi (fun z321 ez321 => ?_)
                  have iz321 : z321.toInt = r308.toInt + 44 := zi_add ez321 rfl rfl (by omega) (by omega)
                  refine lv_iconst (v := 2) hx hb dX12_order_138 (by decide) ?_
                  refine lv_aload_n hx hb dX12_order_139 rfl (lv_at hl 2 rfl) ?_
                  refine va_get (D := (dC, dI)) (ci := 12) (v := .ref (ρ h0 2)) (C := RX12) (T := TX12) (N := 53) hx hb hts hfX12 hown hK hP q297 eq297 rfl 2 (by decide) (hts (.fieldLink RX12 7 "ColdShipsModel" "row" "[I") wa_148) (fun _ h9 => h9) rfl dX12_order_140 ?_
                  refine lv_iload hx hb dX12_order_143 (lv_at hl 0 rfl) ?_
                  refine lv_bipush (v := 10) hx hb dX12_order_145 (by decide) ?_
                  refine lv_iadd hx hb dX12_order_147 ?_
                  refine lv_topi (fun z322 ez322 => ?_)
                  have iz322 : z322.toInt = r308.toInt + 10 := zi_add ez322 rfl rfl (by omega) (by omega)
                  refine va_iald hx hb hK hP q311 0 eq311 rfl (vp_in_iff.mpr ⟨by omega, by omega⟩) dX12_order_148 ?_
                  refine lv_topi (fun z323 ez323 => ?_)
                  have jz323 : z323.toInt = mo_R g27 (547 + 84 * v.toInt + 10) := mo_rd ez323 (by omega)
                  have kz323 := hI.SO (s := v.toInt) (by omega) (by omega)
                  have vz323 : z323.toInt = z312.toInt := jz323.trans (jz312).symm
                  refine lv_imul hx hb dX12_order_149 ?_
                  refine lv_topi (fun z324 ez324 => ?_)
                  have iz324 : z324.toInt = 2 * z323.toInt := zi_mul ez324 rfl rfl (by omega) (by omega)
                  refine lv_iadd hx hb dX12_order_150 ?_
                  refine lv_topi (fun z325 ez325 => ?_)
                  have iz325 : z325.toInt = z321.toInt + z324.toInt := zi_add ez325 rfl rfl (by omega) (by omega)
                  refine lv_istore (lv' := [(6, .int z325), (5, .int r308), (4, .int 1), (0, .ref h0), (1, .int v), (2, .int u), (3, .int a)]) hx hb dX12_order_151 hl (by decide) rfl (fun ls hl => ?_)
                  refine lv_aload_n hx hb dX12_order_153 rfl (lv_at hl 3 rfl) ?_
                  refine va_get (D := (dC, dI)) (ci := 12) (v := .ref (ρ h0 2)) (C := RX12) (T := TX12) (N := 53) hx hb hts hfX12 hown hK hP q297 eq297 rfl 2 (by decide) (hts (.fieldLink RX12 7 "ColdShipsModel" "row" "[I") wa_148) (fun _ h9 => h9) rfl dX12_order_154 ?_
                  refine lv_iload hx hb dX12_order_157 (lv_at hl 0 rfl) ?_
                  refine lv_iload_n hx hb dX12_order_159 rfl (lv_at hl 5 rfl) ?_
                  refine va_iast hx hb hK hP hD hS q311 0 eq311 rfl (vp_in_iff.mpr ⟨by omega, by omega⟩) dX12_order_160 (tp_k (.inl (κ 0, 12967, .inl (upd g27 z325.toNatClampNeg u))) hD (tp_in hG y1 (by decide)) eq311 (fun f326 H locs hP hD hS g328 k327 => ?_))
                  have hT := hT.up y1 g328 k327 tp_o32
                  have hR := hR.up y1 (by decide) k327
                  have hU : mo_U (mo_R g27) (mo_R (upd g27 z325.toNatClampNeg u)) (547 + 84 * v.toInt + 44 + 2 * z312.toInt) (u.toInt) := mo_up (by omega) (rfl : u.toInt = _) (by omega)
                  generalize (upd g27 z325.toNatClampNeg u) = g329 at g328 hU
                  have hI := mo_w_ord hI hU v.toInt (0 + 2 * z312.toInt) (by omega) (by omega) (by omega)
                  have hKN := hKN.up hU (Or.inl (by omega))
                  have pn330 : mo_R g329 (1) = n1 := (hU.ne (by omega) (by omega)).trans en1.symm
                  have pn331 : mo_R g329 (547 + 84 * v.toInt + 10) = z312.toInt := (hU.ne (by omega) (by omega)).trans (jz312).symm
                  have pn332 : mo_R g329 (547 + 84 * v.toInt + 44 + 2 * z312.toInt) = u.toInt := hU.eq (by omega)
                  refine lv_aload_n hx hb dX12_order_161 rfl (lv_at hl 3 rfl) ?_
                  have hf_333 : f326 h0 = .inr (12, [.int 0, .int o28_x1, .ref (ρ h0 2), .ref (ρ h0 3), .ref (ρ h0 4), .ref (ρ h0 5), .ref (ρ h0 6), .int o28_x7, .ref (ρ h0 8), .int o28_x9, .int o28_x10, .int o28_x11, .int o28_x12, .long o28_x13, .int o28_x14, .int o28_x15, .int o28_x16, .int o28_x17, .int o28_x18, .int o28_x19, .int o28_x20, .ref (ρ h0 21), .int o28_x22, .ref (ρ h0 23), .ref (ρ h0 24), .int o28_x25, .ref (ρ h0 26), .ref (ρ h0 27), .int o28_x28, .int o28_x29, .ref (ρ h0 30), .ref (ρ h0 31), .int o28_x32, .long o28_x33, .long o28_x34, .long o28_x35, .int o28_x36, .int o28_x37, .int o28_x38, .ref (ρ h0 39), .ref (ρ h0 40), .ref (ρ h0 41), .ref (ρ h0 42), .ref (ρ h0 43), .ref (ρ h0 44), .ref (ρ h0 45), .ref (ρ h0 46), .int o28_x47, .int o28_x48, .ref (ρ h0 49), .ref (ρ h0 50), .ref (ρ h0 51), .ref (ρ h0 52)]) := (k327 _ (tp_ne ht_h0 y1 (by decide))).trans g32
                  refine tpk_pos (tp_in hG ht_h0 (by decide)) hf_333 (fun q334 eq334 => ?_)
                  refine va_get (D := (dC, dI)) (ci := 12) (v := .ref (ρ h0 2)) (C := RX12) (T := TX12) (N := 53) hx hb hts hfX12 hown hK hP q334 eq334 rfl 2 (by decide) (hts (.fieldLink RX12 7 "ColdShipsModel" "row" "[I") wa_148) (fun _ h9 => h9) rfl dX12_order_162 ?_
                  refine lv_iload hx hb dX12_order_165 (lv_at hl 0 rfl) ?_
                  refine lv_iconst (v := 1) hx hb dX12_order_167 (by decide) ?_
                  refine lv_iadd hx hb dX12_order_168 ?_
                  refine lv_topi (fun z335 ez335 => ?_)
                  have iz335 : z335.toInt = z325.toInt + 1 := zi_add ez335 rfl rfl (by omega) (by omega)
                  refine lv_iload_n hx hb dX12_order_169 rfl (lv_at hl 6 rfl) ?_
                  refine tpk_pos (tp_in hG y1 (by decide)) g328 (fun q336 eq336 => ?_)
                  refine va_iast hx hb hK hP hD hS q336 0 eq336 rfl (vp_in_iff.mpr ⟨by omega, by omega⟩) dX12_order_170 (tp_k (.inl (κ 0, 12967, .inl (upd g329 z335.toNatClampNeg a))) hD (tp_in hG y1 (by decide)) eq336 (fun f337 H locs hP hD hS g339 k338 => ?_))
                  have hT := hT.up y1 g339 k338 tp_o32
                  have hR := hR.up y1 (by decide) k338
                  have hU : mo_U (mo_R g329) (mo_R (upd g329 z335.toNatClampNeg a)) (547 + 84 * v.toInt + 45 + 2 * z312.toInt) (a.toInt) := mo_up (by omega) (rfl : a.toInt = _) (by omega)
                  generalize (upd g329 z335.toNatClampNeg a) = g340 at g339 hU
                  have hI := mo_w_ord hI hU v.toInt (1 + 2 * z312.toInt) (by omega) (by omega) (by omega)
                  have hKN := hKN.up hU (Or.inl (by omega))
                  have pn341 : mo_R g340 (1) = n1 := (hU.ne (by omega) (by omega)).trans pn330
                  have pn342 : mo_R g340 (547 + 84 * v.toInt + 10) = z312.toInt := (hU.ne (by omega) (by omega)).trans pn331
                  have pn343 : mo_R g340 (547 + 84 * v.toInt + 44 + 2 * z312.toInt) = u.toInt := (hU.ne (by omega) (by omega)).trans pn332
                  have pn344 : mo_R g340 (547 + 84 * v.toInt + 45 + 2 * z312.toInt) = a.toInt := hU.eq (by omega)
                  refine lv_aload_n hx hb dX12_order_171 rfl (lv_at hl 3 rfl) ?_
                  have hf_345 : f337 h0 = .inr (12, [.int 0, .int o28_x1, .ref (ρ h0 2), .ref (ρ h0 3), .ref (ρ h0 4), .ref (ρ h0 5), .ref (ρ h0 6), .int o28_x7, .ref (ρ h0 8), .int o28_x9, .int o28_x10, .int o28_x11, .int o28_x12, .long o28_x13, .int o28_x14, .int o28_x15, .int o28_x16, .int o28_x17, .int o28_x18, .int o28_x19, .int o28_x20, .ref (ρ h0 21), .int o28_x22, .ref (ρ h0 23), .ref (ρ h0 24), .int o28_x25, .ref (ρ h0 26), .ref (ρ h0 27), .int o28_x28, .int o28_x29, .ref (ρ h0 30), .ref (ρ h0 31), .int o28_x32, .long o28_x33, .long o28_x34, .long o28_x35, .int o28_x36, .int o28_x37, .int o28_x38, .ref (ρ h0 39), .ref (ρ h0 40), .ref (ρ h0 41), .ref (ρ h0 42), .ref (ρ h0 43), .ref (ρ h0 44), .ref (ρ h0 45), .ref (ρ h0 46), .int o28_x47, .int o28_x48, .ref (ρ h0 49), .ref (ρ h0 50), .ref (ρ h0 51), .ref (ρ h0 52)]) := (k338 _ (tp_ne ht_h0 y1 (by decide))).trans hf_333
                  refine tpk_pos (tp_in hG ht_h0 (by decide)) hf_345 (fun q346 eq346 => ?_)
                  refine va_get (D := (dC, dI)) (ci := 12) (v := .ref (ρ h0 2)) (C := RX12) (T := TX12) (N := 53) hx hb hts hfX12 hown hK hP q346 eq346 rfl 2 (by decide) (hts (.fieldLink RX12 7 "ColdShipsModel" "row" "[I") wa_148) (fun _ h9 => h9) rfl dX12_order_172 ?_
                  refine lv_iload hx hb dX12_order_175 (lv_at hl 1 rfl) ?_
                  refine lv_bipush (v := 10) hx hb dX12_order_177 (by decide) ?_
                  refine lv_iadd hx hb dX12_order_179 ?_
                  refine lv_topi (fun z347 ez347 => ?_)
                  have iz347 : z347.toInt = r308.toInt + 10 := zi_add ez347 rfl rfl (by omega) (by omega)
                  refine lv_dup2_11 hx hb dX12_order_180 rfl rfl ?_
                  refine tpk_pos (tp_in hG y1 (by decide)) g339 (fun q348 eq348 => ?_)
                  refine va_iald hx hb hK hP q348 0 eq348 rfl (vp_in_iff.mpr ⟨by omega, by omega⟩) dX12_order_181 ?_
                  refine lv_topi (fun z349 ez349 => ?_)
                  have jz349 : z349.toInt = mo_R g340 (547 + 84 * v.toInt + 10) := mo_rd ez349 (by omega)
                  have kz349 := hI.SO (s := v.toInt) (by omega) (by omega)
                  have vz349 : z349.toInt = z312.toInt := jz349.trans pn342
                  refine lv_iconst (v := 1) hx hb dX12_order_182 (by decide) ?_
                  refine lv_iadd hx hb dX12_order_183 ?_
                  refine lv_topi (fun z350 ez350 => ?_)
                  have iz350 : z350.toInt = z349.toInt + 1 := zi_add ez350 rfl rfl (by omega) (by omega)
                  refine va_iast hx hb hK hP hD hS q348 0 eq348 rfl (vp_in_iff.mpr ⟨by omega, by omega⟩) dX12_order_184 (tp_k (.inl (κ 0, 12967, .inl (upd g340 z347.toNatClampNeg z350))) hD (tp_in hG y1 (by decide)) eq348 (fun f351 H locs hP hD hS g353 k352 => ?_))
                  have hT := hT.up y1 g353 k352 tp_o32
                  have hR := hR.up y1 (by decide) k352
                  have hU : mo_U (mo_R g340) (mo_R (upd g340 z347.toNatClampNeg z350)) (547 + 84 * v.toInt + 10) (z350.toInt) := mo_up (by omega) (rfl : z350.toInt = _) (by omega)
                  generalize (upd g340 z347.toNatClampNeg z350) = g354 at g353 hU
                  have hI := mo_w_ORDS hI hU v.toInt (z312.toInt) (by omega) (by omega) pn342 (by omega) (by omega)
                  have hKN := hKN.up hU (Or.inl (by omega))
                  have pn355 : mo_R g354 (1) = n1 := (hU.ne (by omega) (by omega)).trans pn341
                  have pn356 : mo_R g354 (547 + 84 * v.toInt + 44 + 2 * z312.toInt) = u.toInt := (hU.ne (by omega) (by omega)).trans pn343
                  have pn357 : mo_R g354 (547 + 84 * v.toInt + 45 + 2 * z312.toInt) = a.toInt := (hU.ne (by omega) (by omega)).trans pn344
                  have pn358 : mo_R g354 (547 + 84 * v.toInt + 10) = z350.toInt := hU.eq (by omega)
                  refine lv_aload_n hx hb dX12_order_185 rfl (lv_at hl 3 rfl) ?_
                  have hf_359 : f351 h0 = .inr (12, [.int 0, .int o28_x1, .ref (ρ h0 2), .ref (ρ h0 3), .ref (ρ h0 4), .ref (ρ h0 5), .ref (ρ h0 6), .int o28_x7, .ref (ρ h0 8), .int o28_x9, .int o28_x10, .int o28_x11, .int o28_x12, .long o28_x13, .int o28_x14, .int o28_x15, .int o28_x16, .int o28_x17, .int o28_x18, .int o28_x19, .int o28_x20, .ref (ρ h0 21), .int o28_x22, .ref (ρ h0 23), .ref (ρ h0 24), .int o28_x25, .ref (ρ h0 26), .ref (ρ h0 27), .int o28_x28, .int o28_x29, .ref (ρ h0 30), .ref (ρ h0 31), .int o28_x32, .long o28_x33, .long o28_x34, .long o28_x35, .int o28_x36, .int o28_x37, .int o28_x38, .ref (ρ h0 39), .ref (ρ h0 40), .ref (ρ h0 41), .ref (ρ h0 42), .ref (ρ h0 43), .ref (ρ h0 44), .ref (ρ h0 45), .ref (ρ h0 46), .int o28_x47, .int o28_x48, .ref (ρ h0 49), .ref (ρ h0 50), .ref (ρ h0 51), .ref (ρ h0 52)]) := (k352 _ (tp_ne ht_h0 y1 (by decide))).trans hf_345
                  refine tpk_pos (tp_in hG ht_h0 (by decide)) hf_359 (fun q360 eq360 => ?_)
                  refine va_get (D := (dC, dI)) (ci := 12) (v := .ref (ρ h0 2)) (C := RX12) (T := TX12) (N := 53) hx hb hts hfX12 hown hK hP q360 eq360 rfl 2 (by decide) (hts (.fieldLink RX12 7 "ColdShipsModel" "row" "[I") wa_148) (fun _ h9 => h9) rfl dX12_order_186 ?_
                  refine lv_iconst (v := 4) hx hb dX12_order_189 (by decide) ?_
                  refine lv_dup2_11 hx hb dX12_order_190 rfl rfl ?_
                  refine tpk_pos (tp_in hG y1 (by decide)) g353 (fun q361 eq361 => ?_)
                  refine va_iald hx hb hK hP q361 0 eq361 rfl (vp_in_iff.mpr ⟨by decide, by decide⟩) dX12_order_191 ?_
                  refine lv_topi (fun z362 ez362 => ?_)
                  refine lv_iconst (v := 1) hx hb dX12_order_192 (by decide) ?_
                  refine lv_iadd hx hb dX12_order_193 ?_
                  refine lv_topi (fun z363 ez363 => ?_)
                  refine va_iast hx hb hK hP hD hS q361 0 eq361 rfl (vp_in_iff.mpr ⟨by decide, by decide⟩) dX12_order_194 (tp_k (.inl (κ 0, 12967, .inl (upd g354 (4 : Int32).toNatClampNeg z363))) hD (tp_in hG y1 (by decide)) eq361 (fun f364 H locs hP hD hS g366 k365 => ?_))
                  have hT := hT.up y1 g366 k365 tp_o32
                  have hR := hR.up y1 (by decide) k365
                  have hU : mo_U (mo_R g354) (mo_R (upd g354 (4 : Int32).toNatClampNeg z363)) (4) (z363.toInt) := mo_up (show (4 : Int32).toInt = (4) from by decide) (rfl : z363.toInt = _) (by omega)
                  generalize (upd g354 (4 : Int32).toNatClampNeg z363) = g367 at g366 hU
                  have hI := mo_w_flat hI hU (by omega)
                  have hKN := hKN.up hU (Or.inr (by show (4) = 4; omega))
                  have pn368 : mo_R g367 (1) = n1 := (hU.ne (by omega) (by omega)).trans pn355
                  have pn369 : mo_R g367 (547 + 84 * v.toInt + 44 + 2 * z312.toInt) = u.toInt := (hU.ne (by omega) (by omega)).trans pn356
                  have pn370 : mo_R g367 (547 + 84 * v.toInt + 45 + 2 * z312.toInt) = a.toInt := (hU.ne (by omega) (by omega)).trans pn357
                  have pn371 : mo_R g367 (547 + 84 * v.toInt + 10) = z350.toInt := (hU.ne (by omega) (by omega)).trans pn358
                  refine lv_aload_n hx hb dX12_order_195 rfl (lv_at hl 3 rfl) ?_
                  have hf_372 : f364 h0 = .inr (12, [.int 0, .int o28_x1, .ref (ρ h0 2), .ref (ρ h0 3), .ref (ρ h0 4), .ref (ρ h0 5), .ref (ρ h0 6), .int o28_x7, .ref (ρ h0 8), .int o28_x9, .int o28_x10, .int o28_x11, .int o28_x12, .long o28_x13, .int o28_x14, .int o28_x15, .int o28_x16, .int o28_x17, .int o28_x18, .int o28_x19, .int o28_x20, .ref (ρ h0 21), .int o28_x22, .ref (ρ h0 23), .ref (ρ h0 24), .int o28_x25, .ref (ρ h0 26), .ref (ρ h0 27), .int o28_x28, .int o28_x29, .ref (ρ h0 30), .ref (ρ h0 31), .int o28_x32, .long o28_x33, .long o28_x34, .long o28_x35, .int o28_x36, .int o28_x37, .int o28_x38, .ref (ρ h0 39), .ref (ρ h0 40), .ref (ρ h0 41), .ref (ρ h0 42), .ref (ρ h0 43), .ref (ρ h0 44), .ref (ρ h0 45), .ref (ρ h0 46), .int o28_x47, .int o28_x48, .ref (ρ h0 49), .ref (ρ h0 50), .ref (ρ h0 51), .ref (ρ h0 52)]) := (k365 _ (tp_ne ht_h0 y1 (by decide))).trans hf_359
                  refine tpk_pos (tp_in hG ht_h0 (by decide)) hf_372 (fun q373 eq373 => ?_)
                  refine va_get (D := (dC, dI)) (ci := 12) (v := .ref (ρ h0 2)) (C := RX12) (T := TX12) (N := 53) hx hb hts hfX12 hown hK hP q373 eq373 rfl 2 (by decide) (hts (.fieldLink RX12 7 "ColdShipsModel" "row" "[I") wa_148) (fun _ h9 => h9) rfl dX12_order_196 ?_
                  refine lv_iload hx hb dX12_order_199 (lv_at hl 1 rfl) ?_
                  refine lv_bipush (v := 10) hx hb dX12_order_201 (by decide) ?_
                  refine lv_iadd hx hb dX12_order_203 ?_
                  refine lv_topi (fun z374 ez374 => ?_)
                  have iz374 : z374.toInt = r308.toInt + 10 := zi_add ez374 rfl rfl (by omega) (by omega)
                  refine tpk_pos (tp_in hG y1 (by decide)) g366 (fun q375 eq375 => ?_)
                  refine va_iald hx hb hK hP q375 0 eq375 rfl (vp_in_iff.mpr ⟨by omega, by omega⟩) dX12_order_204 ?_
                  refine lv_topi (fun z376 ez376 => ?_)
                  have jz376 : z376.toInt = mo_R g367 (547 + 84 * v.toInt + 10) := mo_rd ez376 (by omega)
                  have kz376 := hI.SO (s := v.toInt) (by omega) (by omega)
                  have vz376 : z376.toInt = z350.toInt := jz376.trans pn371
                  refine lv_iconst (v := 1) hx hb dX12_order_205 (by decide) ?_
                  refine lv_icmp_ne (tgt := 215) hx hb dX12_order_206 (by decide) (fun c377 => ?_) (fun c377 => ?_)
                  · have ic377 : z376.toInt ≠ 1 := zi_ne rfl rfl c377
                    replace ic377 : 2 ≤ z376.toInt := by omega
                    refine lv_aload_n hx hb dX12_order_215 rfl (lv_at hl 3 rfl) ?_
                    refine lv_aload_n hx hb dX12_order_216 rfl (lv_at hl 3 rfl) ?_
                    refine va_get (D := (dC, dI)) (ci := 12) (v := .ref (ρ h0 2)) (C := RX12) (T := TX12) (N := 53) hx hb hts hfX12 hown hK hP q373 eq373 rfl 2 (by decide) (hts (.fieldLink RX12 7 "ColdShipsModel" "row" "[I") wa_148) (fun _ h9 => h9) rfl dX12_order_217 ?_
                    refine lv_iload hx hb dX12_order_220 (lv_at hl 1 rfl) ?_
                    refine lv_bipush (v := 10) hx hb dX12_order_222 (by decide) ?_
                    refine lv_iadd hx hb dX12_order_224 ?_
                    refine lv_topi (fun z378 ez378 => ?_)
                    have iz378 : z378.toInt = r308.toInt + 10 := zi_add ez378 rfl rfl (by omega) (by omega)
                    refine va_iald hx hb hK hP q375 0 eq375 rfl (vp_in_iff.mpr ⟨by omega, by omega⟩) dX12_order_225 ?_
                    refine lv_topi (fun z379 ez379 => ?_)
                    have jz379 : z379.toInt = mo_R g367 (547 + 84 * v.toInt + 10) := mo_rd ez379 (by omega)
                    have kz379 := hI.SO (s := v.toInt) (by omega) (by omega)
                    have vz379 : z379.toInt = z350.toInt := jz379.trans pn371
                    have hFc := tp_fr hD hS hA
                    refine va_calli (va_runV (As := [.int z379]) (rest := []) ⟨hx, hb, hml, hown, hts⟩ (t_X12_told l dC dI _ κ Θ τ ν ρ L f364 hG hT h0 z379 ht_h0) (cwV 1 hts gX12_order_X12_told rfl rfl rfl ⟨rfl, pd_X12_told⟩ ⟨Nat.le_of_ble_eq_true rfl, Nat.le_of_ble_eq_true rfl⟩) ⟨pz_blind, va_recv hK hP (ci := 12) (q0 := q373) rfl eq373, pz_pre hP hK hD hN⟩ rfl rfl hl.1 rfl (lv_room (Nat.le_of_ble_eq_true rfl)) dX12_order_226 ⟨Nat.le_of_ble_eq_true rfl, Nat.le_of_ble_eq_true rfl⟩) hS (fun q _ h => hFc q h) hFc (fun r380 f382 t H1 locs ht hvm hw381 hB hz1 hk1 hS => ?_)
                    refine tn_4 hw381 (fun hT hF383 hw381r hw381p => ?_); clear hw381
                    have hR := hR.then hF383 (by decide)
                    have hP := hB.1; rw [ht] at hP; have hD := tp_ad f382 hD; clear hB hFc hz1 hk1; subst ht; generalize t.heap = H at hP hS ⊢
                    have hw381pq : r380.toInt = z379.toInt := by rw [hw381p]
                    have hf_384 : f382 (ρ h0 2) = .inl (κ 0, 12967, .inl g367) := (hF383 _ (by rw [tp_iu y1]; decide)).trans g366
                    exact W.iret (v := r380) hx hb hr (fun t ht hW => ⟨⟨r380, f382, rfl, ⟨hT, hR, trivial, ⟨(by rw [hf_384, mo_i1]; exact hI), (by rw [hf_384, mo_i1, hf_o26, mo_i1]; exact hKN)⟩⟩, by rw [ht]; exact hP, va_K.moved hW.alike hK, hD⟩, hS.F ht⟩) hS.2.2 dX12_order_229
                  · have ic377 : z376.toInt = 1 := zi_nef rfl rfl c377
                    refine lv_aload_n hx hb dX12_order_209 rfl (lv_at hl 3 rfl) ?_
                    refine lv_iload hx hb dX12_order_210 (lv_at hl 1 rfl) ?_
                    have hFc := tp_fr hD hS hA
                    refine va_callv (va_runV (As := [.int r308]) (rest := []) ⟨hx, hb, hml, hown, hts⟩ (t_X12_beginOrder l dC dI _ κ Θ τ ν ρ L f364 hG hT h0 r308 (-1) 0 v.toInt ht_h0 (by omega) (by omega) (by omega) (by rw [g366, mo_i1]; exact hI) (by first | (simp only [g366, hf_o26, mo_i1]; omega) | (simp only [g366, hf_o26, mo_i1]; trivial) | (simp only [g366, hf_o26, mo_i1]; done) | omega)) (cwV 1 hts gX12_order_X12_beginOrder rfl rfl rfl ⟨rfl, pd_X12_beginOrder⟩ ⟨Nat.le_of_ble_eq_true rfl, Nat.le_of_ble_eq_true rfl⟩) ⟨pz_blind, va_recv hK hP (ci := 12) (q0 := q373) rfl eq373, pz_pre hP hK hD hN⟩ rfl rfl hl.1 rfl (lv_room (Nat.le_of_ble_eq_true rfl)) dX12_order_212 ⟨Nat.le_of_ble_eq_true rfl, Nat.le_of_ble_eq_true rfl⟩) hS (fun q _ h => hFc q h) hFc (fun f387 t H1 locs ht hvm hw386 hB hz1 hk1 hS => ?_)
                    refine tn_3 hw386 (fun hT hF388 hw386p => ?_); clear hw386
                    have hR := hR.then hF388 (by decide)
                    have hP := hB.1; rw [ht] at hP; have hD := tp_ad f387 hD; clear hB hFc hz1 hk1; subst ht; generalize t.heap = H at hP hS ⊢
                    obtain ⟨hJ, hw386pe⟩ := hw386p
                    refine tpk_32 hT y1 (fun g390 hf_o389 => ?_)
                    have hI : mo_RI (-1) 0 (mo_R g390) := by have q9 := hJ; rw [hf_o389, mo_i1] at q9; exact q9
                    rw [g366, mo_i1] at hw386pe
                    rw [hf_o389, mo_i1] at hw386pe
                    obtain ⟨hw386pek, hw386peq⟩ := hw386pe
                    have hKN := hKN.th hw386pek (fun k q9 => False.elim q9)
                    have pn391 : mo_R g390 (1) = n1 := (hw386peq.1).trans pn368
                    have pn392 : mo_R g390 (547 + 84 * v.toInt + 10) = z350.toInt := (hw386peq.2.2).trans pn371
                    refine lv_aload_n hx hb dX12_order_215 rfl (lv_at hl 3 rfl) ?_
                    refine lv_aload_n hx hb dX12_order_216 rfl (lv_at hl 3 rfl) ?_
                    have hf_393 : f387 h0 = .inr (12, [.int 0, .int o28_x1, .ref (ρ h0 2), .ref (ρ h0 3), .ref (ρ h0 4), .ref (ρ h0 5), .ref (ρ h0 6), .int o28_x7, .ref (ρ h0 8), .int o28_x9, .int o28_x10, .int o28_x11, .int o28_x12, .long o28_x13, .int o28_x14, .int o28_x15, .int o28_x16, .int o28_x17, .int o28_x18, .int o28_x19, .int o28_x20, .ref (ρ h0 21), .int o28_x22, .ref (ρ h0 23), .ref (ρ h0 24), .int o28_x25, .ref (ρ h0 26), .ref (ρ h0 27), .int o28_x28, .int o28_x29, .ref (ρ h0 30), .ref (ρ h0 31), .int o28_x32, .long o28_x33, .long o28_x34, .long o28_x35, .int o28_x36, .int o28_x37, .int o28_x38, .ref (ρ h0 39), .ref (ρ h0 40), .ref (ρ h0 41), .ref (ρ h0 42), .ref (ρ h0 43), .ref (ρ h0 44), .ref (ρ h0 45), .ref (ρ h0 46), .int o28_x47, .int o28_x48, .ref (ρ h0 49), .ref (ρ h0 50), .ref (ρ h0 51), .ref (ρ h0 52)]) := (hF388 _ (by rw [ht_h0]; decide)).trans hf_372
                    refine tpk_pos (tp_in hG ht_h0 (by decide)) hf_393 (fun q394 eq394 => ?_)
                    refine va_get (D := (dC, dI)) (ci := 12) (v := .ref (ρ h0 2)) (C := RX12) (T := TX12) (N := 53) hx hb hts hfX12 hown hK hP q394 eq394 rfl 2 (by decide) (hts (.fieldLink RX12 7 "ColdShipsModel" "row" "[I") wa_148) (fun _ h9 => h9) rfl dX12_order_217 ?_
                    refine lv_iload hx hb dX12_order_220 (lv_at hl 1 rfl) ?_
                    refine lv_bipush (v := 10) hx hb dX12_order_222 (by decide) ?_
                    refine lv_iadd hx hb dX12_order_224 ?_
                    refine lv_topi (fun z395 ez395 => ?_)
                    have iz395 : z395.toInt = r308.toInt + 10 := zi_add ez395 rfl rfl (by omega) (by omega)
                    refine tpk_pos (tp_in hG y1 (by decide)) hf_o389 (fun q396 eq396 => ?_)
                    refine va_iald hx hb hK hP q396 0 eq396 rfl (vp_in_iff.mpr ⟨by omega, by omega⟩) dX12_order_225 ?_
                    refine lv_topi (fun z397 ez397 => ?_)
                    have jz397 : z397.toInt = mo_R g390 (547 + 84 * v.toInt + 10) := mo_rd ez397 (by omega)
                    have kz397 := hI.SO (s := v.toInt) (by omega) (by omega)
                    have vz397 : z397.toInt = z350.toInt := jz397.trans pn392
                    have hFc := tp_fr hD hS hA
                    refine va_calli (va_runV (As := [.int z397]) (rest := []) ⟨hx, hb, hml, hown, hts⟩ (t_X12_told l dC dI _ κ Θ τ ν ρ L f387 hG hT h0 z397 ht_h0) (cwV 1 hts gX12_order_X12_told rfl rfl rfl ⟨rfl, pd_X12_told⟩ ⟨Nat.le_of_ble_eq_true rfl, Nat.le_of_ble_eq_true rfl⟩) ⟨pz_blind, va_recv hK hP (ci := 12) (q0 := q394) rfl eq394, pz_pre hP hK hD hN⟩ rfl rfl hl.1 rfl (lv_room (Nat.le_of_ble_eq_true rfl)) dX12_order_226 ⟨Nat.le_of_ble_eq_true rfl, Nat.le_of_ble_eq_true rfl⟩) hS (fun q _ h => hFc q h) hFc (fun r398 f400 t H1 locs ht hvm hw399 hB hz1 hk1 hS => ?_)
                    refine tn_4 hw399 (fun hT hF401 hw399r hw399p => ?_); clear hw399
                    have hR := hR.then hF401 (by decide)
                    have hP := hB.1; rw [ht] at hP; have hD := tp_ad f400 hD; clear hB hFc hz1 hk1; subst ht; generalize t.heap = H at hP hS ⊢
                    have hw399pq : r398.toInt = z397.toInt := by rw [hw399p]
                    have hf_402 : f400 (ρ h0 2) = .inl (κ 0, 12967, .inl g390) := (hF401 _ (by rw [tp_iu y1]; decide)).trans hf_o389
                    exact W.iret (v := r398) hx hb hr (fun t ht hW => ⟨⟨r398, f400, rfl, ⟨hT, hR, trivial, ⟨(by rw [hf_402, mo_i1]; exact hI), (by rw [hf_402, mo_i1, hf_o26, mo_i1]; exact hKN)⟩⟩, by rw [ht]; exact hP, va_K.moved hW.alike hK, hD⟩, hS.F ht⟩) hS.2.2 dX12_order_229
                · have ic320 : z319.toInt = 400 := zi_nef rfl rfl c320
                  refine lv_aload_n hx hb dX12_order_126 rfl (lv_at hl 2 rfl) ?_
                  refine lv_bipush (v := (-5)) hx hb dX12_order_127 (by decide) ?_
                  have hFc := tp_fr hD hS hA
                  refine va_calli (va_runV (As := [.int (-5)]) (rest := []) ⟨hx, hb, hml, hown, hts⟩ (t_X12_told l dC dI _ κ Θ τ ν ρ L f30 hG hT h0 ((-5)) ht_h0) (cwV 1 hts gX12_order_X12_told rfl rfl rfl ⟨rfl, pd_X12_told⟩ ⟨Nat.le_of_ble_eq_true rfl, Nat.le_of_ble_eq_true rfl⟩) ⟨pz_blind, va_recv hK hP (ci := 12) (q0 := q297) rfl eq297, pz_pre hP hK hD hN⟩ rfl rfl hl.1 rfl (lv_room (Nat.le_of_ble_eq_true rfl)) dX12_order_129 ⟨Nat.le_of_ble_eq_true rfl, Nat.le_of_ble_eq_true rfl⟩) hS (fun q _ h => hFc q h) hFc (fun r403 f405 t H1 locs ht hvm hw404 hB hz1 hk1 hS => ?_)
                  refine tn_4 hw404 (fun hT hF406 hw404r hw404p => ?_); clear hw404
                  have hR := hR.then hF406 (by decide)
                  have hP := hB.1; rw [ht] at hP; have hD := tp_ad f405 hD; clear hB hFc hz1 hk1; subst ht; generalize t.heap = H at hP hS ⊢
                  have hw404pq : r403.toInt = (-5) := by rw [hw404p]; rfl
                  have hf_407 : f405 (ρ h0 2) = .inl (κ 0, 12967, .inl g27) := (hF406 _ (by rw [tp_iu y1]; decide)).trans hf_33
                  exact W.iret (v := r403) hx hb hr (fun t ht hW => ⟨⟨r403, f405, rfl, ⟨hT, hR, trivial, ⟨(by rw [hf_407, mo_i1]; exact hI), (by rw [hf_407, mo_i1, hf_o26, mo_i1]; exact hKN)⟩⟩, by rw [ht]; exact hP, va_K.moved hW.alike hK, hD⟩, hS.F ht⟩) hS.2.2 dX12_order_132
            · have ic307 : u.toInt = 0 := zi_nef rfl rfl c307
              exfalso; omega
end
section
theorem dX12_take_0 : decode cX12_take 0 = .ok (.aload_n 0, 1) := od_42  (by decide +kernel)
theorem dX12_take_1 : decode cX12_take 1 = .ok (.getfield 7, 3) := od_180 (a := 0) (b := 7) (by decide +kernel) (by decide)
theorem dX12_take_4 : decode cX12_take 4 = .ok (.iload_n 1, 1) := od_27  (by decide +kernel)
theorem dX12_take_5 : decode cX12_take 5 = .ok (.iconst 4, 1) := od_7  (by decide +kernel)
theorem dX12_take_6 : decode cX12_take 6 = .ok (.iadd, 1) := od_96  (by decide +kernel)
theorem dX12_take_7 : decode cX12_take 7 = .ok (.iaload, 1) := od_46  (by decide +kernel)
theorem dX12_take_8 : decode cX12_take 8 = .ok (.istore_n 3, 1) := od_62  (by decide +kernel)
theorem dX12_take_9 : decode cX12_take 9 = .ok (.iload_n 2, 1) := od_28  (by decide +kernel)
theorem dX12_take_10 : decode cX12_take 10 = .ok (.istore 4, 2) := od_54 (n := 4) (by decide +kernel)
theorem dX12_take_12 : decode cX12_take 12 = .ok (.iconst 0, 1) := od_3  (by decide +kernel)
theorem dX12_take_13 : decode cX12_take 13 = .ok (.istore 5, 2) := od_54 (n := 5) (by decide +kernel)
theorem dX12_take_15 : decode cX12_take 15 = .ok (.iload 5, 2) := od_21 (n := 5) (by decide +kernel)
theorem dX12_take_17 : decode cX12_take 17 = .ok (.bipush 6, 2) := od_16 (a := 6) (by decide +kernel) (by decide +kernel)
theorem dX12_take_19 : decode cX12_take 19 = .ok (.if_icmp .ge 80, 3) := od_162 (a := 0) (b := 80) (by decide +kernel) (by decide +kernel)
theorem dX12_take_22 : decode cX12_take 22 = .ok (.iload_n 2, 1) := od_28  (by decide +kernel)
theorem dX12_take_23 : decode cX12_take 23 = .ok (.i2l, 1) := od_133  (by decide +kernel)
theorem dX12_take_24 : decode cX12_take 24 = .ok (.aload_n 0, 1) := od_42  (by decide +kernel)
theorem dX12_take_25 : decode cX12_take 25 = .ok (.getfield 7, 3) := od_180 (a := 0) (b := 7) (by decide +kernel) (by decide)
theorem dX12_take_28 : decode cX12_take 28 = .ok (.iload_n 1, 1) := od_27  (by decide +kernel)
theorem dX12_take_29 : decode cX12_take 29 = .ok (.bipush 16, 2) := od_16 (a := 16) (by decide +kernel) (by decide +kernel)
theorem dX12_take_31 : decode cX12_take 31 = .ok (.iadd, 1) := od_96  (by decide +kernel)
theorem dX12_take_32 : decode cX12_take 32 = .ok (.iload 5, 2) := od_21 (n := 5) (by decide +kernel)
theorem dX12_take_34 : decode cX12_take 34 = .ok (.iadd, 1) := od_96  (by decide +kernel)
theorem dX12_take_35 : decode cX12_take 35 = .ok (.iaload, 1) := od_46  (by decide +kernel)
theorem dX12_take_36 : decode cX12_take 36 = .ok (.i2l, 1) := od_133  (by decide +kernel)
theorem dX12_take_37 : decode cX12_take 37 = .ok (.lmul, 1) := od_105  (by decide +kernel)
theorem dX12_take_38 : decode cX12_take 38 = .ok (.lstore 6, 2) := od_55 (n := 6) (by decide +kernel)
theorem dX12_take_40 : decode cX12_take 40 = .ok (.aload_n 0, 1) := od_42  (by decide +kernel)
theorem dX12_take_41 : decode cX12_take 41 = .ok (.getfield 20, 3) := od_180 (a := 0) (b := 20) (by decide +kernel) (by decide)
theorem dX12_take_44 : decode cX12_take 44 = .ok (.iload 5, 2) := od_21 (n := 5) (by decide +kernel)
theorem dX12_take_46 : decode cX12_take 46 = .ok (.iload_n 3, 1) := od_29  (by decide +kernel)
theorem dX12_take_47 : decode cX12_take 47 = .ok (.ifCond .ne 7, 3) := od_154 (a := 0) (b := 7) (by decide +kernel) (by decide +kernel)
theorem dX12_take_50 : decode cX12_take 50 = .ok (.iconst 0, 1) := od_3  (by decide +kernel)
theorem dX12_take_51 : decode cX12_take 51 = .ok (.goto 9, 3) := od_167 (a := 0) (b := 9) (by decide +kernel) (by decide +kernel)
theorem dX12_take_54 : decode cX12_take 54 = .ok (.lload 6, 2) := od_22 (n := 6) (by decide +kernel)
theorem dX12_take_56 : decode cX12_take 56 = .ok (.iload_n 3, 1) := od_29  (by decide +kernel)
theorem dX12_take_57 : decode cX12_take 57 = .ok (.i2l, 1) := od_133  (by decide +kernel)
theorem dX12_take_58 : decode cX12_take 58 = .ok (.ldiv, 1) := od_109  (by decide +kernel)
theorem dX12_take_59 : decode cX12_take 59 = .ok (.l2i, 1) := od_136  (by decide +kernel)
theorem dX12_take_60 : decode cX12_take 60 = .ok (.iastore, 1) := od_79  (by decide +kernel)
theorem dX12_take_61 : decode cX12_take 61 = .ok (.aload_n 0, 1) := od_42  (by decide +kernel)
theorem dX12_take_62 : decode cX12_take 62 = .ok (.getfield 23, 3) := od_180 (a := 0) (b := 23) (by decide +kernel) (by decide)
theorem dX12_take_65 : decode cX12_take 65 = .ok (.iload 5, 2) := od_21 (n := 5) (by decide +kernel)
theorem dX12_take_67 : decode cX12_take 67 = .ok (.iload_n 3, 1) := od_29  (by decide +kernel)
theorem dX12_take_68 : decode cX12_take 68 = .ok (.ifCond .ne 7, 3) := od_154 (a := 0) (b := 7) (by decide +kernel) (by decide +kernel)
theorem dX12_take_71 : decode cX12_take 71 = .ok (.lconst 0, 1) := od_9  (by decide +kernel)
theorem dX12_take_72 : decode cX12_take 72 = .ok (.goto 8, 3) := od_167 (a := 0) (b := 8) (by decide +kernel) (by decide +kernel)
theorem dX12_take_75 : decode cX12_take 75 = .ok (.lload 6, 2) := od_22 (n := 6) (by decide +kernel)
theorem dX12_take_77 : decode cX12_take 77 = .ok (.iload_n 3, 1) := od_29  (by decide +kernel)
theorem dX12_take_78 : decode cX12_take 78 = .ok (.i2l, 1) := od_133  (by decide +kernel)
theorem dX12_take_79 : decode cX12_take 79 = .ok (.lrem, 1) := od_113  (by decide +kernel)
theorem dX12_take_80 : decode cX12_take 80 = .ok (.lastore, 1) := od_80  (by decide +kernel)
theorem dX12_take_81 : decode cX12_take 81 = .ok (.iload 4, 2) := od_21 (n := 4) (by decide +kernel)
theorem dX12_take_83 : decode cX12_take 83 = .ok (.aload_n 0, 1) := od_42  (by decide +kernel)
theorem dX12_take_84 : decode cX12_take 84 = .ok (.getfield 20, 3) := od_180 (a := 0) (b := 20) (by decide +kernel) (by decide)
theorem dX12_take_87 : decode cX12_take 87 = .ok (.iload 5, 2) := od_21 (n := 5) (by decide +kernel)
theorem dX12_take_89 : decode cX12_take 89 = .ok (.iaload, 1) := od_46  (by decide +kernel)
theorem dX12_take_90 : decode cX12_take 90 = .ok (.isub, 1) := od_100  (by decide +kernel)
theorem dX12_take_91 : decode cX12_take 91 = .ok (.istore 4, 2) := od_54 (n := 4) (by decide +kernel)
theorem dX12_take_93 : decode cX12_take 93 = .ok (.iinc 5 1, 3) := od_132 (a := 5) (b := 1) (by decide +kernel) (by decide +kernel)
theorem dX12_take_96 : decode cX12_take 96 = .ok (.goto (-81), 3) := od_167 (a := 255) (b := 175) (by decide +kernel) (by decide +kernel)
theorem dX12_take_99 : decode cX12_take 99 = .ok (.iload 4, 2) := od_21 (n := 4) (by decide +kernel)
theorem dX12_take_101 : decode cX12_take 101 = .ok (.ifCond .le 76, 3) := od_158 (a := 0) (b := 76) (by decide +kernel) (by decide +kernel)
theorem dX12_take_104 : decode cX12_take 104 = .ok (.iconst 0, 1) := od_3  (by decide +kernel)
theorem dX12_take_105 : decode cX12_take 105 = .ok (.istore 5, 2) := od_54 (n := 5) (by decide +kernel)
theorem dX12_take_107 : decode cX12_take 107 = .ok (.iconst 1, 1) := od_4  (by decide +kernel)
theorem dX12_take_108 : decode cX12_take 108 = .ok (.istore 6, 2) := od_54 (n := 6) (by decide +kernel)
theorem dX12_take_110 : decode cX12_take 110 = .ok (.iload 6, 2) := od_21 (n := 6) (by decide +kernel)
theorem dX12_take_112 : decode cX12_take 112 = .ok (.bipush 6, 2) := od_16 (a := 6) (by decide +kernel) (by decide +kernel)
theorem dX12_take_114 : decode cX12_take 114 = .ok (.if_icmp .ge 36, 3) := od_162 (a := 0) (b := 36) (by decide +kernel) (by decide +kernel)
theorem dX12_take_117 : decode cX12_take 117 = .ok (.aload_n 0, 1) := od_42  (by decide +kernel)
theorem dX12_take_118 : decode cX12_take 118 = .ok (.getfield 23, 3) := od_180 (a := 0) (b := 23) (by decide +kernel) (by decide)
theorem dX12_take_121 : decode cX12_take 121 = .ok (.iload 6, 2) := od_21 (n := 6) (by decide +kernel)
theorem dX12_take_123 : decode cX12_take 123 = .ok (.laload, 1) := od_47  (by decide +kernel)
theorem dX12_take_124 : decode cX12_take 124 = .ok (.aload_n 0, 1) := od_42  (by decide +kernel)
theorem dX12_take_125 : decode cX12_take 125 = .ok (.getfield 23, 3) := od_180 (a := 0) (b := 23) (by decide +kernel) (by decide)
theorem dX12_take_128 : decode cX12_take 128 = .ok (.iload 5, 2) := od_21 (n := 5) (by decide +kernel)
theorem dX12_take_130 : decode cX12_take 130 = .ok (.laload, 1) := od_47  (by decide +kernel)
theorem dX12_take_131 : decode cX12_take 131 = .ok (.lcmp, 1) := od_148  (by decide +kernel)
theorem dX12_take_132 : decode cX12_take 132 = .ok (.ifCond .le 8, 3) := od_158 (a := 0) (b := 8) (by decide +kernel) (by decide +kernel)
theorem dX12_take_135 : decode cX12_take 135 = .ok (.iload 6, 2) := od_21 (n := 6) (by decide +kernel)
theorem dX12_take_137 : decode cX12_take 137 = .ok (.goto 5, 3) := od_167 (a := 0) (b := 5) (by decide +kernel) (by decide +kernel)
theorem dX12_take_140 : decode cX12_take 140 = .ok (.iload 5, 2) := od_21 (n := 5) (by decide +kernel)
theorem dX12_take_142 : decode cX12_take 142 = .ok (.istore 5, 2) := od_54 (n := 5) (by decide +kernel)
theorem dX12_take_144 : decode cX12_take 144 = .ok (.iinc 6 1, 3) := od_132 (a := 6) (b := 1) (by decide +kernel) (by decide +kernel)
theorem dX12_take_147 : decode cX12_take 147 = .ok (.goto (-37), 3) := od_167 (a := 255) (b := 219) (by decide +kernel) (by decide +kernel)
theorem dX12_take_150 : decode cX12_take 150 = .ok (.aload_n 0, 1) := od_42  (by decide +kernel)
theorem dX12_take_151 : decode cX12_take 151 = .ok (.getfield 20, 3) := od_180 (a := 0) (b := 20) (by decide +kernel) (by decide)
theorem dX12_take_154 : decode cX12_take 154 = .ok (.iload 5, 2) := od_21 (n := 5) (by decide +kernel)
theorem dX12_take_156 : decode cX12_take 156 = .ok (.dup2, 1) := od_92  (by decide +kernel)
theorem dX12_take_157 : decode cX12_take 157 = .ok (.iaload, 1) := od_46  (by decide +kernel)
theorem dX12_take_158 : decode cX12_take 158 = .ok (.iconst 1, 1) := od_4  (by decide +kernel)
theorem dX12_take_159 : decode cX12_take 159 = .ok (.iadd, 1) := od_96  (by decide +kernel)
theorem dX12_take_160 : decode cX12_take 160 = .ok (.iastore, 1) := od_79  (by decide +kernel)
theorem dX12_take_161 : decode cX12_take 161 = .ok (.aload_n 0, 1) := od_42  (by decide +kernel)
theorem dX12_take_162 : decode cX12_take 162 = .ok (.getfield 23, 3) := od_180 (a := 0) (b := 23) (by decide +kernel) (by decide)
theorem dX12_take_165 : decode cX12_take 165 = .ok (.iload 5, 2) := od_21 (n := 5) (by decide +kernel)
theorem dX12_take_167 : decode cX12_take 167 = .ok (.ldc2_w 158, 3) := od_20 (a := 0) (b := 158) (by decide +kernel) (by decide)
theorem dX12_take_170 : decode cX12_take 170 = .ok (.lastore, 1) := od_80  (by decide +kernel)
theorem dX12_take_171 : decode cX12_take 171 = .ok (.iinc 4 (-1), 3) := od_132 (a := 4) (b := 255) (by decide +kernel) (by decide +kernel)
theorem dX12_take_174 : decode cX12_take 174 = .ok (.goto (-75), 3) := od_167 (a := 255) (b := 181) (by decide +kernel) (by decide +kernel)
theorem dX12_take_177 : decode cX12_take 177 = .ok (.iconst 0, 1) := od_3  (by decide +kernel)
theorem dX12_take_178 : decode cX12_take 178 = .ok (.istore 5, 2) := od_54 (n := 5) (by decide +kernel)
theorem dX12_take_180 : decode cX12_take 180 = .ok (.iload 5, 2) := od_21 (n := 5) (by decide +kernel)
theorem dX12_take_182 : decode cX12_take 182 = .ok (.bipush 6, 2) := od_16 (a := 6) (by decide +kernel) (by decide +kernel)
theorem dX12_take_184 : decode cX12_take 184 = .ok (.if_icmp .ge 31, 3) := od_162 (a := 0) (b := 31) (by decide +kernel) (by decide +kernel)
theorem dX12_take_187 : decode cX12_take 187 = .ok (.aload_n 0, 1) := od_42  (by decide +kernel)
theorem dX12_take_188 : decode cX12_take 188 = .ok (.getfield 7, 3) := od_180 (a := 0) (b := 7) (by decide +kernel) (by decide)
theorem dX12_take_191 : decode cX12_take 191 = .ok (.iload_n 1, 1) := od_27  (by decide +kernel)
theorem dX12_take_192 : decode cX12_take 192 = .ok (.bipush 16, 2) := od_16 (a := 16) (by decide +kernel) (by decide +kernel)
theorem dX12_take_194 : decode cX12_take 194 = .ok (.iadd, 1) := od_96  (by decide +kernel)
theorem dX12_take_195 : decode cX12_take 195 = .ok (.iload 5, 2) := od_21 (n := 5) (by decide +kernel)
theorem dX12_take_197 : decode cX12_take 197 = .ok (.iadd, 1) := od_96  (by decide +kernel)
theorem dX12_take_198 : decode cX12_take 198 = .ok (.dup2, 1) := od_92  (by decide +kernel)
theorem dX12_take_199 : decode cX12_take 199 = .ok (.iaload, 1) := od_46  (by decide +kernel)
theorem dX12_take_200 : decode cX12_take 200 = .ok (.aload_n 0, 1) := od_42  (by decide +kernel)
theorem dX12_take_201 : decode cX12_take 201 = .ok (.getfield 20, 3) := od_180 (a := 0) (b := 20) (by decide +kernel) (by decide)
theorem dX12_take_204 : decode cX12_take 204 = .ok (.iload 5, 2) := od_21 (n := 5) (by decide +kernel)
theorem dX12_take_206 : decode cX12_take 206 = .ok (.iaload, 1) := od_46  (by decide +kernel)
theorem dX12_take_207 : decode cX12_take 207 = .ok (.isub, 1) := od_100  (by decide +kernel)
theorem dX12_take_208 : decode cX12_take 208 = .ok (.iastore, 1) := od_79  (by decide +kernel)
theorem dX12_take_209 : decode cX12_take 209 = .ok (.iinc 5 1, 3) := od_132 (a := 5) (b := 1) (by decide +kernel) (by decide +kernel)
theorem dX12_take_212 : decode cX12_take 212 = .ok (.goto (-32), 3) := od_167 (a := 255) (b := 224) (by decide +kernel) (by decide +kernel)
theorem dX12_take_215 : decode cX12_take 215 = .ok (.aload_n 0, 1) := od_42  (by decide +kernel)
theorem dX12_take_216 : decode cX12_take 216 = .ok (.getfield 7, 3) := od_180 (a := 0) (b := 7) (by decide +kernel) (by decide)
theorem dX12_take_219 : decode cX12_take 219 = .ok (.iload_n 1, 1) := od_27  (by decide +kernel)
theorem dX12_take_220 : decode cX12_take 220 = .ok (.iconst 4, 1) := od_7  (by decide +kernel)
theorem dX12_take_221 : decode cX12_take 221 = .ok (.iadd, 1) := od_96  (by decide +kernel)
theorem dX12_take_222 : decode cX12_take 222 = .ok (.dup2, 1) := od_92  (by decide +kernel)
theorem dX12_take_223 : decode cX12_take 223 = .ok (.iaload, 1) := od_46  (by decide +kernel)
theorem dX12_take_224 : decode cX12_take 224 = .ok (.iload_n 2, 1) := od_28  (by decide +kernel)
theorem dX12_take_225 : decode cX12_take 225 = .ok (.isub, 1) := od_100  (by decide +kernel)
theorem dX12_take_226 : decode cX12_take 226 = .ok (.iastore, 1) := od_79  (by decide +kernel)
theorem dX12_take_227 : decode cX12_take 227 = .ok (.return_, 1) := od_177  (by decide +kernel)
theorem dX12_heelOf_0 : decode cX12_heelOf 0 = .ok (.aload_n 0, 1) := od_42  (by decide +kernel)
theorem dX12_heelOf_1 : decode cX12_heelOf 1 = .ok (.getfield 7, 3) := od_180 (a := 0) (b := 7) (by decide +kernel) (by decide)
theorem dX12_heelOf_4 : decode cX12_heelOf 4 = .ok (.iload_n 1, 1) := od_27  (by decide +kernel)
theorem dX12_heelOf_5 : decode cX12_heelOf 5 = .ok (.bipush 7, 2) := od_16 (a := 7) (by decide +kernel) (by decide +kernel)
theorem dX12_heelOf_7 : decode cX12_heelOf 7 = .ok (.iadd, 1) := od_96  (by decide +kernel)
theorem dX12_heelOf_8 : decode cX12_heelOf 8 = .ok (.iaload, 1) := od_46  (by decide +kernel)
theorem dX12_heelOf_9 : decode cX12_heelOf 9 = .ok (.iconst 2, 1) := od_5  (by decide +kernel)
theorem dX12_heelOf_10 : decode cX12_heelOf 10 = .ok (.imul, 1) := od_104  (by decide +kernel)
theorem dX12_heelOf_11 : decode cX12_heelOf 11 = .ok (.bipush 100, 2) := od_16 (a := 100) (by decide +kernel) (by decide +kernel)
theorem dX12_heelOf_13 : decode cX12_heelOf 13 = .ok (.idiv, 1) := od_108  (by decide +kernel)
theorem dX12_heelOf_14 : decode cX12_heelOf 14 = .ok (.ireturn, 1) := od_172  (by decide +kernel)
theorem dX12_topOf_0 : decode cX12_topOf 0 = .ok (.aload_n 0, 1) := od_42  (by decide +kernel)
theorem dX12_topOf_1 : decode cX12_topOf 1 = .ok (.getfield 7, 3) := od_180 (a := 0) (b := 7) (by decide +kernel) (by decide)
theorem dX12_topOf_4 : decode cX12_topOf 4 = .ok (.iload_n 1, 1) := od_27  (by decide +kernel)
theorem dX12_topOf_5 : decode cX12_topOf 5 = .ok (.bipush 7, 2) := od_16 (a := 7) (by decide +kernel) (by decide +kernel)
theorem dX12_topOf_7 : decode cX12_topOf 7 = .ok (.iadd, 1) := od_96  (by decide +kernel)
theorem dX12_topOf_8 : decode cX12_topOf 8 = .ok (.iaload, 1) := od_46  (by decide +kernel)
theorem dX12_topOf_9 : decode cX12_topOf 9 = .ok (.i2l, 1) := od_133  (by decide +kernel)
theorem dX12_topOf_10 : decode cX12_topOf 10 = .ok (.ldc2_w 160, 3) := od_20 (a := 0) (b := 160) (by decide +kernel) (by decide)
theorem dX12_topOf_13 : decode cX12_topOf 13 = .ok (.lmul, 1) := od_105  (by decide +kernel)
theorem dX12_topOf_14 : decode cX12_topOf 14 = .ok (.ldc2_w 150, 3) := od_20 (a := 0) (b := 150) (by decide +kernel) (by decide)
theorem dX12_topOf_17 : decode cX12_topOf 17 = .ok (.ldiv, 1) := od_109  (by decide +kernel)
theorem dX12_topOf_18 : decode cX12_topOf 18 = .ok (.l2i, 1) := od_136  (by decide +kernel)
theorem dX12_topOf_19 : decode cX12_topOf 19 = .ok (.ireturn, 1) := od_172  (by decide +kernel)
theorem dX12_draftOf_0 : decode cX12_draftOf 0 = .ok (.bipush 8, 2) := od_16 (a := 8) (by decide +kernel) (by decide +kernel)
theorem dX12_draftOf_2 : decode cX12_draftOf 2 = .ok (.ldc2_w 162, 3) := od_20 (a := 0) (b := 162) (by decide +kernel) (by decide)
theorem dX12_draftOf_5 : decode cX12_draftOf 5 = .ok (.aload_n 0, 1) := od_42  (by decide +kernel)
theorem dX12_draftOf_6 : decode cX12_draftOf 6 = .ok (.getfield 7, 3) := od_180 (a := 0) (b := 7) (by decide +kernel) (by decide)
theorem dX12_draftOf_9 : decode cX12_draftOf 9 = .ok (.iload_n 1, 1) := od_27  (by decide +kernel)
theorem dX12_draftOf_10 : decode cX12_draftOf 10 = .ok (.iconst 4, 1) := od_7  (by decide +kernel)
theorem dX12_draftOf_11 : decode cX12_draftOf 11 = .ok (.iadd, 1) := od_96  (by decide +kernel)
theorem dX12_draftOf_12 : decode cX12_draftOf 12 = .ok (.iaload, 1) := od_46  (by decide +kernel)
theorem dX12_draftOf_13 : decode cX12_draftOf 13 = .ok (.i2l, 1) := od_133  (by decide +kernel)
theorem dX12_draftOf_14 : decode cX12_draftOf 14 = .ok (.lmul, 1) := od_105  (by decide +kernel)
theorem dX12_draftOf_15 : decode cX12_draftOf 15 = .ok (.aload_n 0, 1) := od_42  (by decide +kernel)
theorem dX12_draftOf_16 : decode cX12_draftOf 16 = .ok (.getfield 7, 3) := od_180 (a := 0) (b := 7) (by decide +kernel) (by decide)
theorem dX12_draftOf_19 : decode cX12_draftOf 19 = .ok (.iload_n 1, 1) := od_27  (by decide +kernel)
theorem dX12_draftOf_20 : decode cX12_draftOf 20 = .ok (.bipush 7, 2) := od_16 (a := 7) (by decide +kernel) (by decide +kernel)
theorem dX12_draftOf_22 : decode cX12_draftOf 22 = .ok (.iadd, 1) := od_96  (by decide +kernel)
theorem dX12_draftOf_23 : decode cX12_draftOf 23 = .ok (.iaload, 1) := od_46  (by decide +kernel)
theorem dX12_draftOf_24 : decode cX12_draftOf 24 = .ok (.i2l, 1) := od_133  (by decide +kernel)
theorem dX12_draftOf_25 : decode cX12_draftOf 25 = .ok (.ldiv, 1) := od_109  (by decide +kernel)
theorem dX12_draftOf_26 : decode cX12_draftOf 26 = .ok (.l2i, 1) := od_136  (by decide +kernel)
theorem dX12_draftOf_27 : decode cX12_draftOf 27 = .ok (.iadd, 1) := od_96  (by decide +kernel)
theorem dX12_draftOf_28 : decode cX12_draftOf 28 = .ok (.ireturn, 1) := od_172  (by decide +kernel)
theorem dX12_roomOf_0 : decode cX12_roomOf 0 = .ok (.aload_n 0, 1) := od_42  (by decide +kernel)
theorem dX12_roomOf_1 : decode cX12_roomOf 1 = .ok (.getfield 7, 3) := od_180 (a := 0) (b := 7) (by decide +kernel) (by decide)
theorem dX12_roomOf_4 : decode cX12_roomOf 4 = .ok (.iload_n 1, 1) := od_27  (by decide +kernel)
theorem dX12_roomOf_5 : decode cX12_roomOf 5 = .ok (.bipush 7, 2) := od_16 (a := 7) (by decide +kernel) (by decide +kernel)
theorem dX12_roomOf_7 : decode cX12_roomOf 7 = .ok (.iadd, 1) := od_96  (by decide +kernel)
theorem dX12_roomOf_8 : decode cX12_roomOf 8 = .ok (.iaload, 1) := od_46  (by decide +kernel)
theorem dX12_roomOf_9 : decode cX12_roomOf 9 = .ok (.aload_n 0, 1) := od_42  (by decide +kernel)
theorem dX12_roomOf_10 : decode cX12_roomOf 10 = .ok (.getfield 7, 3) := od_180 (a := 0) (b := 7) (by decide +kernel) (by decide)
theorem dX12_roomOf_13 : decode cX12_roomOf 13 = .ok (.iload_n 1, 1) := od_27  (by decide +kernel)
theorem dX12_roomOf_14 : decode cX12_roomOf 14 = .ok (.iconst 4, 1) := od_7  (by decide +kernel)
theorem dX12_roomOf_15 : decode cX12_roomOf 15 = .ok (.iadd, 1) := od_96  (by decide +kernel)
theorem dX12_roomOf_16 : decode cX12_roomOf 16 = .ok (.iaload, 1) := od_46  (by decide +kernel)
theorem dX12_roomOf_17 : decode cX12_roomOf 17 = .ok (.isub, 1) := od_100  (by decide +kernel)
theorem dX12_roomOf_18 : decode cX12_roomOf 18 = .ok (.aload_n 0, 1) := od_42  (by decide +kernel)
theorem dX12_roomOf_19 : decode cX12_roomOf 19 = .ok (.getfield 7, 3) := od_180 (a := 0) (b := 7) (by decide +kernel) (by decide)
theorem dX12_roomOf_22 : decode cX12_roomOf 22 = .ok (.iload_n 1, 1) := od_27  (by decide +kernel)
theorem dX12_roomOf_23 : decode cX12_roomOf 23 = .ok (.bipush 7, 2) := od_16 (a := 7) (by decide +kernel) (by decide +kernel)
theorem dX12_roomOf_25 : decode cX12_roomOf 25 = .ok (.iadd, 1) := od_96  (by decide +kernel)
theorem dX12_roomOf_26 : decode cX12_roomOf 26 = .ok (.iaload, 1) := od_46  (by decide +kernel)
theorem dX12_roomOf_27 : decode cX12_roomOf 27 = .ok (.bipush 100, 2) := od_16 (a := 100) (by decide +kernel) (by decide +kernel)
theorem dX12_roomOf_29 : decode cX12_roomOf 29 = .ok (.idiv, 1) := od_108  (by decide +kernel)
theorem dX12_roomOf_30 : decode cX12_roomOf 30 = .ok (.iadd, 1) := od_96  (by decide +kernel)
theorem dX12_roomOf_31 : decode cX12_roomOf 31 = .ok (.ireturn, 1) := od_172  (by decide +kernel)
theorem gX12_pressOf_X12_roomOf : GoodIn WALL (wsV RX12 164 RX12 yX12_roomOf wqX12_roomOf) := wg_V wa_623 wa_624 wa_625 wa_5 wa_626
theorem dX12_pressOf_0 : decode cX12_pressOf 0 = .ok (.aload_n 0, 1) := od_42  (by decide +kernel)
theorem dX12_pressOf_1 : decode cX12_pressOf 1 = .ok (.getfield 7, 3) := od_180 (a := 0) (b := 7) (by decide +kernel) (by decide)
theorem dX12_pressOf_4 : decode cX12_pressOf 4 = .ok (.iload_n 1, 1) := od_27  (by decide +kernel)
theorem dX12_pressOf_5 : decode cX12_pressOf 5 = .ok (.iconst 5, 1) := od_8  (by decide +kernel)
theorem dX12_pressOf_6 : decode cX12_pressOf 6 = .ok (.iadd, 1) := od_96  (by decide +kernel)
theorem dX12_pressOf_7 : decode cX12_pressOf 7 = .ok (.iaload, 1) := od_46  (by decide +kernel)
theorem dX12_pressOf_8 : decode cX12_pressOf 8 = .ok (.i2l, 1) := od_133  (by decide +kernel)
theorem dX12_pressOf_9 : decode cX12_pressOf 9 = .ok (.ldc2_w 122, 3) := od_20 (a := 0) (b := 122) (by decide +kernel) (by decide)
theorem dX12_pressOf_12 : decode cX12_pressOf 12 = .ok (.lmul, 1) := od_105  (by decide +kernel)
theorem dX12_pressOf_13 : decode cX12_pressOf 13 = .ok (.aload_n 0, 1) := od_42  (by decide +kernel)
theorem dX12_pressOf_14 : decode cX12_pressOf 14 = .ok (.iload_n 1, 1) := od_27  (by decide +kernel)
theorem dX12_pressOf_15 : decode cX12_pressOf 15 = .ok (.invokevirtual 164, 3) := od_182 (a := 0) (b := 164) (by decide +kernel) (by decide)
theorem dX12_pressOf_18 : decode cX12_pressOf 18 = .ok (.i2l, 1) := od_133  (by decide +kernel)
theorem dX12_pressOf_19 : decode cX12_pressOf 19 = .ok (.ldiv, 1) := od_109  (by decide +kernel)
theorem dX12_pressOf_20 : decode cX12_pressOf 20 = .ok (.l2i, 1) := od_136  (by decide +kernel)
theorem dX12_pressOf_21 : decode cX12_pressOf 21 = .ok (.ireturn, 1) := od_172  (by decide +kernel)
theorem gX12_burn_X12_take : GoodIn WALL (wsV RX12 179 RX12 yX12_take wqX12_take) := wg_V wa_553 wa_554 wa_555 wa_5 wa_556
theorem dX12_burn_0 : decode cX12_burn 0 = .ok (.aload_n 0, 1) := od_42  (by decide +kernel)
theorem dX12_burn_1 : decode cX12_burn 1 = .ok (.getfield 7, 3) := od_180 (a := 0) (b := 7) (by decide +kernel) (by decide)
theorem dX12_burn_4 : decode cX12_burn 4 = .ok (.iload_n 1, 1) := od_27  (by decide +kernel)
theorem dX12_burn_5 : decode cX12_burn 5 = .ok (.iconst 1, 1) := od_4  (by decide +kernel)
theorem dX12_burn_6 : decode cX12_burn 6 = .ok (.iadd, 1) := od_96  (by decide +kernel)
theorem dX12_burn_7 : decode cX12_burn 7 = .ok (.iaload, 1) := od_46  (by decide +kernel)
theorem dX12_burn_8 : decode cX12_burn 8 = .ok (.ifCond .le 15, 3) := od_158 (a := 0) (b := 15) (by decide +kernel) (by decide +kernel)
theorem dX12_burn_11 : decode cX12_burn 11 = .ok (.aload_n 0, 1) := od_42  (by decide +kernel)
theorem dX12_burn_12 : decode cX12_burn 12 = .ok (.getfield 7, 3) := od_180 (a := 0) (b := 7) (by decide +kernel) (by decide)
theorem dX12_burn_15 : decode cX12_burn 15 = .ok (.iload_n 1, 1) := od_27  (by decide +kernel)
theorem dX12_burn_16 : decode cX12_burn 16 = .ok (.bipush 8, 2) := od_16 (a := 8) (by decide +kernel) (by decide +kernel)
theorem dX12_burn_18 : decode cX12_burn 18 = .ok (.iadd, 1) := od_96  (by decide +kernel)
theorem dX12_burn_19 : decode cX12_burn 19 = .ok (.iaload, 1) := od_46  (by decide +kernel)
theorem dX12_burn_20 : decode cX12_burn 20 = .ok (.goto 14, 3) := od_167 (a := 0) (b := 14) (by decide +kernel) (by decide +kernel)
theorem dX12_burn_23 : decode cX12_burn 23 = .ok (.aload_n 0, 1) := od_42  (by decide +kernel)
theorem dX12_burn_24 : decode cX12_burn 24 = .ok (.getfield 7, 3) := od_180 (a := 0) (b := 7) (by decide +kernel) (by decide)
theorem dX12_burn_27 : decode cX12_burn 27 = .ok (.iload_n 1, 1) := od_27  (by decide +kernel)
theorem dX12_burn_28 : decode cX12_burn 28 = .ok (.bipush 8, 2) := od_16 (a := 8) (by decide +kernel) (by decide +kernel)
theorem dX12_burn_30 : decode cX12_burn 30 = .ok (.iadd, 1) := od_96  (by decide +kernel)
theorem dX12_burn_31 : decode cX12_burn 31 = .ok (.iaload, 1) := od_46  (by decide +kernel)
theorem dX12_burn_32 : decode cX12_burn 32 = .ok (.iconst 4, 1) := od_7  (by decide +kernel)
theorem dX12_burn_33 : decode cX12_burn 33 = .ok (.idiv, 1) := od_108  (by decide +kernel)
theorem dX12_burn_34 : decode cX12_burn 34 = .ok (.istore_n 2, 1) := od_61  (by decide +kernel)
theorem dX12_burn_35 : decode cX12_burn 35 = .ok (.iload_n 2, 1) := od_28  (by decide +kernel)
theorem dX12_burn_36 : decode cX12_burn 36 = .ok (.aload_n 0, 1) := od_42  (by decide +kernel)
theorem dX12_burn_37 : decode cX12_burn 37 = .ok (.getfield 7, 3) := od_180 (a := 0) (b := 7) (by decide +kernel) (by decide)
theorem dX12_burn_40 : decode cX12_burn 40 = .ok (.iload_n 1, 1) := od_27  (by decide +kernel)
theorem dX12_burn_41 : decode cX12_burn 41 = .ok (.iconst 5, 1) := od_8  (by decide +kernel)
theorem dX12_burn_42 : decode cX12_burn 42 = .ok (.iadd, 1) := od_96  (by decide +kernel)
theorem dX12_burn_43 : decode cX12_burn 43 = .ok (.iaload, 1) := od_46  (by decide +kernel)
theorem dX12_burn_44 : decode cX12_burn 44 = .ok (.if_icmp .ge 7, 3) := od_162 (a := 0) (b := 7) (by decide +kernel) (by decide +kernel)
theorem dX12_burn_47 : decode cX12_burn 47 = .ok (.iload_n 2, 1) := od_28  (by decide +kernel)
theorem dX12_burn_48 : decode cX12_burn 48 = .ok (.goto 11, 3) := od_167 (a := 0) (b := 11) (by decide +kernel) (by decide +kernel)
theorem dX12_burn_51 : decode cX12_burn 51 = .ok (.aload_n 0, 1) := od_42  (by decide +kernel)
theorem dX12_burn_52 : decode cX12_burn 52 = .ok (.getfield 7, 3) := od_180 (a := 0) (b := 7) (by decide +kernel) (by decide)
theorem dX12_burn_55 : decode cX12_burn 55 = .ok (.iload_n 1, 1) := od_27  (by decide +kernel)
theorem dX12_burn_56 : decode cX12_burn 56 = .ok (.iconst 5, 1) := od_8  (by decide +kernel)
theorem dX12_burn_57 : decode cX12_burn 57 = .ok (.iadd, 1) := od_96  (by decide +kernel)
theorem dX12_burn_58 : decode cX12_burn 58 = .ok (.iaload, 1) := od_46  (by decide +kernel)
theorem dX12_burn_59 : decode cX12_burn 59 = .ok (.istore_n 3, 1) := od_62  (by decide +kernel)
theorem dX12_burn_60 : decode cX12_burn 60 = .ok (.iload_n 2, 1) := od_28  (by decide +kernel)
theorem dX12_burn_61 : decode cX12_burn 61 = .ok (.iload_n 3, 1) := od_29  (by decide +kernel)
theorem dX12_burn_62 : decode cX12_burn 62 = .ok (.isub, 1) := od_100  (by decide +kernel)
theorem dX12_burn_63 : decode cX12_burn 63 = .ok (.aload_n 0, 1) := od_42  (by decide +kernel)
theorem dX12_burn_64 : decode cX12_burn 64 = .ok (.getfield 7, 3) := od_180 (a := 0) (b := 7) (by decide +kernel) (by decide)
theorem dX12_burn_67 : decode cX12_burn 67 = .ok (.iload_n 1, 1) := od_27  (by decide +kernel)
theorem dX12_burn_68 : decode cX12_burn 68 = .ok (.iconst 4, 1) := od_7  (by decide +kernel)
theorem dX12_burn_69 : decode cX12_burn 69 = .ok (.iadd, 1) := od_96  (by decide +kernel)
theorem dX12_burn_70 : decode cX12_burn 70 = .ok (.iaload, 1) := od_46  (by decide +kernel)
theorem dX12_burn_71 : decode cX12_burn 71 = .ok (.if_icmp .ge 9, 3) := od_162 (a := 0) (b := 9) (by decide +kernel) (by decide +kernel)
theorem dX12_burn_74 : decode cX12_burn 74 = .ok (.iload_n 2, 1) := od_28  (by decide +kernel)
theorem dX12_burn_75 : decode cX12_burn 75 = .ok (.iload_n 3, 1) := od_29  (by decide +kernel)
theorem dX12_burn_76 : decode cX12_burn 76 = .ok (.isub, 1) := od_100  (by decide +kernel)
theorem dX12_burn_77 : decode cX12_burn 77 = .ok (.goto 11, 3) := od_167 (a := 0) (b := 11) (by decide +kernel) (by decide +kernel)
theorem dX12_burn_80 : decode cX12_burn 80 = .ok (.aload_n 0, 1) := od_42  (by decide +kernel)
theorem dX12_burn_81 : decode cX12_burn 81 = .ok (.getfield 7, 3) := od_180 (a := 0) (b := 7) (by decide +kernel) (by decide)
theorem dX12_burn_84 : decode cX12_burn 84 = .ok (.iload_n 1, 1) := od_27  (by decide +kernel)
theorem dX12_burn_85 : decode cX12_burn 85 = .ok (.iconst 4, 1) := od_7  (by decide +kernel)
theorem dX12_burn_86 : decode cX12_burn 86 = .ok (.iadd, 1) := od_96  (by decide +kernel)
theorem dX12_burn_87 : decode cX12_burn 87 = .ok (.iaload, 1) := od_46  (by decide +kernel)
theorem dX12_burn_88 : decode cX12_burn 88 = .ok (.istore 4, 2) := od_54 (n := 4) (by decide +kernel)
theorem dX12_burn_90 : decode cX12_burn 90 = .ok (.aload_n 0, 1) := od_42  (by decide +kernel)
theorem dX12_burn_91 : decode cX12_burn 91 = .ok (.getfield 7, 3) := od_180 (a := 0) (b := 7) (by decide +kernel) (by decide)
theorem dX12_burn_94 : decode cX12_burn 94 = .ok (.iload_n 1, 1) := od_27  (by decide +kernel)
theorem dX12_burn_95 : decode cX12_burn 95 = .ok (.iconst 5, 1) := od_8  (by decide +kernel)
theorem dX12_burn_96 : decode cX12_burn 96 = .ok (.iadd, 1) := od_96  (by decide +kernel)
theorem dX12_burn_97 : decode cX12_burn 97 = .ok (.dup2, 1) := od_92  (by decide +kernel)
theorem dX12_burn_98 : decode cX12_burn 98 = .ok (.iaload, 1) := od_46  (by decide +kernel)
theorem dX12_burn_99 : decode cX12_burn 99 = .ok (.iload_n 3, 1) := od_29  (by decide +kernel)
theorem dX12_burn_100 : decode cX12_burn 100 = .ok (.isub, 1) := od_100  (by decide +kernel)
theorem dX12_burn_101 : decode cX12_burn 101 = .ok (.iastore, 1) := od_79  (by decide +kernel)
theorem dX12_burn_102 : decode cX12_burn 102 = .ok (.aload_n 0, 1) := od_42  (by decide +kernel)
theorem dX12_burn_103 : decode cX12_burn 103 = .ok (.iload_n 1, 1) := od_27  (by decide +kernel)
theorem dX12_burn_104 : decode cX12_burn 104 = .ok (.iload 4, 2) := od_21 (n := 4) (by decide +kernel)
theorem dX12_burn_106 : decode cX12_burn 106 = .ok (.invokevirtual 179, 3) := od_182 (a := 0) (b := 179) (by decide +kernel) (by decide)
theorem dX12_burn_109 : decode cX12_burn 109 = .ok (.aload_n 0, 1) := od_42  (by decide +kernel)
theorem dX12_burn_110 : decode cX12_burn 110 = .ok (.getfield 7, 3) := od_180 (a := 0) (b := 7) (by decide +kernel) (by decide)
theorem dX12_burn_113 : decode cX12_burn 113 = .ok (.iload_n 1, 1) := od_27  (by decide +kernel)
theorem dX12_burn_114 : decode cX12_burn 114 = .ok (.bipush 12, 2) := od_16 (a := 12) (by decide +kernel) (by decide +kernel)
theorem dX12_burn_116 : decode cX12_burn 116 = .ok (.iadd, 1) := od_96  (by decide +kernel)
theorem dX12_burn_117 : decode cX12_burn 117 = .ok (.iconst 1, 1) := od_4  (by decide +kernel)
theorem dX12_burn_118 : decode cX12_burn 118 = .ok (.iadd, 1) := od_96  (by decide +kernel)
theorem dX12_burn_119 : decode cX12_burn 119 = .ok (.dup2, 1) := od_92  (by decide +kernel)
theorem dX12_burn_120 : decode cX12_burn 120 = .ok (.iaload, 1) := od_46  (by decide +kernel)
theorem dX12_burn_121 : decode cX12_burn 121 = .ok (.iload_n 3, 1) := od_29  (by decide +kernel)
theorem dX12_burn_122 : decode cX12_burn 122 = .ok (.iload 4, 2) := od_21 (n := 4) (by decide +kernel)
theorem dX12_burn_124 : decode cX12_burn 124 = .ok (.iadd, 1) := od_96  (by decide +kernel)
theorem dX12_burn_125 : decode cX12_burn 125 = .ok (.iadd, 1) := od_96  (by decide +kernel)
theorem dX12_burn_126 : decode cX12_burn 126 = .ok (.iastore, 1) := od_79  (by decide +kernel)
theorem dX12_burn_127 : decode cX12_burn 127 = .ok (.aload_n 0, 1) := od_42  (by decide +kernel)
theorem dX12_burn_128 : decode cX12_burn 128 = .ok (.getfield 7, 3) := od_180 (a := 0) (b := 7) (by decide +kernel) (by decide)
theorem dX12_burn_131 : decode cX12_burn 131 = .ok (.iload_n 1, 1) := od_27  (by decide +kernel)
theorem dX12_burn_132 : decode cX12_burn 132 = .ok (.bipush 9, 2) := od_16 (a := 9) (by decide +kernel) (by decide +kernel)
theorem dX12_burn_134 : decode cX12_burn 134 = .ok (.iadd, 1) := od_96  (by decide +kernel)
theorem dX12_burn_135 : decode cX12_burn 135 = .ok (.iload_n 3, 1) := od_29  (by decide +kernel)
theorem dX12_burn_136 : decode cX12_burn 136 = .ok (.iload 4, 2) := od_21 (n := 4) (by decide +kernel)
theorem dX12_burn_138 : decode cX12_burn 138 = .ok (.iadd, 1) := od_96  (by decide +kernel)
theorem dX12_burn_139 : decode cX12_burn 139 = .ok (.iload_n 2, 1) := od_28  (by decide +kernel)
theorem dX12_burn_140 : decode cX12_burn 140 = .ok (.if_icmp .ge 7, 3) := od_162 (a := 0) (b := 7) (by decide +kernel) (by decide +kernel)
theorem dX12_burn_143 : decode cX12_burn 143 = .ok (.iconst 1, 1) := od_4  (by decide +kernel)
theorem dX12_burn_144 : decode cX12_burn 144 = .ok (.goto 4, 3) := od_167 (a := 0) (b := 4) (by decide +kernel) (by decide +kernel)
theorem dX12_burn_147 : decode cX12_burn 147 = .ok (.iconst 0, 1) := od_3  (by decide +kernel)
theorem dX12_burn_148 : decode cX12_burn 148 = .ok (.iastore, 1) := od_79  (by decide +kernel)
theorem dX12_burn_149 : decode cX12_burn 149 = .ok (.return_, 1) := od_177  (by decide +kernel)
theorem gX12_endOrder_X12_beginOrder : GoodIn WALL (wsV RX12 154 RX12 yX12_beginOrder wqX12_beginOrder) := wg_V wa_392 wa_393 wa_394 wa_5 wa_395
theorem dX12_endOrder_0 : decode cX12_endOrder 0 = .ok (.iconst 2, 1) := od_5  (by decide +kernel)
theorem dX12_endOrder_1 : decode cX12_endOrder 1 = .ok (.istore_n 2, 1) := od_61  (by decide +kernel)
theorem dX12_endOrder_2 : decode cX12_endOrder 2 = .ok (.iload_n 2, 1) := od_28  (by decide +kernel)
theorem dX12_endOrder_3 : decode cX12_endOrder 3 = .ok (.iconst 2, 1) := od_5  (by decide +kernel)
theorem dX12_endOrder_4 : decode cX12_endOrder 4 = .ok (.aload_n 0, 1) := od_42  (by decide +kernel)
theorem dX12_endOrder_5 : decode cX12_endOrder 5 = .ok (.getfield 7, 3) := od_180 (a := 0) (b := 7) (by decide +kernel) (by decide)
theorem dX12_endOrder_8 : decode cX12_endOrder 8 = .ok (.iload_n 1, 1) := od_27  (by decide +kernel)
theorem dX12_endOrder_9 : decode cX12_endOrder 9 = .ok (.bipush 10, 2) := od_16 (a := 10) (by decide +kernel) (by decide +kernel)
theorem dX12_endOrder_11 : decode cX12_endOrder 11 = .ok (.iadd, 1) := od_96  (by decide +kernel)
theorem dX12_endOrder_12 : decode cX12_endOrder 12 = .ok (.iaload, 1) := od_46  (by decide +kernel)
theorem dX12_endOrder_13 : decode cX12_endOrder 13 = .ok (.imul, 1) := od_104  (by decide +kernel)
theorem dX12_endOrder_14 : decode cX12_endOrder 14 = .ok (.if_icmp .ge 33, 3) := od_162 (a := 0) (b := 33) (by decide +kernel) (by decide +kernel)
theorem dX12_endOrder_17 : decode cX12_endOrder 17 = .ok (.aload_n 0, 1) := od_42  (by decide +kernel)
theorem dX12_endOrder_18 : decode cX12_endOrder 18 = .ok (.getfield 7, 3) := od_180 (a := 0) (b := 7) (by decide +kernel) (by decide)
theorem dX12_endOrder_21 : decode cX12_endOrder 21 = .ok (.iload_n 1, 1) := od_27  (by decide +kernel)
theorem dX12_endOrder_22 : decode cX12_endOrder 22 = .ok (.bipush 44, 2) := od_16 (a := 44) (by decide +kernel) (by decide +kernel)
theorem dX12_endOrder_24 : decode cX12_endOrder 24 = .ok (.iadd, 1) := od_96  (by decide +kernel)
theorem dX12_endOrder_25 : decode cX12_endOrder 25 = .ok (.iload_n 2, 1) := od_28  (by decide +kernel)
theorem dX12_endOrder_26 : decode cX12_endOrder 26 = .ok (.iadd, 1) := od_96  (by decide +kernel)
theorem dX12_endOrder_27 : decode cX12_endOrder 27 = .ok (.iconst 2, 1) := od_5  (by decide +kernel)
theorem dX12_endOrder_28 : decode cX12_endOrder 28 = .ok (.isub, 1) := od_100  (by decide +kernel)
theorem dX12_endOrder_29 : decode cX12_endOrder 29 = .ok (.aload_n 0, 1) := od_42  (by decide +kernel)
theorem dX12_endOrder_30 : decode cX12_endOrder 30 = .ok (.getfield 7, 3) := od_180 (a := 0) (b := 7) (by decide +kernel) (by decide)
theorem dX12_endOrder_33 : decode cX12_endOrder 33 = .ok (.iload_n 1, 1) := od_27  (by decide +kernel)
theorem dX12_endOrder_34 : decode cX12_endOrder 34 = .ok (.bipush 44, 2) := od_16 (a := 44) (by decide +kernel) (by decide +kernel)
theorem dX12_endOrder_36 : decode cX12_endOrder 36 = .ok (.iadd, 1) := od_96  (by decide +kernel)
theorem dX12_endOrder_37 : decode cX12_endOrder 37 = .ok (.iload_n 2, 1) := od_28  (by decide +kernel)
theorem dX12_endOrder_38 : decode cX12_endOrder 38 = .ok (.iadd, 1) := od_96  (by decide +kernel)
theorem dX12_endOrder_39 : decode cX12_endOrder 39 = .ok (.iaload, 1) := od_46  (by decide +kernel)
theorem dX12_endOrder_40 : decode cX12_endOrder 40 = .ok (.iastore, 1) := od_79  (by decide +kernel)
theorem dX12_endOrder_41 : decode cX12_endOrder 41 = .ok (.iinc 2 1, 3) := od_132 (a := 2) (b := 1) (by decide +kernel) (by decide +kernel)
theorem dX12_endOrder_44 : decode cX12_endOrder 44 = .ok (.goto (-42), 3) := od_167 (a := 255) (b := 214) (by decide +kernel) (by decide +kernel)
theorem dX12_endOrder_47 : decode cX12_endOrder 47 = .ok (.aload_n 0, 1) := od_42  (by decide +kernel)
theorem dX12_endOrder_48 : decode cX12_endOrder 48 = .ok (.getfield 7, 3) := od_180 (a := 0) (b := 7) (by decide +kernel) (by decide)
theorem dX12_endOrder_51 : decode cX12_endOrder 51 = .ok (.iload_n 1, 1) := od_27  (by decide +kernel)
theorem dX12_endOrder_52 : decode cX12_endOrder 52 = .ok (.bipush 10, 2) := od_16 (a := 10) (by decide +kernel) (by decide +kernel)
theorem dX12_endOrder_54 : decode cX12_endOrder 54 = .ok (.iadd, 1) := od_96  (by decide +kernel)
theorem dX12_endOrder_55 : decode cX12_endOrder 55 = .ok (.dup2, 1) := od_92  (by decide +kernel)
theorem dX12_endOrder_56 : decode cX12_endOrder 56 = .ok (.iaload, 1) := od_46  (by decide +kernel)
theorem dX12_endOrder_57 : decode cX12_endOrder 57 = .ok (.iconst 1, 1) := od_4  (by decide +kernel)
theorem dX12_endOrder_58 : decode cX12_endOrder 58 = .ok (.isub, 1) := od_100  (by decide +kernel)
theorem dX12_endOrder_59 : decode cX12_endOrder 59 = .ok (.iastore, 1) := od_79  (by decide +kernel)
theorem dX12_endOrder_60 : decode cX12_endOrder 60 = .ok (.aload_n 0, 1) := od_42  (by decide +kernel)
theorem dX12_endOrder_61 : decode cX12_endOrder 61 = .ok (.iload_n 1, 1) := od_27  (by decide +kernel)
theorem dX12_endOrder_62 : decode cX12_endOrder 62 = .ok (.invokevirtual 154, 3) := od_182 (a := 0) (b := 154) (by decide +kernel) (by decide)
theorem dX12_endOrder_65 : decode cX12_endOrder 65 = .ok (.return_, 1) := od_177  (by decide +kernel)
theorem gX12_doOrder_X12_sail : GoodIn WALL (wsV RX12 192 RX12 yX12_sail wqX12_sail) := wg_V wa_570 wa_571 wa_572 wa_5 wa_573
theorem gX12_doOrder_X12_endOrder : GoodIn WALL (wsV RX12 195 RX12 yX12_endOrder wqX12_endOrder) := wg_V wa_574 wa_575 wa_576 wa_5 wa_577
theorem gX12_doOrder_X12_mayGo : GoodIn WALL (wsV RX12 198 RX12 yX12_mayGo wqX12_mayGo) := wg_V wa_582 wa_583 wa_584 wa_5 wa_585
theorem gX12_doOrder_X12_toLoad : GoodIn WALL (wsV RX12 202 RX12 yX12_toLoad wqX12_toLoad) := wg_V wa_595 wa_596 wa_597 wa_5 wa_598
theorem gX12_doOrder_X12_toLand : GoodIn WALL (wsV RX12 205 RX12 yX12_toLand wqX12_toLand) := wg_V wa_607 wa_608 wa_609 wa_5 wa_610
theorem gX12_doOrder_X12_load : GoodIn WALL (wsV RX12 208 RX12 yX12_load wqX12_load) := wg_V wa_611 wa_612 wa_613 wa_5 wa_614
theorem gX12_doOrder_X12_land : GoodIn WALL (wsV RX12 211 RX12 yX12_land wqX12_land) := wg_V wa_615 wa_616 wa_617 wa_5 wa_618
theorem gX12_doOrder_X12_endLanding : GoodIn WALL (wsV RX12 214 RX12 yX12_endLanding wqX12_endLanding) := wg_V wa_619 wa_620 wa_621 wa_5 wa_622
theorem dX12_doOrder_0 : decode cX12_doOrder 0 = .ok (.aload_n 0, 1) := od_42  (by decide +kernel)
theorem dX12_doOrder_1 : decode cX12_doOrder 1 = .ok (.getfield 7, 3) := od_180 (a := 0) (b := 7) (by decide +kernel) (by decide)
theorem dX12_doOrder_4 : decode cX12_doOrder 4 = .ok (.iload_n 2, 1) := od_28  (by decide +kernel)
theorem dX12_doOrder_5 : decode cX12_doOrder 5 = .ok (.bipush 44, 2) := od_16 (a := 44) (by decide +kernel) (by decide +kernel)
theorem dX12_doOrder_7 : decode cX12_doOrder 7 = .ok (.iadd, 1) := od_96  (by decide +kernel)
theorem dX12_doOrder_8 : decode cX12_doOrder 8 = .ok (.iaload, 1) := od_46  (by decide +kernel)
theorem dX12_doOrder_9 : decode cX12_doOrder 9 = .ok (.istore 4, 2) := od_54 (n := 4) (by decide +kernel)
theorem dX12_doOrder_11 : decode cX12_doOrder 11 = .ok (.aload_n 0, 1) := od_42  (by decide +kernel)
theorem dX12_doOrder_12 : decode cX12_doOrder 12 = .ok (.getfield 7, 3) := od_180 (a := 0) (b := 7) (by decide +kernel) (by decide)
theorem dX12_doOrder_15 : decode cX12_doOrder 15 = .ok (.iload_n 2, 1) := od_28  (by decide +kernel)
theorem dX12_doOrder_16 : decode cX12_doOrder 16 = .ok (.bipush 44, 2) := od_16 (a := 44) (by decide +kernel) (by decide +kernel)
theorem dX12_doOrder_18 : decode cX12_doOrder 18 = .ok (.iadd, 1) := od_96  (by decide +kernel)
theorem dX12_doOrder_19 : decode cX12_doOrder 19 = .ok (.iconst 1, 1) := od_4  (by decide +kernel)
theorem dX12_doOrder_20 : decode cX12_doOrder 20 = .ok (.iadd, 1) := od_96  (by decide +kernel)
theorem dX12_doOrder_21 : decode cX12_doOrder 21 = .ok (.iaload, 1) := od_46  (by decide +kernel)
theorem dX12_doOrder_22 : decode cX12_doOrder 22 = .ok (.istore 5, 2) := od_54 (n := 5) (by decide +kernel)
theorem dX12_doOrder_24 : decode cX12_doOrder 24 = .ok (.iload 4, 2) := od_21 (n := 4) (by decide +kernel)
theorem dX12_doOrder_26 : decode cX12_doOrder 26 = .ok (.ifCond .ne 14, 3) := od_154 (a := 0) (b := 14) (by decide +kernel) (by decide +kernel)
theorem dX12_doOrder_29 : decode cX12_doOrder 29 = .ok (.aload_n 0, 1) := od_42  (by decide +kernel)
theorem dX12_doOrder_30 : decode cX12_doOrder 30 = .ok (.iload_n 2, 1) := od_28  (by decide +kernel)
theorem dX12_doOrder_31 : decode cX12_doOrder 31 = .ok (.iload_n 3, 1) := od_29  (by decide +kernel)
theorem dX12_doOrder_32 : decode cX12_doOrder 32 = .ok (.iload 5, 2) := od_21 (n := 5) (by decide +kernel)
theorem dX12_doOrder_34 : decode cX12_doOrder 34 = .ok (.invokevirtual 192, 3) := od_182 (a := 0) (b := 192) (by decide +kernel) (by decide)
theorem dX12_doOrder_37 : decode cX12_doOrder 37 = .ok (.goto 131, 3) := od_167 (a := 0) (b := 131) (by decide +kernel) (by decide +kernel)
theorem dX12_doOrder_40 : decode cX12_doOrder 40 = .ok (.iload 4, 2) := od_21 (n := 4) (by decide +kernel)
theorem dX12_doOrder_42 : decode cX12_doOrder 42 = .ok (.iconst 3, 1) := od_6  (by decide +kernel)
theorem dX12_doOrder_43 : decode cX12_doOrder 43 = .ok (.if_icmp .ne 17, 3) := od_160 (a := 0) (b := 17) (by decide +kernel) (by decide +kernel)
theorem dX12_doOrder_46 : decode cX12_doOrder 46 = .ok (.iload_n 3, 1) := od_29  (by decide +kernel)
theorem dX12_doOrder_47 : decode cX12_doOrder 47 = .ok (.iload 5, 2) := od_21 (n := 5) (by decide +kernel)
theorem dX12_doOrder_49 : decode cX12_doOrder 49 = .ok (.if_icmp .lt 119, 3) := od_161 (a := 0) (b := 119) (by decide +kernel) (by decide +kernel)
theorem dX12_doOrder_52 : decode cX12_doOrder 52 = .ok (.aload_n 0, 1) := od_42  (by decide +kernel)
theorem dX12_doOrder_53 : decode cX12_doOrder 53 = .ok (.iload_n 2, 1) := od_28  (by decide +kernel)
theorem dX12_doOrder_54 : decode cX12_doOrder 54 = .ok (.invokevirtual 195, 3) := od_182 (a := 0) (b := 195) (by decide +kernel) (by decide)
theorem dX12_doOrder_57 : decode cX12_doOrder 57 = .ok (.goto 111, 3) := od_167 (a := 0) (b := 111) (by decide +kernel) (by decide +kernel)
theorem dX12_doOrder_60 : decode cX12_doOrder 60 = .ok (.aload_n 0, 1) := od_42  (by decide +kernel)
theorem dX12_doOrder_61 : decode cX12_doOrder 61 = .ok (.iload_n 1, 1) := od_27  (by decide +kernel)
theorem dX12_doOrder_62 : decode cX12_doOrder 62 = .ok (.iload_n 2, 1) := od_28  (by decide +kernel)
theorem dX12_doOrder_63 : decode cX12_doOrder 63 = .ok (.iload_n 3, 1) := od_29  (by decide +kernel)
theorem dX12_doOrder_64 : decode cX12_doOrder 64 = .ok (.invokevirtual 198, 3) := od_182 (a := 0) (b := 198) (by decide +kernel) (by decide)
theorem dX12_doOrder_67 : decode cX12_doOrder 67 = .ok (.ifCond .eq 101, 3) := od_153 (a := 0) (b := 101) (by decide +kernel) (by decide +kernel)
theorem dX12_doOrder_70 : decode cX12_doOrder 70 = .ok (.iload 4, 2) := od_21 (n := 4) (by decide +kernel)
theorem dX12_doOrder_72 : decode cX12_doOrder 72 = .ok (.iconst 1, 1) := od_4  (by decide +kernel)
theorem dX12_doOrder_73 : decode cX12_doOrder 73 = .ok (.if_icmp .ne 11, 3) := od_160 (a := 0) (b := 11) (by decide +kernel) (by decide +kernel)
theorem dX12_doOrder_76 : decode cX12_doOrder 76 = .ok (.aload_n 0, 1) := od_42  (by decide +kernel)
theorem dX12_doOrder_77 : decode cX12_doOrder 77 = .ok (.iload_n 2, 1) := od_28  (by decide +kernel)
theorem dX12_doOrder_78 : decode cX12_doOrder 78 = .ok (.invokevirtual 202, 3) := od_182 (a := 0) (b := 202) (by decide +kernel) (by decide)
theorem dX12_doOrder_81 : decode cX12_doOrder 81 = .ok (.goto 8, 3) := od_167 (a := 0) (b := 8) (by decide +kernel) (by decide +kernel)
theorem dX12_doOrder_84 : decode cX12_doOrder 84 = .ok (.aload_n 0, 1) := od_42  (by decide +kernel)
theorem dX12_doOrder_85 : decode cX12_doOrder 85 = .ok (.iload_n 2, 1) := od_28  (by decide +kernel)
theorem dX12_doOrder_86 : decode cX12_doOrder 86 = .ok (.invokevirtual 205, 3) := od_182 (a := 0) (b := 205) (by decide +kernel) (by decide)
theorem dX12_doOrder_89 : decode cX12_doOrder 89 = .ok (.istore 6, 2) := od_54 (n := 6) (by decide +kernel)
theorem dX12_doOrder_91 : decode cX12_doOrder 91 = .ok (.iload 6, 2) := od_21 (n := 6) (by decide +kernel)
theorem dX12_doOrder_93 : decode cX12_doOrder 93 = .ok (.ifCond .le 41, 3) := od_158 (a := 0) (b := 41) (by decide +kernel) (by decide +kernel)
theorem dX12_doOrder_96 : decode cX12_doOrder 96 = .ok (.iload 4, 2) := od_21 (n := 4) (by decide +kernel)
theorem dX12_doOrder_98 : decode cX12_doOrder 98 = .ok (.iconst 1, 1) := od_4  (by decide +kernel)
theorem dX12_doOrder_99 : decode cX12_doOrder 99 = .ok (.if_icmp .ne 13, 3) := od_160 (a := 0) (b := 13) (by decide +kernel) (by decide +kernel)
theorem dX12_doOrder_102 : decode cX12_doOrder 102 = .ok (.aload_n 0, 1) := od_42  (by decide +kernel)
theorem dX12_doOrder_103 : decode cX12_doOrder 103 = .ok (.iload_n 2, 1) := od_28  (by decide +kernel)
theorem dX12_doOrder_104 : decode cX12_doOrder 104 = .ok (.iload 6, 2) := od_21 (n := 6) (by decide +kernel)
theorem dX12_doOrder_106 : decode cX12_doOrder 106 = .ok (.invokevirtual 208, 3) := od_182 (a := 0) (b := 208) (by decide +kernel) (by decide)
theorem dX12_doOrder_109 : decode cX12_doOrder 109 = .ok (.goto 11, 3) := od_167 (a := 0) (b := 11) (by decide +kernel) (by decide +kernel)
theorem dX12_doOrder_112 : decode cX12_doOrder 112 = .ok (.aload_n 0, 1) := od_42  (by decide +kernel)
theorem dX12_doOrder_113 : decode cX12_doOrder 113 = .ok (.iload_n 2, 1) := od_28  (by decide +kernel)
theorem dX12_doOrder_114 : decode cX12_doOrder 114 = .ok (.iload 6, 2) := od_21 (n := 6) (by decide +kernel)
theorem dX12_doOrder_116 : decode cX12_doOrder 116 = .ok (.iload_n 3, 1) := od_29  (by decide +kernel)
theorem dX12_doOrder_117 : decode cX12_doOrder 117 = .ok (.invokevirtual 211, 3) := od_182 (a := 0) (b := 211) (by decide +kernel) (by decide)
theorem dX12_doOrder_120 : decode cX12_doOrder 120 = .ok (.aload_n 0, 1) := od_42  (by decide +kernel)
theorem dX12_doOrder_121 : decode cX12_doOrder 121 = .ok (.getfield 7, 3) := od_180 (a := 0) (b := 7) (by decide +kernel) (by decide)
theorem dX12_doOrder_124 : decode cX12_doOrder 124 = .ok (.iload_n 2, 1) := od_28  (by decide +kernel)
theorem dX12_doOrder_125 : decode cX12_doOrder 125 = .ok (.bipush 11, 2) := od_16 (a := 11) (by decide +kernel) (by decide +kernel)
theorem dX12_doOrder_127 : decode cX12_doOrder 127 = .ok (.iadd, 1) := od_96  (by decide +kernel)
theorem dX12_doOrder_128 : decode cX12_doOrder 128 = .ok (.dup2, 1) := od_92  (by decide +kernel)
theorem dX12_doOrder_129 : decode cX12_doOrder 129 = .ok (.iaload, 1) := od_46  (by decide +kernel)
theorem dX12_doOrder_130 : decode cX12_doOrder 130 = .ok (.iload 6, 2) := od_21 (n := 6) (by decide +kernel)
theorem dX12_doOrder_132 : decode cX12_doOrder 132 = .ok (.isub, 1) := od_100  (by decide +kernel)
theorem dX12_doOrder_133 : decode cX12_doOrder 133 = .ok (.iastore, 1) := od_79  (by decide +kernel)
theorem dX12_doOrder_134 : decode cX12_doOrder 134 = .ok (.iload 6, 2) := od_21 (n := 6) (by decide +kernel)
theorem dX12_doOrder_136 : decode cX12_doOrder 136 = .ok (.ifCond .le 15, 3) := od_158 (a := 0) (b := 15) (by decide +kernel) (by decide +kernel)
theorem dX12_doOrder_139 : decode cX12_doOrder 139 = .ok (.aload_n 0, 1) := od_42  (by decide +kernel)
theorem dX12_doOrder_140 : decode cX12_doOrder 140 = .ok (.getfield 7, 3) := od_180 (a := 0) (b := 7) (by decide +kernel) (by decide)
theorem dX12_doOrder_143 : decode cX12_doOrder 143 = .ok (.iload_n 2, 1) := od_28  (by decide +kernel)
theorem dX12_doOrder_144 : decode cX12_doOrder 144 = .ok (.bipush 11, 2) := od_16 (a := 11) (by decide +kernel) (by decide +kernel)
theorem dX12_doOrder_146 : decode cX12_doOrder 146 = .ok (.iadd, 1) := od_96  (by decide +kernel)
theorem dX12_doOrder_147 : decode cX12_doOrder 147 = .ok (.iaload, 1) := od_46  (by decide +kernel)
theorem dX12_doOrder_148 : decode cX12_doOrder 148 = .ok (.ifCond .ne 20, 3) := od_154 (a := 0) (b := 20) (by decide +kernel) (by decide +kernel)
theorem dX12_doOrder_151 : decode cX12_doOrder 151 = .ok (.iload 4, 2) := od_21 (n := 4) (by decide +kernel)
theorem dX12_doOrder_153 : decode cX12_doOrder 153 = .ok (.iconst 2, 1) := od_5  (by decide +kernel)
theorem dX12_doOrder_154 : decode cX12_doOrder 154 = .ok (.if_icmp .ne 9, 3) := od_160 (a := 0) (b := 9) (by decide +kernel) (by decide +kernel)
theorem dX12_doOrder_157 : decode cX12_doOrder 157 = .ok (.aload_n 0, 1) := od_42  (by decide +kernel)
theorem dX12_doOrder_158 : decode cX12_doOrder 158 = .ok (.iload_n 1, 1) := od_27  (by decide +kernel)
theorem dX12_doOrder_159 : decode cX12_doOrder 159 = .ok (.iload_n 2, 1) := od_28  (by decide +kernel)
theorem dX12_doOrder_160 : decode cX12_doOrder 160 = .ok (.invokevirtual 214, 3) := od_182 (a := 0) (b := 214) (by decide +kernel) (by decide)
theorem dX12_doOrder_163 : decode cX12_doOrder 163 = .ok (.aload_n 0, 1) := od_42  (by decide +kernel)
theorem dX12_doOrder_164 : decode cX12_doOrder 164 = .ok (.iload_n 2, 1) := od_28  (by decide +kernel)
theorem dX12_doOrder_165 : decode cX12_doOrder 165 = .ok (.invokevirtual 195, 3) := od_182 (a := 0) (b := 195) (by decide +kernel) (by decide)
theorem dX12_doOrder_168 : decode cX12_doOrder 168 = .ok (.return_, 1) := od_177  (by decide +kernel)
theorem gX12_sail_X12_endOrder : GoodIn WALL (wsV RX12 195 RX12 yX12_endOrder wqX12_endOrder) := wg_V wa_574 wa_575 wa_576 wa_5 wa_577
theorem gX12_sail_X12_wayOf : GoodIn WALL (wsV RX12 217 RX12 yX12_wayOf wqX12_wayOf) := wg_V wa_578 wa_579 wa_580 wa_5 wa_581
theorem dX12_sail_0 : decode cX12_sail 0 = .ok (.aload_n 0, 1) := od_42  (by decide +kernel)
theorem dX12_sail_1 : decode cX12_sail 1 = .ok (.getfield 7, 3) := od_180 (a := 0) (b := 7) (by decide +kernel) (by decide)
theorem dX12_sail_4 : decode cX12_sail 4 = .ok (.iload_n 1, 1) := od_27  (by decide +kernel)
theorem dX12_sail_5 : decode cX12_sail 5 = .ok (.iconst 1, 1) := od_4  (by decide +kernel)
theorem dX12_sail_6 : decode cX12_sail 6 = .ok (.iadd, 1) := od_96  (by decide +kernel)
theorem dX12_sail_7 : decode cX12_sail 7 = .ok (.iaload, 1) := od_46  (by decide +kernel)
theorem dX12_sail_8 : decode cX12_sail 8 = .ok (.ifCond .ne 104, 3) := od_154 (a := 0) (b := 104) (by decide +kernel) (by decide +kernel)
theorem dX12_sail_11 : decode cX12_sail 11 = .ok (.aload_n 0, 1) := od_42  (by decide +kernel)
theorem dX12_sail_12 : decode cX12_sail 12 = .ok (.getfield 7, 3) := od_180 (a := 0) (b := 7) (by decide +kernel) (by decide)
theorem dX12_sail_15 : decode cX12_sail 15 = .ok (.iload_n 1, 1) := od_27  (by decide +kernel)
theorem dX12_sail_16 : decode cX12_sail 16 = .ok (.iconst 0, 1) := od_3  (by decide +kernel)
theorem dX12_sail_17 : decode cX12_sail 17 = .ok (.iadd, 1) := od_96  (by decide +kernel)
theorem dX12_sail_18 : decode cX12_sail 18 = .ok (.iaload, 1) := od_46  (by decide +kernel)
theorem dX12_sail_19 : decode cX12_sail 19 = .ok (.iload_n 3, 1) := od_29  (by decide +kernel)
theorem dX12_sail_20 : decode cX12_sail 20 = .ok (.if_icmp .ne 9, 3) := od_160 (a := 0) (b := 9) (by decide +kernel) (by decide +kernel)
theorem dX12_sail_23 : decode cX12_sail 23 = .ok (.aload_n 0, 1) := od_42  (by decide +kernel)
theorem dX12_sail_24 : decode cX12_sail 24 = .ok (.iload_n 1, 1) := od_27  (by decide +kernel)
theorem dX12_sail_25 : decode cX12_sail 25 = .ok (.invokevirtual 195, 3) := od_182 (a := 0) (b := 195) (by decide +kernel) (by decide)
theorem dX12_sail_28 : decode cX12_sail 28 = .ok (.return_, 1) := od_177  (by decide +kernel)
theorem dX12_sail_29 : decode cX12_sail 29 = .ok (.aload_n 0, 1) := od_42  (by decide +kernel)
theorem dX12_sail_30 : decode cX12_sail 30 = .ok (.aload_n 0, 1) := od_42  (by decide +kernel)
theorem dX12_sail_31 : decode cX12_sail 31 = .ok (.getfield 7, 3) := od_180 (a := 0) (b := 7) (by decide +kernel) (by decide)
theorem dX12_sail_34 : decode cX12_sail 34 = .ok (.iload_n 1, 1) := od_27  (by decide +kernel)
theorem dX12_sail_35 : decode cX12_sail 35 = .ok (.iconst 0, 1) := od_3  (by decide +kernel)
theorem dX12_sail_36 : decode cX12_sail 36 = .ok (.iadd, 1) := od_96  (by decide +kernel)
theorem dX12_sail_37 : decode cX12_sail 37 = .ok (.iaload, 1) := od_46  (by decide +kernel)
theorem dX12_sail_38 : decode cX12_sail 38 = .ok (.iload_n 3, 1) := od_29  (by decide +kernel)
theorem dX12_sail_39 : decode cX12_sail 39 = .ok (.invokevirtual 217, 3) := od_182 (a := 0) (b := 217) (by decide +kernel) (by decide)
theorem dX12_sail_42 : decode cX12_sail 42 = .ok (.istore 4, 2) := od_54 (n := 4) (by decide +kernel)
theorem dX12_sail_44 : decode cX12_sail 44 = .ok (.iload 4, 2) := od_21 (n := 4) (by decide +kernel)
theorem dX12_sail_46 : decode cX12_sail 46 = .ok (.ifCond .ne 4, 3) := od_154 (a := 0) (b := 4) (by decide +kernel) (by decide +kernel)
theorem dX12_sail_49 : decode cX12_sail 49 = .ok (.return_, 1) := od_177  (by decide +kernel)
theorem dX12_sail_50 : decode cX12_sail 50 = .ok (.aload_n 0, 1) := od_42  (by decide +kernel)
theorem dX12_sail_51 : decode cX12_sail 51 = .ok (.getfield 7, 3) := od_180 (a := 0) (b := 7) (by decide +kernel) (by decide)
theorem dX12_sail_54 : decode cX12_sail 54 = .ok (.iload_n 1, 1) := od_27  (by decide +kernel)
theorem dX12_sail_55 : decode cX12_sail 55 = .ok (.iconst 3, 1) := od_6  (by decide +kernel)
theorem dX12_sail_56 : decode cX12_sail 56 = .ok (.iadd, 1) := od_96  (by decide +kernel)
theorem dX12_sail_57 : decode cX12_sail 57 = .ok (.aload_n 0, 1) := od_42  (by decide +kernel)
theorem dX12_sail_58 : decode cX12_sail 58 = .ok (.getfield 7, 3) := od_180 (a := 0) (b := 7) (by decide +kernel) (by decide)
theorem dX12_sail_61 : decode cX12_sail 61 = .ok (.bipush 50, 2) := od_16 (a := 50) (by decide +kernel) (by decide +kernel)
theorem dX12_sail_63 : decode cX12_sail 63 = .ok (.iconst 2, 1) := od_5  (by decide +kernel)
theorem dX12_sail_64 : decode cX12_sail 64 = .ok (.bipush 6, 2) := od_16 (a := 6) (by decide +kernel) (by decide +kernel)
theorem dX12_sail_66 : decode cX12_sail 66 = .ok (.aload_n 0, 1) := od_42  (by decide +kernel)
theorem dX12_sail_67 : decode cX12_sail 67 = .ok (.getfield 7, 3) := od_180 (a := 0) (b := 7) (by decide +kernel) (by decide)
theorem dX12_sail_70 : decode cX12_sail 70 = .ok (.iload_n 1, 1) := od_27  (by decide +kernel)
theorem dX12_sail_71 : decode cX12_sail 71 = .ok (.iconst 0, 1) := od_3  (by decide +kernel)
theorem dX12_sail_72 : decode cX12_sail 72 = .ok (.iadd, 1) := od_96  (by decide +kernel)
theorem dX12_sail_73 : decode cX12_sail 73 = .ok (.iaload, 1) := od_46  (by decide +kernel)
theorem dX12_sail_74 : decode cX12_sail 74 = .ok (.imul, 1) := od_104  (by decide +kernel)
theorem dX12_sail_75 : decode cX12_sail 75 = .ok (.iload_n 3, 1) := od_29  (by decide +kernel)
theorem dX12_sail_76 : decode cX12_sail 76 = .ok (.iadd, 1) := od_96  (by decide +kernel)
theorem dX12_sail_77 : decode cX12_sail 77 = .ok (.imul, 1) := od_104  (by decide +kernel)
theorem dX12_sail_78 : decode cX12_sail 78 = .ok (.iadd, 1) := od_96  (by decide +kernel)
theorem dX12_sail_79 : decode cX12_sail 79 = .ok (.iconst 1, 1) := od_4  (by decide +kernel)
theorem dX12_sail_80 : decode cX12_sail 80 = .ok (.iadd, 1) := od_96  (by decide +kernel)
theorem dX12_sail_81 : decode cX12_sail 81 = .ok (.iaload, 1) := od_46  (by decide +kernel)
theorem dX12_sail_82 : decode cX12_sail 82 = .ok (.iastore, 1) := od_79  (by decide +kernel)
theorem dX12_sail_83 : decode cX12_sail 83 = .ok (.aload_n 0, 1) := od_42  (by decide +kernel)
theorem dX12_sail_84 : decode cX12_sail 84 = .ok (.getfield 7, 3) := od_180 (a := 0) (b := 7) (by decide +kernel) (by decide)
theorem dX12_sail_87 : decode cX12_sail 87 = .ok (.iload_n 1, 1) := od_27  (by decide +kernel)
theorem dX12_sail_88 : decode cX12_sail 88 = .ok (.iconst 1, 1) := od_4  (by decide +kernel)
theorem dX12_sail_89 : decode cX12_sail 89 = .ok (.iadd, 1) := od_96  (by decide +kernel)
theorem dX12_sail_90 : decode cX12_sail 90 = .ok (.iload 4, 2) := od_21 (n := 4) (by decide +kernel)
theorem dX12_sail_92 : decode cX12_sail 92 = .ok (.iastore, 1) := od_79  (by decide +kernel)
theorem dX12_sail_93 : decode cX12_sail 93 = .ok (.aload_n 0, 1) := od_42  (by decide +kernel)
theorem dX12_sail_94 : decode cX12_sail 94 = .ok (.getfield 7, 3) := od_180 (a := 0) (b := 7) (by decide +kernel) (by decide)
theorem dX12_sail_97 : decode cX12_sail 97 = .ok (.iload_n 1, 1) := od_27  (by decide +kernel)
theorem dX12_sail_98 : decode cX12_sail 98 = .ok (.iconst 2, 1) := od_5  (by decide +kernel)
theorem dX12_sail_99 : decode cX12_sail 99 = .ok (.iadd, 1) := od_96  (by decide +kernel)
theorem dX12_sail_100 : decode cX12_sail 100 = .ok (.iload 4, 2) := od_21 (n := 4) (by decide +kernel)
theorem dX12_sail_102 : decode cX12_sail 102 = .ok (.iastore, 1) := od_79  (by decide +kernel)
theorem dX12_sail_103 : decode cX12_sail 103 = .ok (.aload_n 0, 1) := od_42  (by decide +kernel)
theorem dX12_sail_104 : decode cX12_sail 104 = .ok (.getfield 7, 3) := od_180 (a := 0) (b := 7) (by decide +kernel) (by decide)
theorem dX12_sail_107 : decode cX12_sail 107 = .ok (.iload_n 1, 1) := od_27  (by decide +kernel)
theorem dX12_sail_108 : decode cX12_sail 108 = .ok (.iconst 0, 1) := od_3  (by decide +kernel)
theorem dX12_sail_109 : decode cX12_sail 109 = .ok (.iadd, 1) := od_96  (by decide +kernel)
theorem dX12_sail_110 : decode cX12_sail 110 = .ok (.iload_n 3, 1) := od_29  (by decide +kernel)
theorem dX12_sail_111 : decode cX12_sail 111 = .ok (.iastore, 1) := od_79  (by decide +kernel)
theorem dX12_sail_112 : decode cX12_sail 112 = .ok (.aload_n 0, 1) := od_42  (by decide +kernel)
theorem dX12_sail_113 : decode cX12_sail 113 = .ok (.getfield 7, 3) := od_180 (a := 0) (b := 7) (by decide +kernel) (by decide)
theorem dX12_sail_116 : decode cX12_sail 116 = .ok (.iload_n 1, 1) := od_27  (by decide +kernel)
theorem dX12_sail_117 : decode cX12_sail 117 = .ok (.bipush 9, 2) := od_16 (a := 9) (by decide +kernel) (by decide +kernel)
theorem dX12_sail_119 : decode cX12_sail 119 = .ok (.iadd, 1) := od_96  (by decide +kernel)
theorem dX12_sail_120 : decode cX12_sail 120 = .ok (.iaload, 1) := od_46  (by decide +kernel)
theorem dX12_sail_121 : decode cX12_sail 121 = .ok (.iconst 1, 1) := od_4  (by decide +kernel)
theorem dX12_sail_122 : decode cX12_sail 122 = .ok (.if_icmp .eq 28, 3) := od_159 (a := 0) (b := 28) (by decide +kernel) (by decide +kernel)
theorem dX12_sail_125 : decode cX12_sail 125 = .ok (.aload_n 0, 1) := od_42  (by decide +kernel)
theorem dX12_sail_126 : decode cX12_sail 126 = .ok (.getfield 7, 3) := od_180 (a := 0) (b := 7) (by decide +kernel) (by decide)
theorem dX12_sail_129 : decode cX12_sail 129 = .ok (.sipush 147, 3) := od_17 (a := 0) (b := 147) (by decide +kernel) (by decide +kernel)
theorem dX12_sail_132 : decode cX12_sail 132 = .ok (.iload_n 2, 1) := od_28  (by decide +kernel)
theorem dX12_sail_133 : decode cX12_sail 133 = .ok (.bipush 24, 2) := od_16 (a := 24) (by decide +kernel) (by decide +kernel)
theorem dX12_sail_135 : decode cX12_sail 135 = .ok (.idiv, 1) := od_108  (by decide +kernel)
theorem dX12_sail_136 : decode cX12_sail 136 = .ok (.iadd, 1) := od_96  (by decide +kernel)
theorem dX12_sail_137 : decode cX12_sail 137 = .ok (.iaload, 1) := od_46  (by decide +kernel)
theorem dX12_sail_138 : decode cX12_sail 138 = .ok (.bipush 6, 2) := od_16 (a := 6) (by decide +kernel) (by decide +kernel)
theorem dX12_sail_140 : decode cX12_sail 140 = .ok (.if_icmp .le 11, 3) := od_164 (a := 0) (b := 11) (by decide +kernel) (by decide +kernel)
theorem dX12_sail_143 : decode cX12_sail 143 = .ok (.iload_n 2, 1) := od_28  (by decide +kernel)
theorem dX12_sail_144 : decode cX12_sail 144 = .ok (.iconst 2, 1) := od_5  (by decide +kernel)
theorem dX12_sail_145 : decode cX12_sail 145 = .ok (.irem, 1) := od_112  (by decide +kernel)
theorem dX12_sail_146 : decode cX12_sail 146 = .ok (.iconst 1, 1) := od_4  (by decide +kernel)
theorem dX12_sail_147 : decode cX12_sail 147 = .ok (.if_icmp .ne 4, 3) := od_160 (a := 0) (b := 4) (by decide +kernel) (by decide +kernel)
theorem dX12_sail_150 : decode cX12_sail 150 = .ok (.return_, 1) := od_177  (by decide +kernel)
theorem dX12_sail_151 : decode cX12_sail 151 = .ok (.aload_n 0, 1) := od_42  (by decide +kernel)
theorem dX12_sail_152 : decode cX12_sail 152 = .ok (.getfield 7, 3) := od_180 (a := 0) (b := 7) (by decide +kernel) (by decide)
theorem dX12_sail_155 : decode cX12_sail 155 = .ok (.iload_n 1, 1) := od_27  (by decide +kernel)
theorem dX12_sail_156 : decode cX12_sail 156 = .ok (.iconst 3, 1) := od_6  (by decide +kernel)
theorem dX12_sail_157 : decode cX12_sail 157 = .ok (.iadd, 1) := od_96  (by decide +kernel)
theorem dX12_sail_158 : decode cX12_sail 158 = .ok (.iaload, 1) := od_46  (by decide +kernel)
theorem dX12_sail_159 : decode cX12_sail 159 = .ok (.iconst 1, 1) := od_4  (by decide +kernel)
theorem dX12_sail_160 : decode cX12_sail 160 = .ok (.if_icmp .ne 64, 3) := od_160 (a := 0) (b := 64) (by decide +kernel) (by decide +kernel)
theorem dX12_sail_163 : decode cX12_sail 163 = .ok (.aload_n 0, 1) := od_42  (by decide +kernel)
theorem dX12_sail_164 : decode cX12_sail 164 = .ok (.getfield 7, 3) := od_180 (a := 0) (b := 7) (by decide +kernel) (by decide)
theorem dX12_sail_167 : decode cX12_sail 167 = .ok (.iload_n 1, 1) := od_27  (by decide +kernel)
theorem dX12_sail_168 : decode cX12_sail 168 = .ok (.iconst 1, 1) := od_4  (by decide +kernel)
theorem dX12_sail_169 : decode cX12_sail 169 = .ok (.iadd, 1) := od_96  (by decide +kernel)
theorem dX12_sail_170 : decode cX12_sail 170 = .ok (.iaload, 1) := od_46  (by decide +kernel)
theorem dX12_sail_171 : decode cX12_sail 171 = .ok (.aload_n 0, 1) := od_42  (by decide +kernel)
theorem dX12_sail_172 : decode cX12_sail 172 = .ok (.getfield 7, 3) := od_180 (a := 0) (b := 7) (by decide +kernel) (by decide)
theorem dX12_sail_175 : decode cX12_sail 175 = .ok (.iload_n 1, 1) := od_27  (by decide +kernel)
theorem dX12_sail_176 : decode cX12_sail 176 = .ok (.iconst 2, 1) := od_5  (by decide +kernel)
theorem dX12_sail_177 : decode cX12_sail 177 = .ok (.iadd, 1) := od_96  (by decide +kernel)
theorem dX12_sail_178 : decode cX12_sail 178 = .ok (.iaload, 1) := od_46  (by decide +kernel)
theorem dX12_sail_179 : decode cX12_sail 179 = .ok (.iconst 2, 1) := od_5  (by decide +kernel)
theorem dX12_sail_180 : decode cX12_sail 180 = .ok (.idiv, 1) := od_108  (by decide +kernel)
theorem dX12_sail_181 : decode cX12_sail 181 = .ok (.if_icmp .ne 43, 3) := od_160 (a := 0) (b := 43) (by decide +kernel) (by decide +kernel)
theorem dX12_sail_184 : decode cX12_sail 184 = .ok (.iload_n 2, 1) := od_28  (by decide +kernel)
theorem dX12_sail_185 : decode cX12_sail 185 = .ok (.bipush 24, 2) := od_16 (a := 24) (by decide +kernel) (by decide +kernel)
theorem dX12_sail_187 : decode cX12_sail 187 = .ok (.irem, 1) := od_112  (by decide +kernel)
theorem dX12_sail_188 : decode cX12_sail 188 = .ok (.istore 4, 2) := od_54 (n := 4) (by decide +kernel)
theorem dX12_sail_190 : decode cX12_sail 190 = .ok (.aload_n 0, 1) := od_42  (by decide +kernel)
theorem dX12_sail_191 : decode cX12_sail 191 = .ok (.getfield 169, 3) := od_180 (a := 0) (b := 169) (by decide +kernel) (by decide)
theorem dX12_sail_194 : decode cX12_sail 194 = .ok (.ifCond .ne 24, 3) := od_154 (a := 0) (b := 24) (by decide +kernel) (by decide +kernel)
theorem dX12_sail_197 : decode cX12_sail 197 = .ok (.iload 4, 2) := od_21 (n := 4) (by decide +kernel)
theorem dX12_sail_199 : decode cX12_sail 199 = .ok (.bipush 6, 2) := od_16 (a := 6) (by decide +kernel) (by decide +kernel)
theorem dX12_sail_201 : decode cX12_sail 201 = .ok (.if_icmp .eq 18, 3) := od_159 (a := 0) (b := 18) (by decide +kernel) (by decide +kernel)
theorem dX12_sail_204 : decode cX12_sail 204 = .ok (.iload 4, 2) := od_21 (n := 4) (by decide +kernel)
theorem dX12_sail_206 : decode cX12_sail 206 = .ok (.bipush 12, 2) := od_16 (a := 12) (by decide +kernel) (by decide +kernel)
theorem dX12_sail_208 : decode cX12_sail 208 = .ok (.if_icmp .eq 11, 3) := od_159 (a := 0) (b := 11) (by decide +kernel) (by decide +kernel)
theorem dX12_sail_211 : decode cX12_sail 211 = .ok (.iload 4, 2) := od_21 (n := 4) (by decide +kernel)
theorem dX12_sail_213 : decode cX12_sail 213 = .ok (.bipush 18, 2) := od_16 (a := 18) (by decide +kernel) (by decide +kernel)
theorem dX12_sail_215 : decode cX12_sail 215 = .ok (.if_icmp .eq 4, 3) := od_159 (a := 0) (b := 4) (by decide +kernel) (by decide +kernel)
theorem dX12_sail_218 : decode cX12_sail 218 = .ok (.return_, 1) := od_177  (by decide +kernel)
theorem dX12_sail_219 : decode cX12_sail 219 = .ok (.aload_n 0, 1) := od_42  (by decide +kernel)
theorem dX12_sail_220 : decode cX12_sail 220 = .ok (.iconst 1, 1) := od_4  (by decide +kernel)
theorem dX12_sail_221 : decode cX12_sail 221 = .ok (.putfield 169, 3) := od_181 (a := 0) (b := 169) (by decide +kernel) (by decide)
theorem dX12_sail_224 : decode cX12_sail 224 = .ok (.aload_n 0, 1) := od_42  (by decide +kernel)
theorem dX12_sail_225 : decode cX12_sail 225 = .ok (.getfield 7, 3) := od_180 (a := 0) (b := 7) (by decide +kernel) (by decide)
theorem dX12_sail_228 : decode cX12_sail 228 = .ok (.iload_n 1, 1) := od_27  (by decide +kernel)
theorem dX12_sail_229 : decode cX12_sail 229 = .ok (.iconst 1, 1) := od_4  (by decide +kernel)
theorem dX12_sail_230 : decode cX12_sail 230 = .ok (.iadd, 1) := od_96  (by decide +kernel)
theorem dX12_sail_231 : decode cX12_sail 231 = .ok (.dup2, 1) := od_92  (by decide +kernel)
theorem dX12_sail_232 : decode cX12_sail 232 = .ok (.iaload, 1) := od_46  (by decide +kernel)
theorem dX12_sail_233 : decode cX12_sail 233 = .ok (.iconst 1, 1) := od_4  (by decide +kernel)
theorem dX12_sail_234 : decode cX12_sail 234 = .ok (.isub, 1) := od_100  (by decide +kernel)
theorem dX12_sail_235 : decode cX12_sail 235 = .ok (.iastore, 1) := od_79  (by decide +kernel)
theorem dX12_sail_236 : decode cX12_sail 236 = .ok (.aload_n 0, 1) := od_42  (by decide +kernel)
theorem dX12_sail_237 : decode cX12_sail 237 = .ok (.getfield 7, 3) := od_180 (a := 0) (b := 7) (by decide +kernel) (by decide)
theorem dX12_sail_240 : decode cX12_sail 240 = .ok (.iload_n 1, 1) := od_27  (by decide +kernel)
theorem dX12_sail_241 : decode cX12_sail 241 = .ok (.iconst 1, 1) := od_4  (by decide +kernel)
theorem dX12_sail_242 : decode cX12_sail 242 = .ok (.iadd, 1) := od_96  (by decide +kernel)
theorem dX12_sail_243 : decode cX12_sail 243 = .ok (.iaload, 1) := od_46  (by decide +kernel)
theorem dX12_sail_244 : decode cX12_sail 244 = .ok (.ifCond .ne 8, 3) := od_154 (a := 0) (b := 8) (by decide +kernel) (by decide +kernel)
theorem dX12_sail_247 : decode cX12_sail 247 = .ok (.aload_n 0, 1) := od_42  (by decide +kernel)
theorem dX12_sail_248 : decode cX12_sail 248 = .ok (.iload_n 1, 1) := od_27  (by decide +kernel)
theorem dX12_sail_249 : decode cX12_sail 249 = .ok (.invokevirtual 195, 3) := od_182 (a := 0) (b := 195) (by decide +kernel) (by decide)
theorem dX12_sail_252 : decode cX12_sail 252 = .ok (.return_, 1) := od_177  (by decide +kernel)
theorem gX12_mayGo_X12_in : GoodIn WALL (va_wsS RX12 99 yX12_in wqX12_in) := wg_S wa_213 wa_214 wa_5 wa_215
theorem gX12_mayGo_X12_isBroken : GoodIn WALL (wsV RX12 221 RX12 yX12_isBroken wqX12_isBroken) := wg_V wa_586 wa_587 wa_588 wa_5 wa_589
theorem gX12_mayGo_X12_terminalAt : GoodIn WALL (va_wsS RX12 115 yX12_terminalAt wqX12_terminalAt) := wg_S wa_221 wa_222 wa_5 wa_223
theorem gX12_mayGo_X12_draftOf : GoodIn WALL (wsV RX12 225 RX12 yX12_draftOf wqX12_draftOf) := wg_V wa_590 wa_591 wa_592 wa_5 wa_593
theorem dX12_mayGo_0 : decode cX12_mayGo 0 = .ok (.aload_n 0, 1) := od_42  (by decide +kernel)
theorem dX12_mayGo_1 : decode cX12_mayGo 1 = .ok (.getfield 7, 3) := od_180 (a := 0) (b := 7) (by decide +kernel) (by decide)
theorem dX12_mayGo_4 : decode cX12_mayGo 4 = .ok (.iload_n 2, 1) := od_28  (by decide +kernel)
theorem dX12_mayGo_5 : decode cX12_mayGo 5 = .ok (.iconst 0, 1) := od_3  (by decide +kernel)
theorem dX12_mayGo_6 : decode cX12_mayGo 6 = .ok (.iadd, 1) := od_96  (by decide +kernel)
theorem dX12_mayGo_7 : decode cX12_mayGo 7 = .ok (.iaload, 1) := od_46  (by decide +kernel)
theorem dX12_mayGo_8 : decode cX12_mayGo 8 = .ok (.istore 4, 2) := od_54 (n := 4) (by decide +kernel)
theorem dX12_mayGo_10 : decode cX12_mayGo 10 = .ok (.iconst 0, 1) := od_3  (by decide +kernel)
theorem dX12_mayGo_11 : decode cX12_mayGo 11 = .ok (.istore 5, 2) := od_54 (n := 5) (by decide +kernel)
theorem dX12_mayGo_13 : decode cX12_mayGo 13 = .ok (.iconst 0, 1) := od_3  (by decide +kernel)
theorem dX12_mayGo_14 : decode cX12_mayGo 14 = .ok (.istore 6, 2) := od_54 (n := 6) (by decide +kernel)
theorem dX12_mayGo_16 : decode cX12_mayGo 16 = .ok (.iload 6, 2) := od_21 (n := 6) (by decide +kernel)
theorem dX12_mayGo_18 : decode cX12_mayGo 18 = .ok (.aload_n 0, 1) := od_42  (by decide +kernel)
theorem dX12_mayGo_19 : decode cX12_mayGo 19 = .ok (.getfield 7, 3) := od_180 (a := 0) (b := 7) (by decide +kernel) (by decide)
theorem dX12_mayGo_22 : decode cX12_mayGo 22 = .ok (.iconst 2, 1) := od_5  (by decide +kernel)
theorem dX12_mayGo_23 : decode cX12_mayGo 23 = .ok (.iaload, 1) := od_46  (by decide +kernel)
theorem dX12_mayGo_24 : decode cX12_mayGo 24 = .ok (.if_icmp .ge 84, 3) := od_162 (a := 0) (b := 84) (by decide +kernel) (by decide +kernel)
theorem dX12_mayGo_27 : decode cX12_mayGo 27 = .ok (.sipush 247, 3) := od_17 (a := 0) (b := 247) (by decide +kernel) (by decide +kernel)
theorem dX12_mayGo_30 : decode cX12_mayGo 30 = .ok (.iconst 4, 1) := od_7  (by decide +kernel)
theorem dX12_mayGo_31 : decode cX12_mayGo 31 = .ok (.iload 6, 2) := od_21 (n := 6) (by decide +kernel)
theorem dX12_mayGo_33 : decode cX12_mayGo 33 = .ok (.imul, 1) := od_104  (by decide +kernel)
theorem dX12_mayGo_34 : decode cX12_mayGo 34 = .ok (.iadd, 1) := od_96  (by decide +kernel)
theorem dX12_mayGo_35 : decode cX12_mayGo 35 = .ok (.istore 7, 2) := od_54 (n := 7) (by decide +kernel)
theorem dX12_mayGo_37 : decode cX12_mayGo 37 = .ok (.iload 5, 2) := od_21 (n := 5) (by decide +kernel)
theorem dX12_mayGo_39 : decode cX12_mayGo 39 = .ok (.ifCond .ne 56, 3) := od_154 (a := 0) (b := 56) (by decide +kernel) (by decide +kernel)
theorem dX12_mayGo_42 : decode cX12_mayGo 42 = .ok (.aload_n 0, 1) := od_42  (by decide +kernel)
theorem dX12_mayGo_43 : decode cX12_mayGo 43 = .ok (.getfield 7, 3) := od_180 (a := 0) (b := 7) (by decide +kernel) (by decide)
theorem dX12_mayGo_46 : decode cX12_mayGo 46 = .ok (.iload 7, 2) := od_21 (n := 7) (by decide +kernel)
theorem dX12_mayGo_48 : decode cX12_mayGo 48 = .ok (.iaload, 1) := od_46  (by decide +kernel)
theorem dX12_mayGo_49 : decode cX12_mayGo 49 = .ok (.iload 4, 2) := od_21 (n := 4) (by decide +kernel)
theorem dX12_mayGo_51 : decode cX12_mayGo 51 = .ok (.if_icmp .ne 48, 3) := od_160 (a := 0) (b := 48) (by decide +kernel) (by decide +kernel)
theorem dX12_mayGo_54 : decode cX12_mayGo 54 = .ok (.aload_n 0, 1) := od_42  (by decide +kernel)
theorem dX12_mayGo_55 : decode cX12_mayGo 55 = .ok (.getfield 7, 3) := od_180 (a := 0) (b := 7) (by decide +kernel) (by decide)
theorem dX12_mayGo_58 : decode cX12_mayGo 58 = .ok (.iload 7, 2) := od_21 (n := 7) (by decide +kernel)
theorem dX12_mayGo_60 : decode cX12_mayGo 60 = .ok (.iconst 1, 1) := od_4  (by decide +kernel)
theorem dX12_mayGo_61 : decode cX12_mayGo 61 = .ok (.iadd, 1) := od_96  (by decide +kernel)
theorem dX12_mayGo_62 : decode cX12_mayGo 62 = .ok (.iaload, 1) := od_46  (by decide +kernel)
theorem dX12_mayGo_63 : decode cX12_mayGo 63 = .ok (.iload_n 1, 1) := od_27  (by decide +kernel)
theorem dX12_mayGo_64 : decode cX12_mayGo 64 = .ok (.if_icmp .ne 35, 3) := od_160 (a := 0) (b := 35) (by decide +kernel) (by decide +kernel)
theorem dX12_mayGo_67 : decode cX12_mayGo 67 = .ok (.iload_n 3, 1) := od_29  (by decide +kernel)
theorem dX12_mayGo_68 : decode cX12_mayGo 68 = .ok (.i2l, 1) := od_133  (by decide +kernel)
theorem dX12_mayGo_69 : decode cX12_mayGo 69 = .ok (.aload_n 0, 1) := od_42  (by decide +kernel)
theorem dX12_mayGo_70 : decode cX12_mayGo 70 = .ok (.getfield 7, 3) := od_180 (a := 0) (b := 7) (by decide +kernel) (by decide)
theorem dX12_mayGo_73 : decode cX12_mayGo 73 = .ok (.iload 7, 2) := od_21 (n := 7) (by decide +kernel)
theorem dX12_mayGo_75 : decode cX12_mayGo 75 = .ok (.iconst 2, 1) := od_5  (by decide +kernel)
theorem dX12_mayGo_76 : decode cX12_mayGo 76 = .ok (.iadd, 1) := od_96  (by decide +kernel)
theorem dX12_mayGo_77 : decode cX12_mayGo 77 = .ok (.iaload, 1) := od_46  (by decide +kernel)
theorem dX12_mayGo_78 : decode cX12_mayGo 78 = .ok (.i2l, 1) := od_133  (by decide +kernel)
theorem dX12_mayGo_79 : decode cX12_mayGo 79 = .ok (.aload_n 0, 1) := od_42  (by decide +kernel)
theorem dX12_mayGo_80 : decode cX12_mayGo 80 = .ok (.getfield 7, 3) := od_180 (a := 0) (b := 7) (by decide +kernel) (by decide)
theorem dX12_mayGo_83 : decode cX12_mayGo 83 = .ok (.iload 7, 2) := od_21 (n := 7) (by decide +kernel)
theorem dX12_mayGo_85 : decode cX12_mayGo 85 = .ok (.iconst 3, 1) := od_6  (by decide +kernel)
theorem dX12_mayGo_86 : decode cX12_mayGo 86 = .ok (.iadd, 1) := od_96  (by decide +kernel)
theorem dX12_mayGo_87 : decode cX12_mayGo 87 = .ok (.iaload, 1) := od_46  (by decide +kernel)
theorem dX12_mayGo_88 : decode cX12_mayGo 88 = .ok (.i2l, 1) := od_133  (by decide +kernel)
theorem dX12_mayGo_89 : decode cX12_mayGo 89 = .ok (.invokestatic 99, 3) := od_184 (a := 0) (b := 99) (by decide +kernel) (by decide)
theorem dX12_mayGo_92 : decode cX12_mayGo 92 = .ok (.ifCond .eq 7, 3) := od_153 (a := 0) (b := 7) (by decide +kernel) (by decide +kernel)
theorem dX12_mayGo_95 : decode cX12_mayGo 95 = .ok (.iconst 1, 1) := od_4  (by decide +kernel)
theorem dX12_mayGo_96 : decode cX12_mayGo 96 = .ok (.goto 4, 3) := od_167 (a := 0) (b := 4) (by decide +kernel) (by decide +kernel)
theorem dX12_mayGo_99 : decode cX12_mayGo 99 = .ok (.iconst 0, 1) := od_3  (by decide +kernel)
theorem dX12_mayGo_100 : decode cX12_mayGo 100 = .ok (.istore 5, 2) := od_54 (n := 5) (by decide +kernel)
theorem dX12_mayGo_102 : decode cX12_mayGo 102 = .ok (.iinc 6 1, 3) := od_132 (a := 6) (b := 1) (by decide +kernel) (by decide +kernel)
theorem dX12_mayGo_105 : decode cX12_mayGo 105 = .ok (.goto (-89), 3) := od_167 (a := 255) (b := 167) (by decide +kernel) (by decide +kernel)
theorem dX12_mayGo_108 : decode cX12_mayGo 108 = .ok (.aload_n 0, 1) := od_42  (by decide +kernel)
theorem dX12_mayGo_109 : decode cX12_mayGo 109 = .ok (.getfield 7, 3) := od_180 (a := 0) (b := 7) (by decide +kernel) (by decide)
theorem dX12_mayGo_112 : decode cX12_mayGo 112 = .ok (.iload_n 2, 1) := od_28  (by decide +kernel)
theorem dX12_mayGo_113 : decode cX12_mayGo 113 = .ok (.iconst 1, 1) := od_4  (by decide +kernel)
theorem dX12_mayGo_114 : decode cX12_mayGo 114 = .ok (.iadd, 1) := od_96  (by decide +kernel)
theorem dX12_mayGo_115 : decode cX12_mayGo 115 = .ok (.iaload, 1) := od_46  (by decide +kernel)
theorem dX12_mayGo_116 : decode cX12_mayGo 116 = .ok (.ifCond .ne 55, 3) := od_154 (a := 0) (b := 55) (by decide +kernel) (by decide +kernel)
theorem dX12_mayGo_119 : decode cX12_mayGo 119 = .ok (.iload 5, 2) := od_21 (n := 5) (by decide +kernel)
theorem dX12_mayGo_121 : decode cX12_mayGo 121 = .ok (.ifCond .eq 50, 3) := od_153 (a := 0) (b := 50) (by decide +kernel) (by decide +kernel)
theorem dX12_mayGo_124 : decode cX12_mayGo 124 = .ok (.aload_n 0, 1) := od_42  (by decide +kernel)
theorem dX12_mayGo_125 : decode cX12_mayGo 125 = .ok (.iload 4, 2) := od_21 (n := 4) (by decide +kernel)
theorem dX12_mayGo_127 : decode cX12_mayGo 127 = .ok (.iload_n 3, 1) := od_29  (by decide +kernel)
theorem dX12_mayGo_128 : decode cX12_mayGo 128 = .ok (.invokevirtual 221, 3) := od_182 (a := 0) (b := 221) (by decide +kernel) (by decide)
theorem dX12_mayGo_131 : decode cX12_mayGo 131 = .ok (.ifCond .ne 40, 3) := od_154 (a := 0) (b := 40) (by decide +kernel) (by decide +kernel)
theorem dX12_mayGo_134 : decode cX12_mayGo 134 = .ok (.aload_n 0, 1) := od_42  (by decide +kernel)
theorem dX12_mayGo_135 : decode cX12_mayGo 135 = .ok (.getfield 7, 3) := od_180 (a := 0) (b := 7) (by decide +kernel) (by decide)
theorem dX12_mayGo_138 : decode cX12_mayGo 138 = .ok (.iload 4, 2) := od_21 (n := 4) (by decide +kernel)
theorem dX12_mayGo_140 : decode cX12_mayGo 140 = .ok (.invokestatic 115, 3) := od_184 (a := 0) (b := 115) (by decide +kernel) (by decide)
theorem dX12_mayGo_143 : decode cX12_mayGo 143 = .ok (.iconst 3, 1) := od_6  (by decide +kernel)
theorem dX12_mayGo_144 : decode cX12_mayGo 144 = .ok (.iadd, 1) := od_96  (by decide +kernel)
theorem dX12_mayGo_145 : decode cX12_mayGo 145 = .ok (.iaload, 1) := od_46  (by decide +kernel)
theorem dX12_mayGo_146 : decode cX12_mayGo 146 = .ok (.aload_n 0, 1) := od_42  (by decide +kernel)
theorem dX12_mayGo_147 : decode cX12_mayGo 147 = .ok (.getfield 7, 3) := od_180 (a := 0) (b := 7) (by decide +kernel) (by decide)
theorem dX12_mayGo_150 : decode cX12_mayGo 150 = .ok (.bipush 122, 2) := od_16 (a := 122) (by decide +kernel) (by decide +kernel)
theorem dX12_mayGo_152 : decode cX12_mayGo 152 = .ok (.iload_n 3, 1) := od_29  (by decide +kernel)
theorem dX12_mayGo_153 : decode cX12_mayGo 153 = .ok (.bipush 25, 2) := od_16 (a := 25) (by decide +kernel) (by decide +kernel)
theorem dX12_mayGo_155 : decode cX12_mayGo 155 = .ok (.irem, 1) := od_112  (by decide +kernel)
theorem dX12_mayGo_156 : decode cX12_mayGo 156 = .ok (.iadd, 1) := od_96  (by decide +kernel)
theorem dX12_mayGo_157 : decode cX12_mayGo 157 = .ok (.iaload, 1) := od_46  (by decide +kernel)
theorem dX12_mayGo_158 : decode cX12_mayGo 158 = .ok (.iadd, 1) := od_96  (by decide +kernel)
theorem dX12_mayGo_159 : decode cX12_mayGo 159 = .ok (.aload_n 0, 1) := od_42  (by decide +kernel)
theorem dX12_mayGo_160 : decode cX12_mayGo 160 = .ok (.iload_n 2, 1) := od_28  (by decide +kernel)
theorem dX12_mayGo_161 : decode cX12_mayGo 161 = .ok (.invokevirtual 225, 3) := od_182 (a := 0) (b := 225) (by decide +kernel) (by decide)
theorem dX12_mayGo_164 : decode cX12_mayGo 164 = .ok (.if_icmp .lt 7, 3) := od_161 (a := 0) (b := 7) (by decide +kernel) (by decide +kernel)
theorem dX12_mayGo_167 : decode cX12_mayGo 167 = .ok (.iconst 1, 1) := od_4  (by decide +kernel)
theorem dX12_mayGo_168 : decode cX12_mayGo 168 = .ok (.goto 4, 3) := od_167 (a := 0) (b := 4) (by decide +kernel) (by decide +kernel)
theorem dX12_mayGo_171 : decode cX12_mayGo 171 = .ok (.iconst 0, 1) := od_3  (by decide +kernel)
theorem dX12_mayGo_172 : decode cX12_mayGo 172 = .ok (.ireturn, 1) := od_172  (by decide +kernel)
theorem gX12_toLoad_X12_terminalAt : GoodIn WALL (va_wsS RX12 115 yX12_terminalAt wqX12_terminalAt) := wg_S wa_221 wa_222 wa_5 wa_223
theorem gX12_toLoad_X12_lesser : GoodIn WALL (va_wsS RX12 228 yX12_lesser wqX12_lesser) := wg_S wa_599 wa_600 wa_5 wa_601
theorem gX12_toLoad_X12_topOf : GoodIn WALL (wsV RX12 231 RX12 yX12_topOf wqX12_topOf) := wg_V wa_602 wa_603 wa_604 wa_5 wa_605
theorem dX12_toLoad_0 : decode cX12_toLoad 0 = .ok (.aload_n 0, 1) := od_42  (by decide +kernel)
theorem dX12_toLoad_1 : decode cX12_toLoad 1 = .ok (.getfield 7, 3) := od_180 (a := 0) (b := 7) (by decide +kernel) (by decide)
theorem dX12_toLoad_4 : decode cX12_toLoad 4 = .ok (.iload_n 1, 1) := od_27  (by decide +kernel)
theorem dX12_toLoad_5 : decode cX12_toLoad 5 = .ok (.iconst 0, 1) := od_3  (by decide +kernel)
theorem dX12_toLoad_6 : decode cX12_toLoad 6 = .ok (.iadd, 1) := od_96  (by decide +kernel)
theorem dX12_toLoad_7 : decode cX12_toLoad 7 = .ok (.iaload, 1) := od_46  (by decide +kernel)
theorem dX12_toLoad_8 : decode cX12_toLoad 8 = .ok (.invokestatic 115, 3) := od_184 (a := 0) (b := 115) (by decide +kernel) (by decide)
theorem dX12_toLoad_11 : decode cX12_toLoad 11 = .ok (.istore_n 2, 1) := od_61  (by decide +kernel)
theorem dX12_toLoad_12 : decode cX12_toLoad 12 = .ok (.aload_n 0, 1) := od_42  (by decide +kernel)
theorem dX12_toLoad_13 : decode cX12_toLoad 13 = .ok (.getfield 7, 3) := od_180 (a := 0) (b := 7) (by decide +kernel) (by decide)
theorem dX12_toLoad_16 : decode cX12_toLoad 16 = .ok (.iload_n 2, 1) := od_28  (by decide +kernel)
theorem dX12_toLoad_17 : decode cX12_toLoad 17 = .ok (.iconst 2, 1) := od_5  (by decide +kernel)
theorem dX12_toLoad_18 : decode cX12_toLoad 18 = .ok (.iadd, 1) := od_96  (by decide +kernel)
theorem dX12_toLoad_19 : decode cX12_toLoad 19 = .ok (.iaload, 1) := od_46  (by decide +kernel)
theorem dX12_toLoad_20 : decode cX12_toLoad 20 = .ok (.istore_n 3, 1) := od_62  (by decide +kernel)
theorem dX12_toLoad_21 : decode cX12_toLoad 21 = .ok (.aload_n 0, 1) := od_42  (by decide +kernel)
theorem dX12_toLoad_22 : decode cX12_toLoad 22 = .ok (.getfield 7, 3) := od_180 (a := 0) (b := 7) (by decide +kernel) (by decide)
theorem dX12_toLoad_25 : decode cX12_toLoad 25 = .ok (.iload_n 1, 1) := od_27  (by decide +kernel)
theorem dX12_toLoad_26 : decode cX12_toLoad 26 = .ok (.bipush 6, 2) := od_16 (a := 6) (by decide +kernel) (by decide +kernel)
theorem dX12_toLoad_28 : decode cX12_toLoad 28 = .ok (.iadd, 1) := od_96  (by decide +kernel)
theorem dX12_toLoad_29 : decode cX12_toLoad 29 = .ok (.iaload, 1) := od_46  (by decide +kernel)
theorem dX12_toLoad_30 : decode cX12_toLoad 30 = .ok (.sipush 200, 3) := od_17 (a := 0) (b := 200) (by decide +kernel) (by decide +kernel)
theorem dX12_toLoad_33 : decode cX12_toLoad 33 = .ok (.if_icmp .le 16, 3) := od_164 (a := 0) (b := 16) (by decide +kernel) (by decide +kernel)
theorem dX12_toLoad_36 : decode cX12_toLoad 36 = .ok (.iload_n 3, 1) := od_29  (by decide +kernel)
theorem dX12_toLoad_37 : decode cX12_toLoad 37 = .ok (.iconst 4, 1) := od_7  (by decide +kernel)
theorem dX12_toLoad_38 : decode cX12_toLoad 38 = .ok (.if_icmp .ge 7, 3) := od_162 (a := 0) (b := 7) (by decide +kernel) (by decide +kernel)
theorem dX12_toLoad_41 : decode cX12_toLoad 41 = .ok (.iconst 1, 1) := od_4  (by decide +kernel)
theorem dX12_toLoad_42 : decode cX12_toLoad 42 = .ok (.goto 6, 3) := od_167 (a := 0) (b := 6) (by decide +kernel) (by decide +kernel)
theorem dX12_toLoad_45 : decode cX12_toLoad 45 = .ok (.iload_n 3, 1) := od_29  (by decide +kernel)
theorem dX12_toLoad_46 : decode cX12_toLoad 46 = .ok (.iconst 4, 1) := od_7  (by decide +kernel)
theorem dX12_toLoad_47 : decode cX12_toLoad 47 = .ok (.idiv, 1) := od_108  (by decide +kernel)
theorem dX12_toLoad_48 : decode cX12_toLoad 48 = .ok (.istore_n 3, 1) := od_62  (by decide +kernel)
theorem dX12_toLoad_49 : decode cX12_toLoad 49 = .ok (.iload_n 3, 1) := od_29  (by decide +kernel)
theorem dX12_toLoad_50 : decode cX12_toLoad 50 = .ok (.aload_n 0, 1) := od_42  (by decide +kernel)
theorem dX12_toLoad_51 : decode cX12_toLoad 51 = .ok (.getfield 7, 3) := od_180 (a := 0) (b := 7) (by decide +kernel) (by decide)
theorem dX12_toLoad_54 : decode cX12_toLoad 54 = .ok (.iload_n 1, 1) := od_27  (by decide +kernel)
theorem dX12_toLoad_55 : decode cX12_toLoad 55 = .ok (.bipush 11, 2) := od_16 (a := 11) (by decide +kernel) (by decide +kernel)
theorem dX12_toLoad_57 : decode cX12_toLoad 57 = .ok (.iadd, 1) := od_96  (by decide +kernel)
theorem dX12_toLoad_58 : decode cX12_toLoad 58 = .ok (.iaload, 1) := od_46  (by decide +kernel)
theorem dX12_toLoad_59 : decode cX12_toLoad 59 = .ok (.invokestatic 228, 3) := od_184 (a := 0) (b := 228) (by decide +kernel) (by decide)
theorem dX12_toLoad_62 : decode cX12_toLoad 62 = .ok (.aload_n 0, 1) := od_42  (by decide +kernel)
theorem dX12_toLoad_63 : decode cX12_toLoad 63 = .ok (.getfield 7, 3) := od_180 (a := 0) (b := 7) (by decide +kernel) (by decide)
theorem dX12_toLoad_66 : decode cX12_toLoad 66 = .ok (.iload_n 2, 1) := od_28  (by decide +kernel)
theorem dX12_toLoad_67 : decode cX12_toLoad 67 = .ok (.iaload, 1) := od_46  (by decide +kernel)
theorem dX12_toLoad_68 : decode cX12_toLoad 68 = .ok (.aload_n 0, 1) := od_42  (by decide +kernel)
theorem dX12_toLoad_69 : decode cX12_toLoad 69 = .ok (.iload_n 1, 1) := od_27  (by decide +kernel)
theorem dX12_toLoad_70 : decode cX12_toLoad 70 = .ok (.invokevirtual 231, 3) := od_182 (a := 0) (b := 231) (by decide +kernel) (by decide)
theorem dX12_toLoad_73 : decode cX12_toLoad 73 = .ok (.aload_n 0, 1) := od_42  (by decide +kernel)
theorem dX12_toLoad_74 : decode cX12_toLoad 74 = .ok (.getfield 7, 3) := od_180 (a := 0) (b := 7) (by decide +kernel) (by decide)
theorem dX12_toLoad_77 : decode cX12_toLoad 77 = .ok (.iload_n 1, 1) := od_27  (by decide +kernel)
theorem dX12_toLoad_78 : decode cX12_toLoad 78 = .ok (.iconst 4, 1) := od_7  (by decide +kernel)
theorem dX12_toLoad_79 : decode cX12_toLoad 79 = .ok (.iadd, 1) := od_96  (by decide +kernel)
theorem dX12_toLoad_80 : decode cX12_toLoad 80 = .ok (.iaload, 1) := od_46  (by decide +kernel)
theorem dX12_toLoad_81 : decode cX12_toLoad 81 = .ok (.isub, 1) := od_100  (by decide +kernel)
theorem dX12_toLoad_82 : decode cX12_toLoad 82 = .ok (.invokestatic 228, 3) := od_184 (a := 0) (b := 228) (by decide +kernel) (by decide)
theorem dX12_toLoad_85 : decode cX12_toLoad 85 = .ok (.invokestatic 228, 3) := od_184 (a := 0) (b := 228) (by decide +kernel) (by decide)
theorem dX12_toLoad_88 : decode cX12_toLoad 88 = .ok (.ireturn, 1) := od_172  (by decide +kernel)
theorem gX12_toLand_X12_terminalAt : GoodIn WALL (va_wsS RX12 115 yX12_terminalAt wqX12_terminalAt) := wg_S wa_221 wa_222 wa_5 wa_223
theorem gX12_toLand_X12_lesser : GoodIn WALL (va_wsS RX12 228 yX12_lesser wqX12_lesser) := wg_S wa_599 wa_600 wa_5 wa_601
theorem gX12_toLand_X12_heelOf : GoodIn WALL (wsV RX12 182 RX12 yX12_heelOf wqX12_heelOf) := wg_V wa_558 wa_559 wa_560 wa_5 wa_561
theorem dX12_toLand_0 : decode cX12_toLand 0 = .ok (.aload_n 0, 1) := od_42  (by decide +kernel)
theorem dX12_toLand_1 : decode cX12_toLand 1 = .ok (.getfield 7, 3) := od_180 (a := 0) (b := 7) (by decide +kernel) (by decide)
theorem dX12_toLand_4 : decode cX12_toLand 4 = .ok (.iload_n 1, 1) := od_27  (by decide +kernel)
theorem dX12_toLand_5 : decode cX12_toLand 5 = .ok (.iconst 0, 1) := od_3  (by decide +kernel)
theorem dX12_toLand_6 : decode cX12_toLand 6 = .ok (.iadd, 1) := od_96  (by decide +kernel)
theorem dX12_toLand_7 : decode cX12_toLand 7 = .ok (.iaload, 1) := od_46  (by decide +kernel)
theorem dX12_toLand_8 : decode cX12_toLand 8 = .ok (.invokestatic 115, 3) := od_184 (a := 0) (b := 115) (by decide +kernel) (by decide)
theorem dX12_toLand_11 : decode cX12_toLand 11 = .ok (.istore_n 2, 1) := od_61  (by decide +kernel)
theorem dX12_toLand_12 : decode cX12_toLand 12 = .ok (.aload_n 0, 1) := od_42  (by decide +kernel)
theorem dX12_toLand_13 : decode cX12_toLand 13 = .ok (.getfield 7, 3) := od_180 (a := 0) (b := 7) (by decide +kernel) (by decide)
theorem dX12_toLand_16 : decode cX12_toLand 16 = .ok (.iload_n 2, 1) := od_28  (by decide +kernel)
theorem dX12_toLand_17 : decode cX12_toLand 17 = .ok (.iconst 2, 1) := od_5  (by decide +kernel)
theorem dX12_toLand_18 : decode cX12_toLand 18 = .ok (.iadd, 1) := od_96  (by decide +kernel)
theorem dX12_toLand_19 : decode cX12_toLand 19 = .ok (.iaload, 1) := od_46  (by decide +kernel)
theorem dX12_toLand_20 : decode cX12_toLand 20 = .ok (.aload_n 0, 1) := od_42  (by decide +kernel)
theorem dX12_toLand_21 : decode cX12_toLand 21 = .ok (.getfield 7, 3) := od_180 (a := 0) (b := 7) (by decide +kernel) (by decide)
theorem dX12_toLand_24 : decode cX12_toLand 24 = .ok (.iload_n 1, 1) := od_27  (by decide +kernel)
theorem dX12_toLand_25 : decode cX12_toLand 25 = .ok (.bipush 11, 2) := od_16 (a := 11) (by decide +kernel) (by decide +kernel)
theorem dX12_toLand_27 : decode cX12_toLand 27 = .ok (.iadd, 1) := od_96  (by decide +kernel)
theorem dX12_toLand_28 : decode cX12_toLand 28 = .ok (.iaload, 1) := od_46  (by decide +kernel)
theorem dX12_toLand_29 : decode cX12_toLand 29 = .ok (.invokestatic 228, 3) := od_184 (a := 0) (b := 228) (by decide +kernel) (by decide)
theorem dX12_toLand_32 : decode cX12_toLand 32 = .ok (.aload_n 0, 1) := od_42  (by decide +kernel)
theorem dX12_toLand_33 : decode cX12_toLand 33 = .ok (.getfield 7, 3) := od_180 (a := 0) (b := 7) (by decide +kernel) (by decide)
theorem dX12_toLand_36 : decode cX12_toLand 36 = .ok (.iload_n 1, 1) := od_27  (by decide +kernel)
theorem dX12_toLand_37 : decode cX12_toLand 37 = .ok (.iconst 4, 1) := od_7  (by decide +kernel)
theorem dX12_toLand_38 : decode cX12_toLand 38 = .ok (.iadd, 1) := od_96  (by decide +kernel)
theorem dX12_toLand_39 : decode cX12_toLand 39 = .ok (.iaload, 1) := od_46  (by decide +kernel)
theorem dX12_toLand_40 : decode cX12_toLand 40 = .ok (.aload_n 0, 1) := od_42  (by decide +kernel)
theorem dX12_toLand_41 : decode cX12_toLand 41 = .ok (.iload_n 1, 1) := od_27  (by decide +kernel)
theorem dX12_toLand_42 : decode cX12_toLand 42 = .ok (.invokevirtual 182, 3) := od_182 (a := 0) (b := 182) (by decide +kernel) (by decide)
theorem dX12_toLand_45 : decode cX12_toLand 45 = .ok (.isub, 1) := od_100  (by decide +kernel)
theorem dX12_toLand_46 : decode cX12_toLand 46 = .ok (.aload_n 0, 1) := od_42  (by decide +kernel)
theorem dX12_toLand_47 : decode cX12_toLand 47 = .ok (.getfield 7, 3) := od_180 (a := 0) (b := 7) (by decide +kernel) (by decide)
theorem dX12_toLand_50 : decode cX12_toLand 50 = .ok (.iload_n 2, 1) := od_28  (by decide +kernel)
theorem dX12_toLand_51 : decode cX12_toLand 51 = .ok (.iconst 1, 1) := od_4  (by decide +kernel)
theorem dX12_toLand_52 : decode cX12_toLand 52 = .ok (.iadd, 1) := od_96  (by decide +kernel)
theorem dX12_toLand_53 : decode cX12_toLand 53 = .ok (.iaload, 1) := od_46  (by decide +kernel)
theorem dX12_toLand_54 : decode cX12_toLand 54 = .ok (.aload_n 0, 1) := od_42  (by decide +kernel)
theorem dX12_toLand_55 : decode cX12_toLand 55 = .ok (.getfield 7, 3) := od_180 (a := 0) (b := 7) (by decide +kernel) (by decide)
theorem dX12_toLand_58 : decode cX12_toLand 58 = .ok (.iload_n 2, 1) := od_28  (by decide +kernel)
theorem dX12_toLand_59 : decode cX12_toLand 59 = .ok (.iaload, 1) := od_46  (by decide +kernel)
theorem dX12_toLand_60 : decode cX12_toLand 60 = .ok (.isub, 1) := od_100  (by decide +kernel)
theorem dX12_toLand_61 : decode cX12_toLand 61 = .ok (.invokestatic 228, 3) := od_184 (a := 0) (b := 228) (by decide +kernel) (by decide)
theorem dX12_toLand_64 : decode cX12_toLand 64 = .ok (.invokestatic 228, 3) := od_184 (a := 0) (b := 228) (by decide +kernel) (by decide)
theorem dX12_toLand_67 : decode cX12_toLand 67 = .ok (.ireturn, 1) := od_172  (by decide +kernel)
theorem gX12_load_X12_terminalAt : GoodIn WALL (va_wsS RX12 115 yX12_terminalAt wqX12_terminalAt) := wg_S wa_221 wa_222 wa_5 wa_223
theorem dX12_load_0 : decode cX12_load 0 = .ok (.aload_n 0, 1) := od_42  (by decide +kernel)
theorem dX12_load_1 : decode cX12_load 1 = .ok (.getfield 7, 3) := od_180 (a := 0) (b := 7) (by decide +kernel) (by decide)
theorem dX12_load_4 : decode cX12_load 4 = .ok (.aload_n 0, 1) := od_42  (by decide +kernel)
theorem dX12_load_5 : decode cX12_load 5 = .ok (.getfield 7, 3) := od_180 (a := 0) (b := 7) (by decide +kernel) (by decide)
theorem dX12_load_8 : decode cX12_load 8 = .ok (.iload_n 1, 1) := od_27  (by decide +kernel)
theorem dX12_load_9 : decode cX12_load 9 = .ok (.iconst 0, 1) := od_3  (by decide +kernel)
theorem dX12_load_10 : decode cX12_load 10 = .ok (.iadd, 1) := od_96  (by decide +kernel)
theorem dX12_load_11 : decode cX12_load 11 = .ok (.iaload, 1) := od_46  (by decide +kernel)
theorem dX12_load_12 : decode cX12_load 12 = .ok (.invokestatic 115, 3) := od_184 (a := 0) (b := 115) (by decide +kernel) (by decide)
theorem dX12_load_15 : decode cX12_load 15 = .ok (.dup2, 1) := od_92  (by decide +kernel)
theorem dX12_load_16 : decode cX12_load 16 = .ok (.iaload, 1) := od_46  (by decide +kernel)
theorem dX12_load_17 : decode cX12_load 17 = .ok (.iload_n 2, 1) := od_28  (by decide +kernel)
theorem dX12_load_18 : decode cX12_load 18 = .ok (.isub, 1) := od_100  (by decide +kernel)
theorem dX12_load_19 : decode cX12_load 19 = .ok (.iastore, 1) := od_79  (by decide +kernel)
theorem dX12_load_20 : decode cX12_load 20 = .ok (.aload_n 0, 1) := od_42  (by decide +kernel)
theorem dX12_load_21 : decode cX12_load 21 = .ok (.getfield 7, 3) := od_180 (a := 0) (b := 7) (by decide +kernel) (by decide)
theorem dX12_load_24 : decode cX12_load 24 = .ok (.iload_n 1, 1) := od_27  (by decide +kernel)
theorem dX12_load_25 : decode cX12_load 25 = .ok (.iconst 4, 1) := od_7  (by decide +kernel)
theorem dX12_load_26 : decode cX12_load 26 = .ok (.iadd, 1) := od_96  (by decide +kernel)
theorem dX12_load_27 : decode cX12_load 27 = .ok (.dup2, 1) := od_92  (by decide +kernel)
theorem dX12_load_28 : decode cX12_load 28 = .ok (.iaload, 1) := od_46  (by decide +kernel)
theorem dX12_load_29 : decode cX12_load 29 = .ok (.iload_n 2, 1) := od_28  (by decide +kernel)
theorem dX12_load_30 : decode cX12_load 30 = .ok (.iadd, 1) := od_96  (by decide +kernel)
theorem dX12_load_31 : decode cX12_load 31 = .ok (.iastore, 1) := od_79  (by decide +kernel)
theorem dX12_load_32 : decode cX12_load 32 = .ok (.aload_n 0, 1) := od_42  (by decide +kernel)
theorem dX12_load_33 : decode cX12_load 33 = .ok (.getfield 7, 3) := od_180 (a := 0) (b := 7) (by decide +kernel) (by decide)
theorem dX12_load_36 : decode cX12_load 36 = .ok (.iload_n 1, 1) := od_27  (by decide +kernel)
theorem dX12_load_37 : decode cX12_load 37 = .ok (.bipush 16, 2) := od_16 (a := 16) (by decide +kernel) (by decide +kernel)
theorem dX12_load_39 : decode cX12_load 39 = .ok (.iadd, 1) := od_96  (by decide +kernel)
theorem dX12_load_40 : decode cX12_load 40 = .ok (.aload_n 0, 1) := od_42  (by decide +kernel)
theorem dX12_load_41 : decode cX12_load 41 = .ok (.getfield 7, 3) := od_180 (a := 0) (b := 7) (by decide +kernel) (by decide)
theorem dX12_load_44 : decode cX12_load 44 = .ok (.iload_n 1, 1) := od_27  (by decide +kernel)
theorem dX12_load_45 : decode cX12_load 45 = .ok (.iconst 0, 1) := od_3  (by decide +kernel)
theorem dX12_load_46 : decode cX12_load 46 = .ok (.iadd, 1) := od_96  (by decide +kernel)
theorem dX12_load_47 : decode cX12_load 47 = .ok (.iaload, 1) := od_46  (by decide +kernel)
theorem dX12_load_48 : decode cX12_load 48 = .ok (.iadd, 1) := od_96  (by decide +kernel)
theorem dX12_load_49 : decode cX12_load 49 = .ok (.dup2, 1) := od_92  (by decide +kernel)
theorem dX12_load_50 : decode cX12_load 50 = .ok (.iaload, 1) := od_46  (by decide +kernel)
theorem dX12_load_51 : decode cX12_load 51 = .ok (.iload_n 2, 1) := od_28  (by decide +kernel)
theorem dX12_load_52 : decode cX12_load 52 = .ok (.iadd, 1) := od_96  (by decide +kernel)
theorem dX12_load_53 : decode cX12_load 53 = .ok (.iastore, 1) := od_79  (by decide +kernel)
theorem dX12_load_54 : decode cX12_load 54 = .ok (.aload_n 0, 1) := od_42  (by decide +kernel)
theorem dX12_load_55 : decode cX12_load 55 = .ok (.getfield 7, 3) := od_180 (a := 0) (b := 7) (by decide +kernel) (by decide)
theorem dX12_load_58 : decode cX12_load 58 = .ok (.iload_n 1, 1) := od_27  (by decide +kernel)
theorem dX12_load_59 : decode cX12_load 59 = .ok (.bipush 12, 2) := od_16 (a := 12) (by decide +kernel) (by decide +kernel)
theorem dX12_load_61 : decode cX12_load 61 = .ok (.iadd, 1) := od_96  (by decide +kernel)
theorem dX12_load_62 : decode cX12_load 62 = .ok (.dup2, 1) := od_92  (by decide +kernel)
theorem dX12_load_63 : decode cX12_load 63 = .ok (.iaload, 1) := od_46  (by decide +kernel)
theorem dX12_load_64 : decode cX12_load 64 = .ok (.iload_n 2, 1) := od_28  (by decide +kernel)
theorem dX12_load_65 : decode cX12_load 65 = .ok (.iadd, 1) := od_96  (by decide +kernel)
theorem dX12_load_66 : decode cX12_load 66 = .ok (.iastore, 1) := od_79  (by decide +kernel)
theorem dX12_load_67 : decode cX12_load 67 = .ok (.return_, 1) := od_177  (by decide +kernel)
theorem gX12_land_X12_take : GoodIn WALL (wsV RX12 179 RX12 yX12_take wqX12_take) := wg_V wa_553 wa_554 wa_555 wa_5 wa_556
theorem gX12_land_X12_terminalAt : GoodIn WALL (va_wsS RX12 115 yX12_terminalAt wqX12_terminalAt) := wg_S wa_221 wa_222 wa_5 wa_223
theorem dX12_land_0 : decode cX12_land 0 = .ok (.aload_n 0, 1) := od_42  (by decide +kernel)
theorem dX12_land_1 : decode cX12_land 1 = .ok (.iload_n 1, 1) := od_27  (by decide +kernel)
theorem dX12_land_2 : decode cX12_land 2 = .ok (.iload_n 2, 1) := od_28  (by decide +kernel)
theorem dX12_land_3 : decode cX12_land 3 = .ok (.invokevirtual 179, 3) := od_182 (a := 0) (b := 179) (by decide +kernel) (by decide)
theorem dX12_land_6 : decode cX12_land 6 = .ok (.aload_n 0, 1) := od_42  (by decide +kernel)
theorem dX12_land_7 : decode cX12_land 7 = .ok (.getfield 7, 3) := od_180 (a := 0) (b := 7) (by decide +kernel) (by decide)
theorem dX12_land_10 : decode cX12_land 10 = .ok (.aload_n 0, 1) := od_42  (by decide +kernel)
theorem dX12_land_11 : decode cX12_land 11 = .ok (.getfield 7, 3) := od_180 (a := 0) (b := 7) (by decide +kernel) (by decide)
theorem dX12_land_14 : decode cX12_land 14 = .ok (.iload_n 1, 1) := od_27  (by decide +kernel)
theorem dX12_land_15 : decode cX12_land 15 = .ok (.iconst 0, 1) := od_3  (by decide +kernel)
theorem dX12_land_16 : decode cX12_land 16 = .ok (.iadd, 1) := od_96  (by decide +kernel)
theorem dX12_land_17 : decode cX12_land 17 = .ok (.iaload, 1) := od_46  (by decide +kernel)
theorem dX12_land_18 : decode cX12_land 18 = .ok (.invokestatic 115, 3) := od_184 (a := 0) (b := 115) (by decide +kernel) (by decide)
theorem dX12_land_21 : decode cX12_land 21 = .ok (.dup2, 1) := od_92  (by decide +kernel)
theorem dX12_land_22 : decode cX12_land 22 = .ok (.iaload, 1) := od_46  (by decide +kernel)
theorem dX12_land_23 : decode cX12_land 23 = .ok (.iload_n 2, 1) := od_28  (by decide +kernel)
theorem dX12_land_24 : decode cX12_land 24 = .ok (.iadd, 1) := od_96  (by decide +kernel)
theorem dX12_land_25 : decode cX12_land 25 = .ok (.iastore, 1) := od_79  (by decide +kernel)
theorem dX12_land_26 : decode cX12_land 26 = .ok (.aload_n 0, 1) := od_42  (by decide +kernel)
theorem dX12_land_27 : decode cX12_land 27 = .ok (.getfield 7, 3) := od_180 (a := 0) (b := 7) (by decide +kernel) (by decide)
theorem dX12_land_30 : decode cX12_land 30 = .ok (.iload_n 1, 1) := od_27  (by decide +kernel)
theorem dX12_land_31 : decode cX12_land 31 = .ok (.bipush 12, 2) := od_16 (a := 12) (by decide +kernel) (by decide +kernel)
theorem dX12_land_33 : decode cX12_land 33 = .ok (.iadd, 1) := od_96  (by decide +kernel)
theorem dX12_land_34 : decode cX12_land 34 = .ok (.iconst 3, 1) := od_6  (by decide +kernel)
theorem dX12_land_35 : decode cX12_land 35 = .ok (.iadd, 1) := od_96  (by decide +kernel)
theorem dX12_land_36 : decode cX12_land 36 = .ok (.dup2, 1) := od_92  (by decide +kernel)
theorem dX12_land_37 : decode cX12_land 37 = .ok (.iaload, 1) := od_46  (by decide +kernel)
theorem dX12_land_38 : decode cX12_land 38 = .ok (.iload_n 2, 1) := od_28  (by decide +kernel)
theorem dX12_land_39 : decode cX12_land 39 = .ok (.iadd, 1) := od_96  (by decide +kernel)
theorem dX12_land_40 : decode cX12_land 40 = .ok (.iastore, 1) := od_79  (by decide +kernel)
theorem dX12_land_41 : decode cX12_land 41 = .ok (.aload_n 0, 1) := od_42  (by decide +kernel)
theorem dX12_land_42 : decode cX12_land 42 = .ok (.getfield 7, 3) := od_180 (a := 0) (b := 7) (by decide +kernel) (by decide)
theorem dX12_land_45 : decode cX12_land 45 = .ok (.iload_n 1, 1) := od_27  (by decide +kernel)
theorem dX12_land_46 : decode cX12_land 46 = .ok (.bipush 23, 2) := od_16 (a := 23) (by decide +kernel) (by decide +kernel)
theorem dX12_land_48 : decode cX12_land 48 = .ok (.iadd, 1) := od_96  (by decide +kernel)
theorem dX12_land_49 : decode cX12_land 49 = .ok (.aload_n 0, 1) := od_42  (by decide +kernel)
theorem dX12_land_50 : decode cX12_land 50 = .ok (.getfield 7, 3) := od_180 (a := 0) (b := 7) (by decide +kernel) (by decide)
theorem dX12_land_53 : decode cX12_land 53 = .ok (.iload_n 1, 1) := od_27  (by decide +kernel)
theorem dX12_land_54 : decode cX12_land 54 = .ok (.bipush 22, 2) := od_16 (a := 22) (by decide +kernel) (by decide +kernel)
theorem dX12_land_56 : decode cX12_land 56 = .ok (.iadd, 1) := od_96  (by decide +kernel)
theorem dX12_land_57 : decode cX12_land 57 = .ok (.iaload, 1) := od_46  (by decide +kernel)
theorem dX12_land_58 : decode cX12_land 58 = .ok (.ifCond .ne 7, 3) := od_154 (a := 0) (b := 7) (by decide +kernel) (by decide +kernel)
theorem dX12_land_61 : decode cX12_land 61 = .ok (.iload_n 3, 1) := od_29  (by decide +kernel)
theorem dX12_land_62 : decode cX12_land 62 = .ok (.goto 12, 3) := od_167 (a := 0) (b := 12) (by decide +kernel) (by decide +kernel)
theorem dX12_land_65 : decode cX12_land 65 = .ok (.aload_n 0, 1) := od_42  (by decide +kernel)
theorem dX12_land_66 : decode cX12_land 66 = .ok (.getfield 7, 3) := od_180 (a := 0) (b := 7) (by decide +kernel) (by decide)
theorem dX12_land_69 : decode cX12_land 69 = .ok (.iload_n 1, 1) := od_27  (by decide +kernel)
theorem dX12_land_70 : decode cX12_land 70 = .ok (.bipush 23, 2) := od_16 (a := 23) (by decide +kernel) (by decide +kernel)
theorem dX12_land_72 : decode cX12_land 72 = .ok (.iadd, 1) := od_96  (by decide +kernel)
theorem dX12_land_73 : decode cX12_land 73 = .ok (.iaload, 1) := od_46  (by decide +kernel)
theorem dX12_land_74 : decode cX12_land 74 = .ok (.iastore, 1) := od_79  (by decide +kernel)
theorem dX12_land_75 : decode cX12_land 75 = .ok (.aload_n 0, 1) := od_42  (by decide +kernel)
theorem dX12_land_76 : decode cX12_land 76 = .ok (.getfield 7, 3) := od_180 (a := 0) (b := 7) (by decide +kernel) (by decide)
theorem dX12_land_79 : decode cX12_land 79 = .ok (.iload_n 1, 1) := od_27  (by decide +kernel)
theorem dX12_land_80 : decode cX12_land 80 = .ok (.bipush 24, 2) := od_16 (a := 24) (by decide +kernel) (by decide +kernel)
theorem dX12_land_82 : decode cX12_land 82 = .ok (.iadd, 1) := od_96  (by decide +kernel)
theorem dX12_land_83 : decode cX12_land 83 = .ok (.iload_n 3, 1) := od_29  (by decide +kernel)
theorem dX12_land_84 : decode cX12_land 84 = .ok (.iastore, 1) := od_79  (by decide +kernel)
theorem dX12_land_85 : decode cX12_land 85 = .ok (.aload_n 0, 1) := od_42  (by decide +kernel)
theorem dX12_land_86 : decode cX12_land 86 = .ok (.getfield 7, 3) := od_180 (a := 0) (b := 7) (by decide +kernel) (by decide)
theorem dX12_land_89 : decode cX12_land 89 = .ok (.iload_n 1, 1) := od_27  (by decide +kernel)
theorem dX12_land_90 : decode cX12_land 90 = .ok (.bipush 22, 2) := od_16 (a := 22) (by decide +kernel) (by decide +kernel)
theorem dX12_land_92 : decode cX12_land 92 = .ok (.iadd, 1) := od_96  (by decide +kernel)
theorem dX12_land_93 : decode cX12_land 93 = .ok (.dup2, 1) := od_92  (by decide +kernel)
theorem dX12_land_94 : decode cX12_land 94 = .ok (.iaload, 1) := od_46  (by decide +kernel)
theorem dX12_land_95 : decode cX12_land 95 = .ok (.iload_n 2, 1) := od_28  (by decide +kernel)
theorem dX12_land_96 : decode cX12_land 96 = .ok (.iadd, 1) := od_96  (by decide +kernel)
theorem dX12_land_97 : decode cX12_land 97 = .ok (.iastore, 1) := od_79  (by decide +kernel)
theorem dX12_land_98 : decode cX12_land 98 = .ok (.iconst 0, 1) := od_3  (by decide +kernel)
theorem dX12_land_99 : decode cX12_land 99 = .ok (.istore 4, 2) := od_54 (n := 4) (by decide +kernel)
theorem dX12_land_101 : decode cX12_land 101 = .ok (.iload 4, 2) := od_21 (n := 4) (by decide +kernel)
theorem dX12_land_103 : decode cX12_land 103 = .ok (.bipush 6, 2) := od_16 (a := 6) (by decide +kernel) (by decide +kernel)
theorem dX12_land_105 : decode cX12_land 105 = .ok (.if_icmp .ge 31, 3) := od_162 (a := 0) (b := 31) (by decide +kernel) (by decide +kernel)
theorem dX12_land_108 : decode cX12_land 108 = .ok (.aload_n 0, 1) := od_42  (by decide +kernel)
theorem dX12_land_109 : decode cX12_land 109 = .ok (.getfield 7, 3) := od_180 (a := 0) (b := 7) (by decide +kernel) (by decide)
theorem dX12_land_112 : decode cX12_land 112 = .ok (.iload_n 1, 1) := od_27  (by decide +kernel)
theorem dX12_land_113 : decode cX12_land 113 = .ok (.bipush 25, 2) := od_16 (a := 25) (by decide +kernel) (by decide +kernel)
theorem dX12_land_115 : decode cX12_land 115 = .ok (.iadd, 1) := od_96  (by decide +kernel)
theorem dX12_land_116 : decode cX12_land 116 = .ok (.iload 4, 2) := od_21 (n := 4) (by decide +kernel)
theorem dX12_land_118 : decode cX12_land 118 = .ok (.iadd, 1) := od_96  (by decide +kernel)
theorem dX12_land_119 : decode cX12_land 119 = .ok (.dup2, 1) := od_92  (by decide +kernel)
theorem dX12_land_120 : decode cX12_land 120 = .ok (.iaload, 1) := od_46  (by decide +kernel)
theorem dX12_land_121 : decode cX12_land 121 = .ok (.aload_n 0, 1) := od_42  (by decide +kernel)
theorem dX12_land_122 : decode cX12_land 122 = .ok (.getfield 20, 3) := od_180 (a := 0) (b := 20) (by decide +kernel) (by decide)
theorem dX12_land_125 : decode cX12_land 125 = .ok (.iload 4, 2) := od_21 (n := 4) (by decide +kernel)
theorem dX12_land_127 : decode cX12_land 127 = .ok (.iaload, 1) := od_46  (by decide +kernel)
theorem dX12_land_128 : decode cX12_land 128 = .ok (.iadd, 1) := od_96  (by decide +kernel)
theorem dX12_land_129 : decode cX12_land 129 = .ok (.iastore, 1) := od_79  (by decide +kernel)
theorem dX12_land_130 : decode cX12_land 130 = .ok (.iinc 4 1, 3) := od_132 (a := 4) (b := 1) (by decide +kernel) (by decide +kernel)
theorem dX12_land_133 : decode cX12_land 133 = .ok (.goto (-32), 3) := od_167 (a := 255) (b := 224) (by decide +kernel) (by decide +kernel)
theorem dX12_land_136 : decode cX12_land 136 = .ok (.return_, 1) := od_177  (by decide +kernel)
theorem gX12_endLanding_X12_addFour : GoodIn WALL (wsV RX12 118 RX12 yX12_addFour wqX12_addFour) := wg_V wa_224 wa_225 wa_226 wa_5 wa_227
theorem dX12_endLanding_0 : decode cX12_endLanding 0 = .ok (.aload_n 0, 1) := od_42  (by decide +kernel)
theorem dX12_endLanding_1 : decode cX12_endLanding 1 = .ok (.getfield 7, 3) := od_180 (a := 0) (b := 7) (by decide +kernel) (by decide)
theorem dX12_endLanding_4 : decode cX12_endLanding 4 = .ok (.iload_n 2, 1) := od_28  (by decide +kernel)
theorem dX12_endLanding_5 : decode cX12_endLanding 5 = .ok (.bipush 22, 2) := od_16 (a := 22) (by decide +kernel) (by decide +kernel)
theorem dX12_endLanding_7 : decode cX12_endLanding 7 = .ok (.iadd, 1) := od_96  (by decide +kernel)
theorem dX12_endLanding_8 : decode cX12_endLanding 8 = .ok (.iaload, 1) := od_46  (by decide +kernel)
theorem dX12_endLanding_9 : decode cX12_endLanding 9 = .ok (.ifCond .le 146, 3) := od_158 (a := 0) (b := 146) (by decide +kernel) (by decide +kernel)
theorem dX12_endLanding_12 : decode cX12_endLanding 12 = .ok (.aload_n 0, 1) := od_42  (by decide +kernel)
theorem dX12_endLanding_13 : decode cX12_endLanding 13 = .ok (.getfield 7, 3) := od_180 (a := 0) (b := 7) (by decide +kernel) (by decide)
theorem dX12_endLanding_16 : decode cX12_endLanding 16 = .ok (.iconst 5, 1) := od_8  (by decide +kernel)
theorem dX12_endLanding_17 : decode cX12_endLanding 17 = .ok (.iaload, 1) := od_46  (by decide +kernel)
theorem dX12_endLanding_18 : decode cX12_endLanding 18 = .ok (.bipush 60, 2) := od_16 (a := 60) (by decide +kernel) (by decide +kernel)
theorem dX12_endLanding_20 : decode cX12_endLanding 20 = .ok (.if_icmp .ge 135, 3) := od_162 (a := 0) (b := 135) (by decide +kernel) (by decide +kernel)
theorem dX12_endLanding_23 : decode cX12_endLanding 23 = .ok (.sipush 1051, 3) := od_17 (a := 4) (b := 27) (by decide +kernel) (by decide +kernel)
theorem dX12_endLanding_26 : decode cX12_endLanding 26 = .ok (.bipush 16, 2) := od_16 (a := 16) (by decide +kernel) (by decide +kernel)
theorem dX12_endLanding_28 : decode cX12_endLanding 28 = .ok (.aload_n 0, 1) := od_42  (by decide +kernel)
theorem dX12_endLanding_29 : decode cX12_endLanding 29 = .ok (.getfield 7, 3) := od_180 (a := 0) (b := 7) (by decide +kernel) (by decide)
theorem dX12_endLanding_32 : decode cX12_endLanding 32 = .ok (.iconst 5, 1) := od_8  (by decide +kernel)
theorem dX12_endLanding_33 : decode cX12_endLanding 33 = .ok (.iaload, 1) := od_46  (by decide +kernel)
theorem dX12_endLanding_34 : decode cX12_endLanding 34 = .ok (.imul, 1) := od_104  (by decide +kernel)
theorem dX12_endLanding_35 : decode cX12_endLanding 35 = .ok (.iadd, 1) := od_96  (by decide +kernel)
theorem dX12_endLanding_36 : decode cX12_endLanding 36 = .ok (.istore_n 3, 1) := od_62  (by decide +kernel)
theorem dX12_endLanding_37 : decode cX12_endLanding 37 = .ok (.aload_n 0, 1) := od_42  (by decide +kernel)
theorem dX12_endLanding_38 : decode cX12_endLanding 38 = .ok (.iload_n 3, 1) := od_29  (by decide +kernel)
theorem dX12_endLanding_39 : decode cX12_endLanding 39 = .ok (.iload_n 1, 1) := od_27  (by decide +kernel)
theorem dX12_endLanding_40 : decode cX12_endLanding 40 = .ok (.aload_n 0, 1) := od_42  (by decide +kernel)
theorem dX12_endLanding_41 : decode cX12_endLanding 41 = .ok (.getfield 7, 3) := od_180 (a := 0) (b := 7) (by decide +kernel) (by decide)
theorem dX12_endLanding_44 : decode cX12_endLanding 44 = .ok (.iload_n 2, 1) := od_28  (by decide +kernel)
theorem dX12_endLanding_45 : decode cX12_endLanding 45 = .ok (.iconst 0, 1) := od_3  (by decide +kernel)
theorem dX12_endLanding_46 : decode cX12_endLanding 46 = .ok (.iadd, 1) := od_96  (by decide +kernel)
theorem dX12_endLanding_47 : decode cX12_endLanding 47 = .ok (.iaload, 1) := od_46  (by decide +kernel)
theorem dX12_endLanding_48 : decode cX12_endLanding 48 = .ok (.aload_n 0, 1) := od_42  (by decide +kernel)
theorem dX12_endLanding_49 : decode cX12_endLanding 49 = .ok (.getfield 7, 3) := od_180 (a := 0) (b := 7) (by decide +kernel) (by decide)
theorem dX12_endLanding_52 : decode cX12_endLanding 52 = .ok (.iload_n 2, 1) := od_28  (by decide +kernel)
theorem dX12_endLanding_53 : decode cX12_endLanding 53 = .ok (.bipush 23, 2) := od_16 (a := 23) (by decide +kernel) (by decide +kernel)
theorem dX12_endLanding_55 : decode cX12_endLanding 55 = .ok (.iadd, 1) := od_96  (by decide +kernel)
theorem dX12_endLanding_56 : decode cX12_endLanding 56 = .ok (.iaload, 1) := od_46  (by decide +kernel)
theorem dX12_endLanding_57 : decode cX12_endLanding 57 = .ok (.aload_n 0, 1) := od_42  (by decide +kernel)
theorem dX12_endLanding_58 : decode cX12_endLanding 58 = .ok (.getfield 7, 3) := od_180 (a := 0) (b := 7) (by decide +kernel) (by decide)
theorem dX12_endLanding_61 : decode cX12_endLanding 61 = .ok (.iload_n 2, 1) := od_28  (by decide +kernel)
theorem dX12_endLanding_62 : decode cX12_endLanding 62 = .ok (.bipush 24, 2) := od_16 (a := 24) (by decide +kernel) (by decide +kernel)
theorem dX12_endLanding_64 : decode cX12_endLanding 64 = .ok (.iadd, 1) := od_96  (by decide +kernel)
theorem dX12_endLanding_65 : decode cX12_endLanding 65 = .ok (.iaload, 1) := od_46  (by decide +kernel)
theorem dX12_endLanding_66 : decode cX12_endLanding 66 = .ok (.invokevirtual 118, 3) := od_182 (a := 0) (b := 118) (by decide +kernel) (by decide)
theorem dX12_endLanding_69 : decode cX12_endLanding 69 = .ok (.aload_n 0, 1) := od_42  (by decide +kernel)
theorem dX12_endLanding_70 : decode cX12_endLanding 70 = .ok (.getfield 7, 3) := od_180 (a := 0) (b := 7) (by decide +kernel) (by decide)
theorem dX12_endLanding_73 : decode cX12_endLanding 73 = .ok (.iload_n 3, 1) := od_29  (by decide +kernel)
theorem dX12_endLanding_74 : decode cX12_endLanding 74 = .ok (.iconst 4, 1) := od_7  (by decide +kernel)
theorem dX12_endLanding_75 : decode cX12_endLanding 75 = .ok (.iadd, 1) := od_96  (by decide +kernel)
theorem dX12_endLanding_76 : decode cX12_endLanding 76 = .ok (.aload_n 0, 1) := od_42  (by decide +kernel)
theorem dX12_endLanding_77 : decode cX12_endLanding 77 = .ok (.getfield 7, 3) := od_180 (a := 0) (b := 7) (by decide +kernel) (by decide)
theorem dX12_endLanding_80 : decode cX12_endLanding 80 = .ok (.iload_n 2, 1) := od_28  (by decide +kernel)
theorem dX12_endLanding_81 : decode cX12_endLanding 81 = .ok (.bipush 22, 2) := od_16 (a := 22) (by decide +kernel) (by decide +kernel)
theorem dX12_endLanding_83 : decode cX12_endLanding 83 = .ok (.iadd, 1) := od_96  (by decide +kernel)
theorem dX12_endLanding_84 : decode cX12_endLanding 84 = .ok (.iaload, 1) := od_46  (by decide +kernel)
theorem dX12_endLanding_85 : decode cX12_endLanding 85 = .ok (.iastore, 1) := od_79  (by decide +kernel)
theorem dX12_endLanding_86 : decode cX12_endLanding 86 = .ok (.iconst 0, 1) := od_3  (by decide +kernel)
theorem dX12_endLanding_87 : decode cX12_endLanding 87 = .ok (.istore 4, 2) := od_54 (n := 4) (by decide +kernel)
theorem dX12_endLanding_89 : decode cX12_endLanding 89 = .ok (.iload 4, 2) := od_21 (n := 4) (by decide +kernel)
theorem dX12_endLanding_91 : decode cX12_endLanding 91 = .ok (.bipush 6, 2) := od_16 (a := 6) (by decide +kernel) (by decide +kernel)
theorem dX12_endLanding_93 : decode cX12_endLanding 93 = .ok (.if_icmp .ge 32, 3) := od_162 (a := 0) (b := 32) (by decide +kernel) (by decide +kernel)
theorem dX12_endLanding_96 : decode cX12_endLanding 96 = .ok (.aload_n 0, 1) := od_42  (by decide +kernel)
theorem dX12_endLanding_97 : decode cX12_endLanding 97 = .ok (.getfield 7, 3) := od_180 (a := 0) (b := 7) (by decide +kernel) (by decide)
theorem dX12_endLanding_100 : decode cX12_endLanding 100 = .ok (.iload_n 3, 1) := od_29  (by decide +kernel)
theorem dX12_endLanding_101 : decode cX12_endLanding 101 = .ok (.iconst 5, 1) := od_8  (by decide +kernel)
theorem dX12_endLanding_102 : decode cX12_endLanding 102 = .ok (.iadd, 1) := od_96  (by decide +kernel)
theorem dX12_endLanding_103 : decode cX12_endLanding 103 = .ok (.iload 4, 2) := od_21 (n := 4) (by decide +kernel)
theorem dX12_endLanding_105 : decode cX12_endLanding 105 = .ok (.iadd, 1) := od_96  (by decide +kernel)
theorem dX12_endLanding_106 : decode cX12_endLanding 106 = .ok (.aload_n 0, 1) := od_42  (by decide +kernel)
theorem dX12_endLanding_107 : decode cX12_endLanding 107 = .ok (.getfield 7, 3) := od_180 (a := 0) (b := 7) (by decide +kernel) (by decide)
theorem dX12_endLanding_110 : decode cX12_endLanding 110 = .ok (.iload_n 2, 1) := od_28  (by decide +kernel)
theorem dX12_endLanding_111 : decode cX12_endLanding 111 = .ok (.bipush 25, 2) := od_16 (a := 25) (by decide +kernel) (by decide +kernel)
theorem dX12_endLanding_113 : decode cX12_endLanding 113 = .ok (.iadd, 1) := od_96  (by decide +kernel)
theorem dX12_endLanding_114 : decode cX12_endLanding 114 = .ok (.iload 4, 2) := od_21 (n := 4) (by decide +kernel)
theorem dX12_endLanding_116 : decode cX12_endLanding 116 = .ok (.iadd, 1) := od_96  (by decide +kernel)
theorem dX12_endLanding_117 : decode cX12_endLanding 117 = .ok (.iaload, 1) := od_46  (by decide +kernel)
theorem dX12_endLanding_118 : decode cX12_endLanding 118 = .ok (.iastore, 1) := od_79  (by decide +kernel)
theorem dX12_endLanding_119 : decode cX12_endLanding 119 = .ok (.iinc 4 1, 3) := od_132 (a := 4) (b := 1) (by decide +kernel) (by decide +kernel)
theorem dX12_endLanding_122 : decode cX12_endLanding 122 = .ok (.goto (-33), 3) := od_167 (a := 255) (b := 223) (by decide +kernel) (by decide +kernel)
theorem dX12_endLanding_125 : decode cX12_endLanding 125 = .ok (.aload_n 0, 1) := od_42  (by decide +kernel)
theorem dX12_endLanding_126 : decode cX12_endLanding 126 = .ok (.getfield 7, 3) := od_180 (a := 0) (b := 7) (by decide +kernel) (by decide)
theorem dX12_endLanding_129 : decode cX12_endLanding 129 = .ok (.iload_n 3, 1) := od_29  (by decide +kernel)
theorem dX12_endLanding_130 : decode cX12_endLanding 130 = .ok (.bipush 11, 2) := od_16 (a := 11) (by decide +kernel) (by decide +kernel)
theorem dX12_endLanding_132 : decode cX12_endLanding 132 = .ok (.iadd, 1) := od_96  (by decide +kernel)
theorem dX12_endLanding_133 : decode cX12_endLanding 133 = .ok (.iconst (-1), 1) := od_2  (by decide +kernel)
theorem dX12_endLanding_134 : decode cX12_endLanding 134 = .ok (.iastore, 1) := od_79  (by decide +kernel)
theorem dX12_endLanding_135 : decode cX12_endLanding 135 = .ok (.aload_n 0, 1) := od_42  (by decide +kernel)
theorem dX12_endLanding_136 : decode cX12_endLanding 136 = .ok (.getfield 7, 3) := od_180 (a := 0) (b := 7) (by decide +kernel) (by decide)
theorem dX12_endLanding_139 : decode cX12_endLanding 139 = .ok (.iload_n 3, 1) := od_29  (by decide +kernel)
theorem dX12_endLanding_140 : decode cX12_endLanding 140 = .ok (.bipush 12, 2) := od_16 (a := 12) (by decide +kernel) (by decide +kernel)
theorem dX12_endLanding_142 : decode cX12_endLanding 142 = .ok (.iadd, 1) := od_96  (by decide +kernel)
theorem dX12_endLanding_143 : decode cX12_endLanding 143 = .ok (.iconst (-1), 1) := od_2  (by decide +kernel)
theorem dX12_endLanding_144 : decode cX12_endLanding 144 = .ok (.iastore, 1) := od_79  (by decide +kernel)
theorem dX12_endLanding_145 : decode cX12_endLanding 145 = .ok (.aload_n 0, 1) := od_42  (by decide +kernel)
theorem dX12_endLanding_146 : decode cX12_endLanding 146 = .ok (.getfield 7, 3) := od_180 (a := 0) (b := 7) (by decide +kernel) (by decide)
theorem dX12_endLanding_149 : decode cX12_endLanding 149 = .ok (.iconst 5, 1) := od_8  (by decide +kernel)
theorem dX12_endLanding_150 : decode cX12_endLanding 150 = .ok (.dup2, 1) := od_92  (by decide +kernel)
theorem dX12_endLanding_151 : decode cX12_endLanding 151 = .ok (.iaload, 1) := od_46  (by decide +kernel)
theorem dX12_endLanding_152 : decode cX12_endLanding 152 = .ok (.iconst 1, 1) := od_4  (by decide +kernel)
theorem dX12_endLanding_153 : decode cX12_endLanding 153 = .ok (.iadd, 1) := od_96  (by decide +kernel)
theorem dX12_endLanding_154 : decode cX12_endLanding 154 = .ok (.iastore, 1) := od_79  (by decide +kernel)
theorem dX12_endLanding_155 : decode cX12_endLanding 155 = .ok (.aload_n 0, 1) := od_42  (by decide +kernel)
theorem dX12_endLanding_156 : decode cX12_endLanding 156 = .ok (.getfield 7, 3) := od_180 (a := 0) (b := 7) (by decide +kernel) (by decide)
theorem dX12_endLanding_159 : decode cX12_endLanding 159 = .ok (.iload_n 2, 1) := od_28  (by decide +kernel)
theorem dX12_endLanding_160 : decode cX12_endLanding 160 = .ok (.bipush 22, 2) := od_16 (a := 22) (by decide +kernel) (by decide +kernel)
theorem dX12_endLanding_162 : decode cX12_endLanding 162 = .ok (.iadd, 1) := od_96  (by decide +kernel)
theorem dX12_endLanding_163 : decode cX12_endLanding 163 = .ok (.iconst 0, 1) := od_3  (by decide +kernel)
theorem dX12_endLanding_164 : decode cX12_endLanding 164 = .ok (.iastore, 1) := od_79  (by decide +kernel)
theorem dX12_endLanding_165 : decode cX12_endLanding 165 = .ok (.iconst 0, 1) := od_3  (by decide +kernel)
theorem dX12_endLanding_166 : decode cX12_endLanding 166 = .ok (.istore_n 3, 1) := od_62  (by decide +kernel)
theorem dX12_endLanding_167 : decode cX12_endLanding 167 = .ok (.iload_n 3, 1) := od_29  (by decide +kernel)
theorem dX12_endLanding_168 : decode cX12_endLanding 168 = .ok (.bipush 6, 2) := od_16 (a := 6) (by decide +kernel) (by decide +kernel)
theorem dX12_endLanding_170 : decode cX12_endLanding 170 = .ok (.if_icmp .ge 21, 3) := od_162 (a := 0) (b := 21) (by decide +kernel) (by decide +kernel)
theorem dX12_endLanding_173 : decode cX12_endLanding 173 = .ok (.aload_n 0, 1) := od_42  (by decide +kernel)
theorem dX12_endLanding_174 : decode cX12_endLanding 174 = .ok (.getfield 7, 3) := od_180 (a := 0) (b := 7) (by decide +kernel) (by decide)
theorem dX12_endLanding_177 : decode cX12_endLanding 177 = .ok (.iload_n 2, 1) := od_28  (by decide +kernel)
theorem dX12_endLanding_178 : decode cX12_endLanding 178 = .ok (.bipush 25, 2) := od_16 (a := 25) (by decide +kernel) (by decide +kernel)
theorem dX12_endLanding_180 : decode cX12_endLanding 180 = .ok (.iadd, 1) := od_96  (by decide +kernel)
theorem dX12_endLanding_181 : decode cX12_endLanding 181 = .ok (.iload_n 3, 1) := od_29  (by decide +kernel)
theorem dX12_endLanding_182 : decode cX12_endLanding 182 = .ok (.iadd, 1) := od_96  (by decide +kernel)
theorem dX12_endLanding_183 : decode cX12_endLanding 183 = .ok (.iconst 0, 1) := od_3  (by decide +kernel)
theorem dX12_endLanding_184 : decode cX12_endLanding 184 = .ok (.iastore, 1) := od_79  (by decide +kernel)
theorem dX12_endLanding_185 : decode cX12_endLanding 185 = .ok (.iinc 3 1, 3) := od_132 (a := 3) (b := 1) (by decide +kernel) (by decide +kernel)
theorem dX12_endLanding_188 : decode cX12_endLanding 188 = .ok (.goto (-21), 3) := od_167 (a := 255) (b := 235) (by decide +kernel) (by decide +kernel)
theorem dX12_endLanding_191 : decode cX12_endLanding 191 = .ok (.return_, 1) := od_177  (by decide +kernel)
end

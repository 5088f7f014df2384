section
set_option maxHeartbeats 4000000 in
set_option maxRecDepth 100000 in
theorem t_X1_extend0 (l : Launch) (dC : Nat → ClassId) (dI : Nat → Nat → Nat) (sz : Nat) (Ω : Nat → Nat → (Nat → Nat) → va_E → Prop) (κ : Nat → ClassId) (τ ν : Nat → Nat) (ρ : Nat → Nat → Nat) (L : List Nat) (f : Nat → va_E) (hG : tp_G τ ν ρ L) (hT : tp_T Ω κ τ ν ρ f) (h0 : Nat) (v : Int32) (dd : Int32) (u : Int32) (a : Int32) (b : Int32) (x : Int64) (a6 : Int32) (ht_h0 : τ h0 = 2) (hr_v : 0 ≤ v.toInt ∧ v.toInt ≤ 2) (hr_dd : 0 ≤ dd.toInt ∧ dd.toInt ≤ 0) : Met l yX1_extend wqX1_extend ({ frames := 10, cells := 0, slots := 0, locals := 3600 }) (va_Pc [.ref h0, .int v, .int dd, .int u, .int a, .int b, .long x, .int a6] (pz_B dC dI (tp_K κ) (va_pl L f) sz)) (va_Qv (fun (f1 : Nat → va_E) => tp_T Ω κ τ ν ρ f1 ∧ tp_F τ [2, 20, 21] f f1 ∧ True) (fun (f1 : Nat → va_E) (t : State) => pz_E dC dI (tp_K κ) (va_A (va_pl L f) sz) (va_pl L f1) t) (va_A (va_pl L f) sz)) 0 0 (va_A (va_pl L f) sz) := by
  refine Met.ofW (cc := cX1_extend) (maxL := 14) (ret := none) (by decide) rfl ?_
  intro p e s m args below meth c s₁ B hml hv
  obtain ⟨rfl, hsz, hP, hK, hD0, hN⟩ := hv
  have hx := B.exec
  have hb := B.bytes
  have hr := B.returns
  have hts := fun (w : Cond) (h : w ∈ WALL) => atoms_spec (ws := wqX1_extend) B.pre w (List.mem_cons_of_mem _ h)
  have hown : s.vm.findClass RX1 = some m.cls := findClass_of_methodNamed B.named
  have hlocks := B.notSynchronized
  subst hsz
  have hD := hD0.self (sz := s.heap.size)
  generalize hAe : va_A (va_pl L f) s.heap.size = A at hD ⊢
  have hA : ∀ q : Nat, s.heap.size ≤ q → A q := fun q h => by rw [← hAe]; exact Or.inr h
  have hS : va_S A s.heap s.heap [] := va_S.rf
  have hR : tp_F τ [2, 20, 21] f f := tp_F.rf
  have hl := lv_entry ([.ref h0, .int v, .int dd, .int u, .int a, .int b, .long x, .int a6]) (n := 14) (Nat.le_of_ble_eq_true rfl)
  rw [lg_entry_eq]
  generalize (lg_sl ([.ref h0, .int v, .int dd, .int u, .int a, .int b, .long x, .int a6]) ++ List.replicate (14 - (lg_sl ([.ref h0, .int v, .int dd, .int u, .int a, .int b, .long x, .int a6])).length) Slot.unset).toArray = ls at hl ⊢
  have hl : lv_has ls 14 [(0, .ref h0), (1, .int v), (2, .int dd), (3, .int u), (4, .int a), (5, .int b), (6, .long x), (8, .int a6)] := hl
  refine lv_iload_n hx hb dX1_extend_0 rfl (lv_at hl 2 rfl) ?_
  refine lv_bipush (v := 6) hx hb dX1_extend_1 (by decide) ?_
  refine lv_icmp_lt (tgt := 7) hx hb dX1_extend_3 (by decide) (fun c1 => ?_) (fun c1 => ?_)
  · have ic1 : dd.toInt < 6 := zi_lt rfl rfl c1
    refine lv_iconst (v := 0) hx hb dX1_extend_7 (by decide) ?_
    refine lv_istore (lv' := [(9, .int 0), (0, .ref h0), (1, .int v), (2, .int dd), (3, .int u), (4, .int a), (5, .int b), (6, .long x), (8, .int a6)]) hx hb dX1_extend_8 hl (by decide) rfl (fun ls hl => ?_)
    refine pz_loop (fun n0 H locs ls => ∃ f3 : Nat → va_E, ∃ w2 : Int32, n0 = (6 - (w2.toInt)).toNat ∧ tp_T Ω κ τ ν ρ f3 ∧ tp_F τ [2, 20, 21] f f3 ∧ (0 ≤ w2.toInt ∧ w2.toInt ≤ 6) ∧ va_P (dC, dI) vwCl (va_pl L f3) H ∧ va_D A (va_pl L f3) ∧ va_S A s.heap H locs ∧ lv_has ls 14 [(9, .int w2), (0, .ref h0), (1, .int v), (2, .int dd), (3, .int u), (4, .int a), (5, .int b), (6, .long x), (8, .int a6)]) ?_ _ _ _ _ ⟨f, 0, rfl, hT, hR, (by have : (0 : Int32).toInt = 0 := rfl; omega), hP, hD, hS, lv_sub hl [0, 1, 2, 3, 4, 5, 6, 7, 8] rfl⟩
    intro n0 H locs ls hI ih4
    refine Exists.elim hI (fun f3 hE90 => Exists.elim hE90 (fun w2 hE91 => tn_8 hE91 (fun hn5 hT hR rw2 hP hD hS hl => ?_)))
    clear hE91 hE90 hI
    refine lv_iload hx hb dX1_extend_10 (lv_at hl 0 rfl) ?_
    refine lv_aload_n hx hb dX1_extend_12 rfl (lv_at hl 1 rfl) ?_
    refine tgk_2 hG ht_h0 (fun y6 y6l y7 y7n y8 y8n y9 y9n y10 y10n y11 y11n y12 y12n y13 y13n y14 y14n y15 y15n => ?_)
    refine tpk_2 hT ht_h0 (fun o16_x5 o16_x6 o16_x7 o16_x8 o16_x9 hf_o16 ro16_0 => ?_)
    refine tpk_pos (tp_in hG ht_h0 (by decide)) hf_o16 (fun q17 eq17 => ?_)
    refine va_get (D := (dC, dI)) (ci := 1) (v := .ref (ρ h0 0)) (C := RX1) (T := TX1) (N := 15) hx hb hts hfX1 hown hK hP q17 eq17 rfl 0 (by decide) (hts (.fieldLink RX1 40 "ColdShips$Planner" "world" "LColdShips$World;") wa_143) (fun _ h9 => h9) rfl dX1_extend_13 ?_
    refine tgk_11 hG y6 (fun y18 y18n y19 y19n y20 y21 y22 y23 y23m y23l y24 y24m y24l y25 y25m y25l y26 y26w y26m y26l y27 y27w y27m y27l y28 y28w y28m y28l y29 y29w y29m y29l => ?_)
    refine tpk_11 hT y6 (fun o30_x0 o30_x1 o30_x2 o30_x3 o30_x4 o30_x5 o30_x6 hf_o30 ro30_0 ro30_1 ro30_2 ro30_3 => ?_)
    refine tpk_pos (tp_in hG y6 (by decide)) hf_o30 (fun q31 eq31 => ?_)
    refine va_getN (D := (dC, dI)) (ci := 10) (v := .ref (ρ (ρ h0 0) 18)) (C := RX10) (T := TX10) (N := 19) hx hb hts hfX10 hown hK hP q31 eq31 rfl 18 (by decide) (va_Nw.use rfl (hN.1 (.fieldLinkNest RX1 50 "ColdShips$World" "cargoes" "LColdShips$Rows;" "ColdShips") nzw_86)) (fun _ h9 => h9) rfl dX1_extend_16 ?_
    refine tgk_5 hG y29 (fun y32 y32n y33a y33b y33c => ?_)
    refine tpk_5 hT y29 (fun o34_x0 o34_x2 hf_o34 ro34_0 ro34_1 => ?_)
    refine tpk_pos (tp_in hG y29 (by decide)) hf_o34 (fun q35 eq35 => ?_)
    have ro34_1 := tp_hu ro34_1
    refine va_getN (D := (dC, dI)) (ci := 4) (v := .int o34_x2) (C := RX4) (T := TX4) (N := 3) hx hb hts hfX4 hown hK hP q35 eq35 rfl 2 (by decide) (va_Nw.use rfl (hN.1 (.fieldLinkNest RX1 54 "ColdShips$Rows" "size" "I" "ColdShips") nzw_1)) (fun _ h9 => h9) rfl dX1_extend_19 ?_
    refine lv_icmp_ge (tgt := 137) hx hb dX1_extend_22 (by decide) (fun c36 => ?_) (fun c36 => ?_)
    · have ic36 : w2.toInt ≥ o34_x2.toInt := zi_ge rfl rfl c36
      exact W.vret hx hb hr (fun t ht hW => ⟨⟨f3, rfl, ⟨hT, hR, trivial⟩, by rw [ht]; exact hP, va_K.moved hW.alike hK, hD⟩, hS.F ht⟩) hS.2.2 dX1_extend_137
    · have ic36 : w2.toInt < o34_x2.toInt := zi_gef rfl rfl c36
      refine lv_iload hx hb dX1_extend_25 (lv_at hl 0 rfl) ?_
      refine lv_bipush (v := 6) hx hb dX1_extend_27 (by decide) ?_
      refine lv_icmp_ge (tgt := 137) hx hb dX1_extend_29 (by decide) (fun c37 => ?_) (fun c37 => ?_)
      · have ic37 : w2.toInt ≥ 6 := zi_ge rfl rfl c37
        exact W.vret hx hb hr (fun t ht hW => ⟨⟨f3, rfl, ⟨hT, hR, trivial⟩, by rw [ht]; exact hP, va_K.moved hW.alike hK, hD⟩, hS.F ht⟩) hS.2.2 dX1_extend_137
      · have ic37 : w2.toInt < 6 := zi_gef rfl rfl c37
        refine lv_iload_n hx hb dX1_extend_32 rfl (lv_at hl 4 rfl) ?_
        refine lv_iload hx hb dX1_extend_33 (lv_at hl 0 rfl) ?_
        refine lv_ishr hx hb dX1_extend_35 ?_
        refine lv_topi (fun z38 ez38 => ?_)
        refine lv_iconst (v := 1) hx hb dX1_extend_36 (by decide) ?_
        refine lv_iand hx hb dX1_extend_37 ?_
        refine lv_topi (fun z39 ez39 => ?_)
        have iz39 : 0 ≤ z39.toInt ∧ z39.toInt ≤ 1 := zb_mask ez39 (by decide)
        refine lv_if_ne (tgt := 131) hx hb dX1_extend_38 (by decide) (fun c40 => ?_) (fun c40 => ?_)
        · have ic40 : z39.toInt ≠ 0 := zi_ne rfl rfl c40
          obtain ⟨z41, ez41⟩ : ∃ y : Int32, y = w2 + 1 := ⟨_, rfl⟩
          refine lv_iinc (v := z41) (lv' := [(9, .int z41), (0, .ref h0), (1, .int v), (2, .int dd), (3, .int u), (4, .int a), (5, .int b), (6, .long x), (8, .int a6)]) hx hb dX1_extend_131 hl (k := 0) rfl (by rw [ez41]; rfl) (by decide) rfl (fun ls hl => ?_)
          have iz41 : z41.toInt = w2.toInt + 1 := zi_add ez41 rfl rfl (by omega) (by omega)
          refine lv_goto (tgt := 10) hx hb dX1_extend_134 (by decide) ?_
          exact ih4 _ _ _ _ (by rw [hn5]; omega) ⟨f3, z41, rfl, hT, hR, (by omega), hP, hD, hS, lv_sub hl [0, 1, 2, 3, 4, 5, 6, 7, 8] rfl⟩
        · have ic40 : z39.toInt = 0 := zi_nef rfl rfl c40
          refine lv_aload_n hx hb dX1_extend_41 rfl (lv_at hl 1 rfl) ?_
          refine lv_iload_n hx hb dX1_extend_42 rfl (lv_at hl 2 rfl) ?_
          refine lv_iload hx hb dX1_extend_43 (lv_at hl 0 rfl) ?_
          refine lv_iload hx hb dX1_extend_45 (lv_at hl 5 rfl) ?_
          refine lv_iload hx hb dX1_extend_47 (lv_at hl 6 rfl) ?_
          have hFc := tp_fr hD hS hA
          refine va_calli (va_runV (As := [.int v, .int w2, .int a, .int b]) (rest := []) ⟨hx, hb, hml, hown, hts⟩ (t_X1_reckon l dC dI _ Ω κ τ ν ρ L f3 hG hT h0 v w2 a b ht_h0 (by first | decide | omega)) (cwV 4 hts gX1_extend_X1_reckon rfl rfl rfl ⟨rfl, pd_X1_reckon⟩ ⟨Nat.le_of_ble_eq_true rfl, Nat.le_of_ble_eq_true rfl⟩) ⟨pz_blind, va_recv hK hP (ci := 1) (q0 := q17) rfl eq17, pz_pre hP hK hD hN⟩ rfl rfl hl.1 rfl (lv_room (Nat.le_of_ble_eq_true rfl)) dX1_extend_49 ⟨Nat.le_of_ble_eq_true rfl, Nat.le_of_ble_eq_true rfl⟩) hS (fun q _ h => hFc q h) hFc (fun r42 f44 t H1 locs ht hvm hw43 hB hz1 hk1 hS => ?_)
          refine tn_4 hw43 (fun hT hF45 hw43r hw43p => ?_); clear hw43
          have hR := hR.then hF45 (by decide)
          have hP := hB.1; rw [ht] at hP; have hD := tp_ad f44 hD; clear hB hFc hz1 hk1; subst ht; generalize t.heap = H at hP hS ⊢
          refine lv_if_eq (tgt := 131) hx hb dX1_extend_52 (by decide) (fun c46 => ?_) (fun c46 => ?_)
          · have ic46 : r42.toInt = 0 := zi_eq rfl rfl c46
            obtain ⟨z47, ez47⟩ : ∃ y : Int32, y = w2 + 1 := ⟨_, rfl⟩
            refine lv_iinc (v := z47) (lv' := [(9, .int z47), (0, .ref h0), (1, .int v), (2, .int dd), (3, .int u), (4, .int a), (5, .int b), (6, .long x), (8, .int a6)]) hx hb dX1_extend_131 hl (k := 0) rfl (by rw [ez47]; rfl) (by decide) rfl (fun ls hl => ?_)
            have iz47 : z47.toInt = w2.toInt + 1 := zi_add ez47 rfl rfl (by omega) (by omega)
            refine lv_goto (tgt := 10) hx hb dX1_extend_134 (by decide) ?_
            exact ih4 _ _ _ _ (by rw [hn5]; omega) ⟨f44, z47, rfl, hT, hR, (by omega), hP, hD, hS, lv_sub hl [0, 1, 2, 3, 4, 5, 6, 7, 8] rfl⟩
          · have ic46 : r42.toInt ≠ 0 := zi_eqf rfl rfl c46
            refine lv_iload_n hx hb dX1_extend_55 rfl (lv_at hl 4 rfl) ?_
            refine lv_iconst (v := 1) hx hb dX1_extend_56 (by decide) ?_
            refine lv_iload hx hb dX1_extend_57 (lv_at hl 0 rfl) ?_
            refine lv_ishl hx hb dX1_extend_59 ?_
            refine lv_topi (fun z48 ez48 => ?_)
            have iz48 : 1 ≤ z48.toInt ∧ z48.toInt ≤ 32 := zb_shl5 ez48 rfl (by omega) (by omega)
            refine lv_ior hx hb dX1_extend_60 ?_
            refine lv_topi (fun z49 ez49 => ?_)
            refine lv_istore (lv' := [(10, .int z49), (9, .int w2), (0, .ref h0), (1, .int v), (2, .int dd), (3, .int u), (4, .int a), (5, .int b), (6, .long x), (8, .int a6)]) hx hb dX1_extend_61 hl (by decide) rfl (fun ls hl => ?_)
            refine lv_iload hx hb dX1_extend_63 (lv_at hl 9 rfl) ?_
            refine lv_iload_n hx hb dX1_extend_65 rfl (lv_at hl 4 rfl) ?_
            refine lv_iconst (v := 3) hx hb dX1_extend_66 (by decide) ?_
            refine lv_iconst (v := 5) hx hb dX1_extend_67 (by decide) ?_
            refine lv_iload hx hb dX1_extend_68 (lv_at hl 1 rfl) ?_
            refine lv_isub hx hb dX1_extend_70 ?_
            refine lv_topi (fun z50 ez50 => ?_)
            have iz50 : z50.toInt = 5 - w2.toInt := zi_sub ez50 rfl rfl (by omega) (by omega)
            refine lv_imul hx hb dX1_extend_71 ?_
            refine lv_topi (fun z51 ez51 => ?_)
            have iz51 : z51.toInt = 3 * z50.toInt := zi_mul ez51 rfl rfl (by omega) (by omega)
            refine lv_ishl hx hb dX1_extend_72 ?_
            refine lv_topi (fun z52 ez52 => ?_)
            refine lv_ior hx hb dX1_extend_73 ?_
            refine lv_topi (fun z53 ez53 => ?_)
            refine lv_istore (lv' := [(11, .int z53), (10, .int z49), (9, .int w2), (0, .ref h0), (1, .int v), (2, .int dd), (3, .int u), (4, .int a), (5, .int b), (6, .long x), (8, .int a6)]) hx hb dX1_extend_74 hl (by decide) rfl (fun ls hl => ?_)
            refine lv_lload hx hb dX1_extend_76 (lv_at hl 9 rfl) ?_
            refine lv_aload_n hx hb dX1_extend_78 rfl (lv_at hl 3 rfl) ?_
            refine tpk_2 hT ht_h0 (fun o54_x5 o54_x6 o54_x7 o54_x8 o54_x9 hf_o54 ro54_0 => ?_)
            refine tpk_pos (tp_in hG ht_h0 (by decide)) hf_o54 (fun q55 eq55 => ?_)
            refine va_get (D := (dC, dI)) (ci := 1) (v := .long o54_x8) (C := RX1) (T := TX1) (N := 15) hx hb hts hfX1 hown hK hP q55 eq55 rfl 8 (by decide) (hts (.fieldLink RX1 108 "ColdShips$Planner" "worth" "J") wa_1356) (fun _ h9 => h9) rfl dX1_extend_79 ?_
            refine lv_ladd hx hb dX1_extend_82 ?_
            refine lv_topl (fun z56 ez56 => ?_)
            refine lv_lstore (lv' := [(12, .long z56), (11, .int z53), (10, .int z49), (9, .int w2), (0, .ref h0), (1, .int v), (2, .int dd), (3, .int u), (4, .int a), (5, .int b), (6, .long x), (8, .int a6)]) hx hb dX1_extend_83 hl (by decide) rfl (fun ls hl => ?_)
            refine lv_aload_n hx hb dX1_extend_85 rfl (lv_at hl 4 rfl) ?_
            refine lv_iload_n hx hb dX1_extend_86 rfl (lv_at hl 5 rfl) ?_
            refine lv_bipush (v := 64) hx hb dX1_extend_87 (by decide) ?_
            refine lv_imul hx hb dX1_extend_89 ?_
            refine lv_topi (fun z57 ez57 => ?_)
            have iz57 : z57.toInt = v.toInt * 64 := zi_mul ez57 rfl rfl (by omega) (by omega)
            refine lv_iload hx hb dX1_extend_90 (lv_at hl 2 rfl) ?_
            refine lv_iadd hx hb dX1_extend_92 ?_
            refine lv_topi (fun z58 ez58 => ?_)
            refine lv_lload hx hb dX1_extend_93 (lv_at hl 0 rfl) ?_
            refine lv_iload hx hb dX1_extend_95 (lv_at hl 1 rfl) ?_
            have hFc := tp_fr hD hS hA
            refine va_callv (va_runV (As := [.int z58, .long z56, .int z53]) (rest := []) ⟨hx, hb, hml, hown, hts⟩ (t_X1_keepRow l dC dI _ Ω κ τ ν ρ L f44 hG hT h0 z58 z56 z53 ht_h0) (cwV 3 hts gX1_extend_X1_keepRow rfl rfl rfl ⟨rfl, pd_X1_keepRow⟩ ⟨Nat.le_of_ble_eq_true rfl, Nat.le_of_ble_eq_true rfl⟩) ⟨pz_blind, va_recv hK hP (ci := 1) (q0 := q55) rfl eq55, pz_pre hP hK hD hN⟩ rfl rfl hl.1 rfl (lv_room (Nat.le_of_ble_eq_true rfl)) dX1_extend_97 ⟨Nat.le_of_ble_eq_true rfl, Nat.le_of_ble_eq_true rfl⟩) hS (fun q _ h => hFc q h) hFc (fun f61 t H1 locs ht hvm hw60 hB hz1 hk1 hS => ?_)
            refine tn_3 hw60 (fun hT hF62 hw60p => ?_); clear hw60
            have hR := hR.then hF62 (by decide)
            have hP := hB.1; rw [ht] at hP; have hD := tp_ad f61 hD; clear hB hFc hz1 hk1; subst ht; generalize t.heap = H at hP hS ⊢
            refine lv_aload_n hx hb dX1_extend_100 rfl (lv_at hl 4 rfl) ?_
            refine lv_iload_n hx hb dX1_extend_101 rfl (lv_at hl 5 rfl) ?_
            refine lv_iload_n hx hb dX1_extend_102 rfl (lv_at hl 6 rfl) ?_
            refine lv_iconst (v := 1) hx hb dX1_extend_103 (by decide) ?_
            refine lv_iadd hx hb dX1_extend_104 ?_
            refine lv_topi (fun z63 ez63 => ?_)
            have iz63 : z63.toInt = dd.toInt + 1 := zi_add ez63 rfl rfl (by omega) (by omega)
            refine lv_iload hx hb dX1_extend_105 (lv_at hl 2 rfl) ?_
            refine lv_aload_n hx hb dX1_extend_107 rfl (lv_at hl 4 rfl) ?_
            have hf_64 : f61 h0 = .inr (1, [.ref (ρ h0 0), .ref (ρ h0 1), .ref (ρ h0 2), .ref (ρ h0 3), .ref (ρ h0 4), .int o54_x5, .int o54_x6, .int o54_x7, .long o54_x8, .int o54_x9, .ref (ρ h0 10), .ref (ρ h0 11), .ref (ρ h0 12), .ref (ρ h0 13), .ref (ρ h0 14)]) := (hF62 _ (by rw [ht_h0]; decide)).trans hf_o54
            refine tpk_pos (tp_in hG ht_h0 (by decide)) hf_64 (fun q65 eq65 => ?_)
            refine va_get (D := (dC, dI)) (ci := 1) (v := .ref (ρ h0 0)) (C := RX1) (T := TX1) (N := 15) hx hb hts hfX1 hown hK hP q65 eq65 rfl 0 (by decide) (hts (.fieldLink RX1 40 "ColdShips$Planner" "world" "LColdShips$World;") wa_143) (fun _ h9 => h9) rfl dX1_extend_108 ?_
            have hf_66 : f44 (ρ h0 0) = .inr (10, [.int o30_x0, .int o30_x1, .int o30_x2, .int o30_x3, .int o30_x4, .int o30_x5, .int o30_x6, .ref (ρ (ρ h0 0) 7), .ref (ρ (ρ h0 0) 8), .ref (ρ (ρ h0 0) 9), .ref (ρ (ρ h0 0) 10), .ref (ρ (ρ h0 0) 11), .ref (ρ (ρ h0 0) 12), .ref (ρ (ρ h0 0) 13), .ref (ρ (ρ h0 0) 14), .ref (ρ (ρ h0 0) 15), .ref (ρ (ρ h0 0) 16), .ref (ρ (ρ h0 0) 17), .ref (ρ (ρ h0 0) 18)]) := (hF45 _ (by rw [tp_iu y6]; decide)).trans hf_o30
            have hf_67 : f61 (ρ h0 0) = .inr (10, [.int o30_x0, .int o30_x1, .int o30_x2, .int o30_x3, .int o30_x4, .int o30_x5, .int o30_x6, .ref (ρ (ρ h0 0) 7), .ref (ρ (ρ h0 0) 8), .ref (ρ (ρ h0 0) 9), .ref (ρ (ρ h0 0) 10), .ref (ρ (ρ h0 0) 11), .ref (ρ (ρ h0 0) 12), .ref (ρ (ρ h0 0) 13), .ref (ρ (ρ h0 0) 14), .ref (ρ (ρ h0 0) 15), .ref (ρ (ρ h0 0) 16), .ref (ρ (ρ h0 0) 17), .ref (ρ (ρ h0 0) 18)]) := (hF62 _ (by rw [tp_iu y6]; decide)).trans hf_66
            refine tpk_pos (tp_in hG y6 (by decide)) hf_67 (fun q68 eq68 => ?_)
            refine va_getN (D := (dC, dI)) (ci := 10) (v := .ref (ρ (ρ h0 0) 18)) (C := RX10) (T := TX10) (N := 19) hx hb hts hfX10 hown hK hP q68 eq68 rfl 18 (by decide) (va_Nw.use rfl (hN.1 (.fieldLinkNest RX1 50 "ColdShips$World" "cargoes" "LColdShips$Rows;" "ColdShips") nzw_86)) (fun _ h9 => h9) rfl dX1_extend_111 ?_
            refine lv_iload hx hb dX1_extend_114 (lv_at hl 3 rfl) ?_
            refine lv_iconst (v := 1) hx hb dX1_extend_116 (by decide) ?_
            have hf_69 : f44 (ρ (ρ h0 0) 18) = .inr (4, [.int o34_x0, .ref (ρ (ρ (ρ h0 0) 18) 1), .int o34_x2]) := (hF45 _ (by rw [tp_iu y29]; decide)).trans hf_o34
            have hf_70 : f61 (ρ (ρ h0 0) 18) = .inr (4, [.int o34_x0, .ref (ρ (ρ (ρ h0 0) 18) 1), .int o34_x2]) := (hF62 _ (by rw [tp_iu y29]; decide)).trans hf_69
            refine tpk_pos (tp_in hG y29 (by decide)) hf_70 (fun q71 eq71 => ?_)
            refine pz_calli (va_runV (As := [.int w2, .int 1]) (rest := [.int z49, .int z63, .int v, .ref h0]) ⟨hx, hb, hml, hown, hts⟩ (t_X4_number l dC dI _ Ω κ τ ν ρ L f61 hG hT (ρ (ρ h0 0) 18) w2 (1) y29) (cwV 2 hts gX1_extend_X4_number rfl rfl rfl ⟨rfl, pd_X4_number⟩ ⟨Nat.le_of_ble_eq_true rfl, Nat.le_of_ble_eq_true rfl⟩) ⟨pz_blind, va_recv hK hP (ci := 4) (q0 := q71) rfl eq71, pz_pre hP hK hD hN⟩ rfl rfl hl.1 rfl (lv_room (Nat.le_of_ble_eq_true rfl)) dX1_extend_117 ⟨Nat.le_of_ble_eq_true rfl, Nat.le_of_ble_eq_true rfl⟩) (fun r72 hw73 => ?_)
            obtain ⟨hw73r, hw73p⟩ := hw73
            refine lv_aload_n hx hb dX1_extend_120 rfl (lv_at hl 4 rfl) ?_
            refine va_get (D := (dC, dI)) (ci := 1) (v := .int o54_x7) (C := RX1) (T := TX1) (N := 15) hx hb hts hfX1 hown hK hP q65 eq65 rfl 7 (by decide) (hts (.fieldLink RX1 119 "ColdShips$Planner" "freeAt" "I") wa_1357) (fun _ h9 => h9) rfl dX1_extend_121 ?_
            refine lv_lload hx hb dX1_extend_124 (lv_at hl 0 rfl) ?_
            refine lv_iload hx hb dX1_extend_126 (lv_at hl 1 rfl) ?_
            have hFc := tp_fr hD hS hA
            refine va_callv (va_runV (As := [.int v, .int z63, .int z49, .int r72, .int o54_x7, .long z56, .int z53]) (rest := []) ⟨hx, hb, hml, hown, hts⟩ (t_X1_extend1 l dC dI _ Ω κ τ ν ρ L f61 hG hT h0 v z63 z49 r72 o54_x7 z56 z53 ht_h0 (by first | decide | omega) (by first | decide | omega)) (cwV 7 hts gX1_extend_X1_extend rfl rfl rfl ⟨rfl, pd_X1_extend⟩ ⟨Nat.le_of_ble_eq_true rfl, Nat.le_of_ble_eq_true rfl⟩) ⟨pz_blind, va_recv hK hP (ci := 1) (q0 := q65) rfl eq65, pz_pre hP hK hD hN⟩ rfl rfl hl.1 rfl (lv_room (Nat.le_of_ble_eq_true rfl)) dX1_extend_128 ⟨Nat.le_of_ble_eq_true rfl, Nat.le_of_ble_eq_true rfl⟩) hS (fun q _ h => hFc q h) hFc (fun f76 t H1 locs ht hvm hw75 hB hz1 hk1 hS => ?_)
            refine tn_3 hw75 (fun hT hF77 hw75p => ?_); clear hw75
            have hR := hR.then hF77 (by decide)
            have hP := hB.1; rw [ht] at hP; have hD := tp_ad f76 hD; clear hB hFc hz1 hk1; subst ht; generalize t.heap = H at hP hS ⊢
            obtain ⟨z78, ez78⟩ : ∃ y : Int32, y = w2 + 1 := ⟨_, rfl⟩
            refine lv_iinc (v := z78) (lv' := [(9, .int z78), (12, .long z56), (11, .int z53), (10, .int z49), (0, .ref h0), (1, .int v), (2, .int dd), (3, .int u), (4, .int a), (5, .int b), (6, .long x), (8, .int a6)]) hx hb dX1_extend_131 hl (k := 3) rfl (by rw [ez78]; rfl) (by decide) rfl (fun ls hl => ?_)
            have iz78 : z78.toInt = w2.toInt + 1 := zi_add ez78 rfl rfl (by omega) (by omega)
            refine lv_goto (tgt := 10) hx hb dX1_extend_134 (by decide) ?_
            exact ih4 _ _ _ _ (by rw [hn5]; omega) ⟨f76, z78, rfl, hT, hR, (by omega), hP, hD, hS, lv_sub hl [0, 4, 5, 6, 7, 8, 9, 10, 11] rfl⟩
  · have ic1 : dd.toInt ≥ 6 := zi_ltf rfl rfl c1
    exfalso; omega
set_option maxHeartbeats 4000000 in
set_option maxRecDepth 100000 in
theorem t_X1_joinSets (l : Launch) (dC : Nat → ClassId) (dI : Nat → Nat → Nat) (sz : Nat) (Ω : Nat → Nat → (Nat → Nat) → va_E → Prop) (κ : Nat → ClassId) (τ ν : Nat → Nat) (ρ : Nat → Nat → Nat) (L : List Nat) (f : Nat → va_E) (hG : tp_G τ ν ρ L) (hT : tp_T Ω κ τ ν ρ f) (h0 : Nat) (v : Int32) (u : Int32) (a : Int32) (ht_h0 : τ h0 = 2) (hr_v : 0 ≤ v.toInt ∧ v.toInt ≤ 2) (hr_u : 0 ≤ u.toInt ∧ u.toInt ≤ 63) (hr_a : 0 ≤ a.toInt ∧ a.toInt ≤ 63) : Met l yX1_joinSets wqX1_joinSets ({ frames := 2, cells := 0, slots := 0, locals := 400 }) (va_Pc [.ref h0, .int v, .int u, .int a] (pz_B dC dI (tp_K κ) (va_pl L f) sz)) (va_Qv (fun (f1 : Nat → va_E) => tp_T Ω κ τ ν ρ f1 ∧ tp_F τ [20, 21] f f1 ∧ True) (fun (f1 : Nat → va_E) (t : State) => pz_E dC dI (tp_K κ) (va_A (va_pl L f) sz) (va_pl L f1) t) (va_A (va_pl L f) sz)) 0 0 (va_A (va_pl L f) sz) := by
  refine Met.ofW (cc := cX1_joinSets) (maxL := 10) (ret := none) (by decide) rfl ?_
  intro p e s m args below meth c s₁ B hml hv
  obtain ⟨rfl, hsz, hP, hK, hD0, hN⟩ := hv
  have hx := B.exec
  have hb := B.bytes
  have hr := B.returns
  have hts := fun (w : Cond) (h : w ∈ WALL) => atoms_spec (ws := wqX1_joinSets) B.pre w (List.mem_cons_of_mem _ h)
  have hown : s.vm.findClass RX1 = some m.cls := findClass_of_methodNamed B.named
  have hlocks := B.notSynchronized
  subst hsz
  have hD := hD0.self (sz := s.heap.size)
  generalize hAe : va_A (va_pl L f) s.heap.size = A at hD ⊢
  have hA : ∀ q : Nat, s.heap.size ≤ q → A q := fun q h => by rw [← hAe]; exact Or.inr h
  have hS : va_S A s.heap s.heap [] := va_S.rf
  have hR : tp_F τ [20, 21] f f := tp_F.rf
  have hl := lv_entry ([.ref h0, .int v, .int u, .int a]) (n := 10) (Nat.le_of_ble_eq_true rfl)
  rw [lg_entry_eq]
  generalize (lg_sl ([.ref h0, .int v, .int u, .int a]) ++ List.replicate (10 - (lg_sl ([.ref h0, .int v, .int u, .int a])).length) Slot.unset).toArray = ls at hl ⊢
  have hl : lv_has ls 10 [(0, .ref h0), (1, .int v), (2, .int u), (3, .int a)] := hl
  refine lv_iload_n hx hb dX1_joinSets_0 rfl (lv_at hl 2 rfl) ?_
  refine lv_iload_n hx hb dX1_joinSets_1 rfl (lv_at hl 3 rfl) ?_
  refine lv_iconst (v := (-1)) hx hb dX1_joinSets_2 (by decide) ?_
  refine lv_ixor hx hb dX1_joinSets_3 ?_
  refine lv_topi (fun z1 ez1 => ?_)
  refine lv_iand hx hb dX1_joinSets_4 ?_
  refine lv_topi (fun z2 ez2 => ?_)
  have iz2 : 0 ≤ z2.toInt ∧ z2.toInt ≤ u.toInt := zb_and ez2 rfl (by omega)
  refine lv_istore (lv' := [(4, .int z2), (0, .ref h0), (1, .int v), (2, .int u), (3, .int a)]) hx hb dX1_joinSets_5 hl (by decide) rfl (fun ls hl => ?_)
  refine lv_aload_n hx hb dX1_joinSets_7 rfl (lv_at hl 1 rfl) ?_
  refine tgk_2 hG ht_h0 (fun y3 y3l y4 y4n y5 y5n y6 y6n y7 y7n y8 y8n y9 y9n y10 y10n y11 y11n y12 y12n => ?_)
  refine tpk_2 hT ht_h0 (fun o13_x5 o13_x6 o13_x7 o13_x8 o13_x9 hf_o13 ro13_0 => ?_)
  refine tpk_pos (tp_in hG ht_h0 (by decide)) hf_o13 (fun q14 eq14 => ?_)
  refine va_get (D := (dC, dI)) (ci := 1) (v := .ref (ρ h0 3)) (C := RX1) (T := TX1) (N := 15) hx hb hts hfX1 hown hK hP q14 eq14 rfl 3 (by decide) (hts (.fieldLink RX1 19 "ColdShips$Planner" "setWorths" "[J") wa_136) (fun _ h9 => h9) rfl dX1_joinSets_8 ?_
  refine lv_iload hx hb dX1_joinSets_11 (lv_at hl 0 rfl) ?_
  refine tpk_21 hT y6 y6n (fun g16 hf_o15 => ?_)
  refine tpk_pos (tp_in hG y6 (by decide)) hf_o15 (fun q17 eq17 => ?_)
  refine va_lald hx hb hK hP q17 1 eq17 rfl (vp_in_iff.mpr ⟨by omega, by omega⟩) dX1_joinSets_13 ?_
  refine lv_topl (fun z18 ez18 => ?_)
  refine lv_aload_n hx hb dX1_joinSets_14 rfl (lv_at hl 1 rfl) ?_
  refine va_get (D := (dC, dI)) (ci := 1) (v := .ref (ρ h0 1)) (C := RX1) (T := TX1) (N := 15) hx hb hts hfX1 hown hK hP q14 eq14 rfl 1 (by decide) (hts (.fieldLink RX1 11 "ColdShips$Planner" "rowWorths" "[J") wa_134) (fun _ h9 => h9) rfl dX1_joinSets_15 ?_
  refine lv_iload_n hx hb dX1_joinSets_18 rfl (lv_at hl 2 rfl) ?_
  refine lv_bipush (v := 64) hx hb dX1_joinSets_19 (by decide) ?_
  refine lv_imul hx hb dX1_joinSets_21 ?_
  refine lv_topi (fun z19 ez19 => ?_)
  have iz19 : z19.toInt = v.toInt * 64 := zi_mul ez19 rfl rfl (by omega) (by omega)
  refine lv_iload_n hx hb dX1_joinSets_22 rfl (lv_at hl 4 rfl) ?_
  refine lv_iadd hx hb dX1_joinSets_23 ?_
  refine lv_topi (fun z20 ez20 => ?_)
  have iz20 : z20.toInt = z19.toInt + a.toInt := zi_add ez20 rfl rfl (by omega) (by omega)
  refine tpk_21 hT y4 y4n (fun g22 hf_o21 => ?_)
  refine tpk_pos (tp_in hG y4 (by decide)) hf_o21 (fun q23 eq23 => ?_)
  refine va_lald hx hb hK hP q23 1 eq23 rfl (vp_in_iff.mpr ⟨by omega, by omega⟩) dX1_joinSets_24 ?_
  refine lv_topl (fun z24 ez24 => ?_)
  refine lv_ladd hx hb dX1_joinSets_25 ?_
  refine lv_topl (fun z25 ez25 => ?_)
  refine lv_lstore (lv' := [(5, .long z25), (4, .int z2), (0, .ref h0), (1, .int v), (2, .int u), (3, .int a)]) hx hb dX1_joinSets_26 hl (by decide) rfl (fun ls hl => ?_)
  refine lv_lload hx hb dX1_joinSets_28 (lv_at hl 0 rfl) ?_
  refine lv_aload_n hx hb dX1_joinSets_30 rfl (lv_at hl 2 rfl) ?_
  refine va_get (D := (dC, dI)) (ci := 1) (v := .ref (ρ h0 3)) (C := RX1) (T := TX1) (N := 15) hx hb hts hfX1 hown hK hP q14 eq14 rfl 3 (by decide) (hts (.fieldLink RX1 19 "ColdShips$Planner" "setWorths" "[J") wa_136) (fun _ h9 => h9) rfl dX1_joinSets_31 ?_
  refine lv_iload_n hx hb dX1_joinSets_34 rfl (lv_at hl 4 rfl) ?_
  refine va_lald hx hb hK hP q17 1 eq17 rfl (vp_in_iff.mpr ⟨by omega, by omega⟩) dX1_joinSets_35 ?_
  refine lv_topl (fun z26 ez26 => ?_)
  refine W.lcmp hx hb dX1_joinSets_36 ?_
  refine lv_if_ge (tgt := 41) hx hb dX1_joinSets_37 (by decide) (fun c27 => ?_) (fun c27 => ?_)
  · have ic27 : z25.toInt ≥ z26.toInt := zl_ge rfl rfl c27
    refine lv_aload_n hx hb dX1_joinSets_41 rfl (lv_at hl 2 rfl) ?_
    refine va_get (D := (dC, dI)) (ci := 1) (v := .ref (ρ h0 4)) (C := RX1) (T := TX1) (N := 15) hx hb hts hfX1 hown hK hP q14 eq14 rfl 4 (by decide) (hts (.fieldLink RX1 22 "ColdShips$Planner" "setShips" "[I") wa_137) (fun _ h9 => h9) rfl dX1_joinSets_42 ?_
    refine lv_iload hx hb dX1_joinSets_45 (lv_at hl 1 rfl) ?_
    refine tpk_20 hT y7 y7n (fun g29 hf_o28 => ?_)
    refine tpk_pos (tp_in hG y7 (by decide)) hf_o28 (fun q30 eq30 => ?_)
    refine va_iald hx hb hK hP q30 0 eq30 rfl (vp_in_iff.mpr ⟨by omega, by omega⟩) dX1_joinSets_47 ?_
    refine lv_topi (fun z31 ez31 => ?_)
    refine lv_istore (lv' := [(7, .int z31), (5, .long z25), (4, .int z2), (0, .ref h0), (1, .int v), (2, .int u), (3, .int a)]) hx hb dX1_joinSets_48 hl (by decide) rfl (fun ls hl => ?_)
    refine lv_iconst (v := 0) hx hb dX1_joinSets_50 (by decide) ?_
    refine lv_istore (lv' := [(8, .int 0), (7, .int z31), (5, .long z25), (4, .int z2), (0, .ref h0), (1, .int v), (2, .int u), (3, .int a)]) hx hb dX1_joinSets_51 hl (by decide) rfl (fun ls hl => ?_)
    refine pz_loop (fun n0 H locs ls => ∃ w32 : Int32, ∃ w33 : Int32, n0 = (6 - (w32.toInt)).toNat ∧ (0 ≤ w32.toInt ∧ w32.toInt ≤ 6) ∧ va_P (dC, dI) vwCl (va_pl L f) H ∧ va_D A (va_pl L f) ∧ va_S A s.heap H locs ∧ lv_has ls 10 [(8, .int w32), (7, .int w33), (5, .long z25), (4, .int z2), (0, .ref h0), (1, .int v), (2, .int u), (3, .int a)]) ?_ _ _ _ _ ⟨0, z31, rfl, (by have : (0 : Int32).toInt = 0 := rfl; omega), hP, hD, hS, lv_sub hl [0, 1, 2, 3, 4, 5, 6, 7] rfl⟩
    intro n0 H locs ls hI ih34
    refine Exists.elim hI (fun w32 hE90 => Exists.elim hE90 (fun w33 hE91 => tn_6 hE91 (fun hn35 rw32 hP hD hS hl => ?_)))
    clear hE91 hE90 hI
    refine lv_iload hx hb dX1_joinSets_53 (lv_at hl 0 rfl) ?_
    refine lv_bipush (v := 6) hx hb dX1_joinSets_55 (by decide) ?_
    refine lv_icmp_ge (tgt := 100) hx hb dX1_joinSets_57 (by decide) (fun c36 => ?_) (fun c36 => ?_)
    · have ic36 : w32.toInt ≥ 6 := zi_ge rfl rfl c36
      refine lv_lload hx hb dX1_joinSets_100 (lv_at hl 2 rfl) ?_
      refine lv_aload_n hx hb dX1_joinSets_102 rfl (lv_at hl 4 rfl) ?_
      refine va_get (D := (dC, dI)) (ci := 1) (v := .ref (ρ h0 3)) (C := RX1) (T := TX1) (N := 15) hx hb hts hfX1 hown hK hP q14 eq14 rfl 3 (by decide) (hts (.fieldLink RX1 19 "ColdShips$Planner" "setWorths" "[J") wa_136) (fun _ h9 => h9) rfl dX1_joinSets_103 ?_
      refine lv_iload_n hx hb dX1_joinSets_106 rfl (lv_at hl 6 rfl) ?_
      refine va_lald hx hb hK hP q17 1 eq17 rfl (vp_in_iff.mpr ⟨by omega, by omega⟩) dX1_joinSets_107 ?_
      refine lv_topl (fun z37 ez37 => ?_)
      refine tp_join 123 (fun H locs ls stk => stk = [] ∧ va_P (dC, dI) vwCl (va_pl L f) H ∧ va_D A (va_pl L f) ∧ va_S A s.heap H locs ∧ lv_has ls 10 [(8, .int w32), (7, .int w33), (5, .long z25), (4, .int z2), (0, .ref h0), (1, .int v), (2, .int u), (3, .int a)]) ?_ (fun hj38 => ?_)
      · intro H locs ls stk hI
        refine tn_5 hI (fun e90 hP hD hS hl => ?_)
        clear hI; subst e90
        refine lv_aload_n hx hb dX1_joinSets_123 rfl (lv_at hl 4 rfl) ?_
        refine va_get (D := (dC, dI)) (ci := 1) (v := .ref (ρ h0 3)) (C := RX1) (T := TX1) (N := 15) hx hb hts hfX1 hown hK hP q14 eq14 rfl 3 (by decide) (hts (.fieldLink RX1 19 "ColdShips$Planner" "setWorths" "[J") wa_136) (fun _ h9 => h9) rfl dX1_joinSets_124 ?_
        refine lv_iload_n hx hb dX1_joinSets_127 rfl (lv_at hl 6 rfl) ?_
        refine lv_lload hx hb dX1_joinSets_128 (lv_at hl 2 rfl) ?_
        refine va_last hx hb hK hP hD hS q17 1 eq17 rfl (vp_in_iff.mpr ⟨by omega, by omega⟩) dX1_joinSets_130 (tp_k (.inl (κ 1, 64, .inr (.inl (vp_updL g16 u.toNatClampNeg z25)))) hD (tp_in hG y6 (by decide)) eq17 (fun f39 H locs hP hD hS g41 k40 => ?_))
        have hT := hT.up y6 g41 k40 (tp_o21 y6n)
        have hR := hR.up y6 (by decide) k40
        generalize (vp_updL g16 u.toNatClampNeg z25) = g42 at g41
        refine lv_aload_n hx hb dX1_joinSets_131 rfl (lv_at hl 4 rfl) ?_
        have hf_43 : f39 h0 = .inr (1, [.ref (ρ h0 0), .ref (ρ h0 1), .ref (ρ h0 2), .ref (ρ h0 3), .ref (ρ h0 4), .int o13_x5, .int o13_x6, .int o13_x7, .long o13_x8, .int o13_x9, .ref (ρ h0 10), .ref (ρ h0 11), .ref (ρ h0 12), .ref (ρ h0 13), .ref (ρ h0 14)]) := (k40 _ (tp_ne ht_h0 y6 (by decide))).trans hf_o13
        refine tpk_pos (tp_in hG ht_h0 (by decide)) hf_43 (fun q44 eq44 => ?_)
        refine va_get (D := (dC, dI)) (ci := 1) (v := .ref (ρ h0 4)) (C := RX1) (T := TX1) (N := 15) hx hb hts hfX1 hown hK hP q44 eq44 rfl 4 (by decide) (hts (.fieldLink RX1 22 "ColdShips$Planner" "setShips" "[I") wa_137) (fun _ h9 => h9) rfl dX1_joinSets_132 ?_
        refine lv_iload_n hx hb dX1_joinSets_135 rfl (lv_at hl 6 rfl) ?_
        refine lv_iload hx hb dX1_joinSets_136 (lv_at hl 1 rfl) ?_
        have hf_45 : f39 (ρ h0 4) = .inl (κ 0, 64, .inl g29) := (k40 _ (tp_ne y7 y6 (by decide))).trans hf_o28
        refine tpk_pos (tp_in hG y7 (by decide)) hf_45 (fun q46 eq46 => ?_)
        refine va_iast hx hb hK hP hD hS q46 0 eq46 rfl (vp_in_iff.mpr ⟨by omega, by omega⟩) dX1_joinSets_138 (tp_k (.inl (κ 0, 64, .inl (upd g29 u.toNatClampNeg w33))) hD (tp_in hG y7 (by decide)) eq46 (fun f47 H locs hP hD hS g49 k48 => ?_))
        have hT := hT.up y7 g49 k48 (tp_o20 y7n)
        have hR := hR.up y7 (by decide) k48
        generalize (upd g29 u.toNatClampNeg w33) = g50 at g49
        exact W.vret hx hb hr (fun t ht hW => ⟨⟨f47, rfl, ⟨hT, hR, trivial⟩, by rw [ht]; exact hP, va_K.moved hW.alike hK, hD⟩, hS.F ht⟩) hS.2.2 dX1_joinSets_139
      · refine W.lcmp hx hb dX1_joinSets_108 ?_
        refine lv_if_gt (tgt := 123) hx hb dX1_joinSets_109 (by decide) (fun c51 => ?_) (fun c51 => ?_)
        · have ic51 : z25.toInt > z37.toInt := zl_gt rfl rfl c51
          exact hj38 _ _ _ _ ⟨rfl, hP, hD, hS, lv_sub hl [0, 1, 2, 3, 4, 5, 6, 7] rfl⟩
        · have ic51 : z25.toInt ≤ z37.toInt := zl_gtf rfl rfl c51
          refine lv_iload hx hb dX1_joinSets_112 (lv_at hl 1 rfl) ?_
          refine lv_aload_n hx hb dX1_joinSets_114 rfl (lv_at hl 4 rfl) ?_
          refine va_get (D := (dC, dI)) (ci := 1) (v := .ref (ρ h0 4)) (C := RX1) (T := TX1) (N := 15) hx hb hts hfX1 hown hK hP q14 eq14 rfl 4 (by decide) (hts (.fieldLink RX1 22 "ColdShips$Planner" "setShips" "[I") wa_137) (fun _ h9 => h9) rfl dX1_joinSets_115 ?_
          refine lv_iload_n hx hb dX1_joinSets_118 rfl (lv_at hl 6 rfl) ?_
          refine va_iald hx hb hK hP q30 0 eq30 rfl (vp_in_iff.mpr ⟨by omega, by omega⟩) dX1_joinSets_119 ?_
          refine lv_topi (fun z52 ez52 => ?_)
          refine lv_icmp_ge (tgt := 139) hx hb dX1_joinSets_120 (by decide) (fun c53 => ?_) (fun c53 => ?_)
          · have ic53 : w33.toInt ≥ z52.toInt := zi_ge rfl rfl c53
            exact W.vret hx hb hr (fun t ht hW => ⟨⟨f, rfl, ⟨hT, hR, trivial⟩, by rw [ht]; exact hP, va_K.moved hW.alike hK, hD⟩, hS.F ht⟩) hS.2.2 dX1_joinSets_139
          · have ic53 : w33.toInt < z52.toInt := zi_gef rfl rfl c53
            exact hj38 _ _ _ _ ⟨rfl, hP, hD, hS, lv_sub hl [0, 1, 2, 3, 4, 5, 6, 7] rfl⟩
    · have ic36 : w32.toInt < 6 := zi_gef rfl rfl c36
      refine lv_iload_n hx hb dX1_joinSets_60 rfl (lv_at hl 7 rfl) ?_
      refine lv_iload hx hb dX1_joinSets_61 (lv_at hl 0 rfl) ?_
      refine lv_ishr hx hb dX1_joinSets_63 ?_
      refine lv_topi (fun z54 ez54 => ?_)
      refine lv_iconst (v := 1) hx hb dX1_joinSets_64 (by decide) ?_
      refine lv_iand hx hb dX1_joinSets_65 ?_
      refine lv_topi (fun z55 ez55 => ?_)
      have iz55 : 0 ≤ z55.toInt ∧ z55.toInt ≤ 1 := zb_mask ez55 (by decide)
      refine lv_iconst (v := 1) hx hb dX1_joinSets_66 (by decide) ?_
      refine lv_icmp_ne (tgt := 94) hx hb dX1_joinSets_67 (by decide) (fun c56 => ?_) (fun c56 => ?_)
      · have ic56 : z55.toInt ≠ 1 := zi_ne rfl rfl c56
        obtain ⟨z57, ez57⟩ : ∃ y : Int32, y = w32 + 1 := ⟨_, rfl⟩
        refine lv_iinc (v := z57) (lv' := [(8, .int z57), (7, .int w33), (5, .long z25), (4, .int z2), (0, .ref h0), (1, .int v), (2, .int u), (3, .int a)]) hx hb dX1_joinSets_94 hl (k := 0) rfl (by rw [ez57]; rfl) (by decide) rfl (fun ls hl => ?_)
        have iz57 : z57.toInt = w32.toInt + 1 := zi_add ez57 rfl rfl (by omega) (by omega)
        refine lv_goto (tgt := 53) hx hb dX1_joinSets_97 (by decide) ?_
        exact ih34 _ _ _ _ (by rw [hn35]; omega) ⟨z57, w33, rfl, (by omega), hP, hD, hS, lv_sub hl [0, 1, 2, 3, 4, 5, 6, 7] rfl⟩
      · have ic56 : z55.toInt = 1 := zi_nef rfl rfl c56
        refine lv_iconst (v := 2) hx hb dX1_joinSets_70 (by decide) ?_
        refine lv_iconst (v := 5) hx hb dX1_joinSets_71 (by decide) ?_
        refine lv_iload hx hb dX1_joinSets_72 (lv_at hl 0 rfl) ?_
        refine lv_isub hx hb dX1_joinSets_74 ?_
        refine lv_topi (fun z58 ez58 => ?_)
        have iz58 : z58.toInt = 5 - w32.toInt := zi_sub ez58 rfl rfl (by omega) (by omega)
        refine lv_imul hx hb dX1_joinSets_75 ?_
        refine lv_topi (fun z59 ez59 => ?_)
        have iz59 : z59.toInt = 2 * z58.toInt := zi_mul ez59 rfl rfl (by omega) (by omega)
        refine lv_istore (lv' := [(9, .int z59), (8, .int w32), (7, .int w33), (5, .long z25), (4, .int z2), (0, .ref h0), (1, .int v), (2, .int u), (3, .int a)]) hx hb dX1_joinSets_76 hl (by decide) rfl (fun ls hl => ?_)
        refine lv_iload hx hb dX1_joinSets_78 (lv_at hl 2 rfl) ?_
        refine lv_iconst (v := 3) hx hb dX1_joinSets_80 (by decide) ?_
        refine lv_iload hx hb dX1_joinSets_81 (lv_at hl 0 rfl) ?_
        refine lv_ishl hx hb dX1_joinSets_83 ?_
        refine lv_topi (fun z60 ez60 => ?_)
        refine lv_iconst (v := (-1)) hx hb dX1_joinSets_84 (by decide) ?_
        refine lv_ixor hx hb dX1_joinSets_85 ?_
        refine lv_topi (fun z61 ez61 => ?_)
        refine lv_iand hx hb dX1_joinSets_86 ?_
        refine lv_topi (fun z62 ez62 => ?_)
        refine lv_iload_n hx hb dX1_joinSets_87 rfl (lv_at hl 6 rfl) ?_
        refine lv_iload hx hb dX1_joinSets_88 (lv_at hl 0 rfl) ?_
        refine lv_ishl hx hb dX1_joinSets_90 ?_
        refine lv_topi (fun z63 ez63 => ?_)
        refine lv_ior hx hb dX1_joinSets_91 ?_
        refine lv_topi (fun z64 ez64 => ?_)
        refine lv_istore (lv' := [(7, .int z64), (9, .int z59), (8, .int w32), (5, .long z25), (4, .int z2), (0, .ref h0), (1, .int v), (2, .int u), (3, .int a)]) hx hb dX1_joinSets_92 hl (by decide) rfl (fun ls hl => ?_)
        obtain ⟨z65, ez65⟩ : ∃ y : Int32, y = w32 + 1 := ⟨_, rfl⟩
        refine lv_iinc (v := z65) (lv' := [(8, .int z65), (7, .int z64), (9, .int z59), (5, .long z25), (4, .int z2), (0, .ref h0), (1, .int v), (2, .int u), (3, .int a)]) hx hb dX1_joinSets_94 hl (k := 2) rfl (by rw [ez65]; rfl) (by decide) rfl (fun ls hl => ?_)
        have iz65 : z65.toInt = w32.toInt + 1 := zi_add ez65 rfl rfl (by omega) (by omega)
        refine lv_goto (tgt := 53) hx hb dX1_joinSets_97 (by decide) ?_
        exact ih34 _ _ _ _ (by rw [hn35]; omega) ⟨z65, z64, rfl, (by omega), hP, hD, hS, lv_sub hl [0, 1, 3, 4, 5, 6, 7, 8] rfl⟩
  · have ic27 : z25.toInt < z26.toInt := zl_gef rfl rfl c27
    exact W.vret hx hb hr (fun t ht hW => ⟨⟨f, rfl, ⟨hT, hR, trivial⟩, by rw [ht]; exact hP, va_K.moved hW.alike hK, hD⟩, hS.F ht⟩) hS.2.2 dX1_joinSets_40
set_option maxHeartbeats 4000000 in
set_option maxRecDepth 100000 in
theorem t_X1_addShip (l : Launch) (dC : Nat → ClassId) (dI : Nat → Nat → Nat) (sz : Nat) (Ω : Nat → Nat → (Nat → Nat) → va_E → Prop) (κ : Nat → ClassId) (τ ν : Nat → Nat) (ρ : Nat → Nat → Nat) (L : List Nat) (f : Nat → va_E) (hG : tp_G τ ν ρ L) (hT : tp_T Ω κ τ ν ρ f) (h0 : Nat) (v : Int32) (u : Int32) (ht_h0 : τ h0 = 2) (hr_v : 0 ≤ v.toInt ∧ v.toInt ≤ 2) (hr_u : 1 ≤ u.toInt ∧ u.toInt ≤ 64) : Met l yX1_addShip wqX1_addShip ({ frames := 3, cells := 0, slots := 0, locals := 800 }) (va_Pc [.ref h0, .int v, .int u] (pz_B dC dI (tp_K κ) (va_pl L f) sz)) (va_Qv (fun (f1 : Nat → va_E) => tp_T Ω κ τ ν ρ f1 ∧ tp_F τ [20, 21] f f1 ∧ True) (fun (f1 : Nat → va_E) (t : State) => pz_E dC dI (tp_K κ) (va_A (va_pl L f) sz) (va_pl L f1) t) (va_A (va_pl L f) sz)) 0 0 (va_A (va_pl L f) sz) := by
  refine Met.ofW (cc := cX1_addShip) (maxL := 6) (ret := none) (by decide) rfl ?_
  intro p e s m args below meth c s₁ B hml hv
  obtain ⟨rfl, hsz, hP, hK, hD0, hN⟩ := hv
  have hx := B.exec
  have hb := B.bytes
  have hr := B.returns
  have hts := fun (w : Cond) (h : w ∈ WALL) => atoms_spec (ws := wqX1_addShip) B.pre w (List.mem_cons_of_mem _ h)
  have hown : s.vm.findClass RX1 = some m.cls := findClass_of_methodNamed B.named
  have hlocks := B.notSynchronized
  subst hsz
  have hD := hD0.self (sz := s.heap.size)
  generalize hAe : va_A (va_pl L f) s.heap.size = A at hD ⊢
  have hA : ∀ q : Nat, s.heap.size ≤ q → A q := fun q h => by rw [← hAe]; exact Or.inr h
  have hS : va_S A s.heap s.heap [] := va_S.rf
  have hR : tp_F τ [20, 21] f f := tp_F.rf
  have hl := lv_entry ([.ref h0, .int v, .int u]) (n := 6) (Nat.le_of_ble_eq_true rfl)
  rw [lg_entry_eq]
  generalize (lg_sl ([.ref h0, .int v, .int u]) ++ List.replicate (6 - (lg_sl ([.ref h0, .int v, .int u])).length) Slot.unset).toArray = ls at hl ⊢
  have hl : lv_has ls 6 [(0, .ref h0), (1, .int v), (2, .int u)] := hl
  refine lv_iload_n hx hb dX1_addShip_0 rfl (lv_at hl 2 rfl) ?_
  refine lv_iconst (v := 1) hx hb dX1_addShip_1 (by decide) ?_
  refine lv_isub hx hb dX1_addShip_2 ?_
  refine lv_topi (fun z1 ez1 => ?_)
  have iz1 : z1.toInt = u.toInt - 1 := zi_sub ez1 rfl rfl (by omega) (by omega)
  refine lv_istore_n (lv' := [(3, .int z1), (0, .ref h0), (1, .int v), (2, .int u)]) hx hb dX1_addShip_3 rfl hl (by decide) rfl (fun ls hl => ?_)
  refine pz_loop (fun n0 H locs ls => ∃ f3 : Nat → va_E, ∃ w2 : Int32, n0 = ((w2.toInt)).toNat ∧ tp_T Ω κ τ ν ρ f3 ∧ tp_F τ [20, 21] f f3 ∧ (0 ≤ w2.toInt ∧ w2.toInt ≤ 63) ∧ va_P (dC, dI) vwCl (va_pl L f3) H ∧ va_D A (va_pl L f3) ∧ va_S A s.heap H locs ∧ lv_has ls 6 [(3, .int w2), (0, .ref h0), (1, .int v), (2, .int u)]) ?_ _ _ _ _ ⟨f, z1, rfl, hT, hR, (by omega), hP, hD, hS, lv_sub hl [0, 1, 2, 3] rfl⟩
  intro n0 H locs ls hI ih4
  refine Exists.elim hI (fun f3 hE90 => Exists.elim hE90 (fun w2 hE91 => tn_8 hE91 (fun hn5 hT hR rw2 hP hD hS hl => ?_)))
  clear hE91 hE90 hI
  refine lv_iload_n hx hb dX1_addShip_4 rfl (lv_at hl 0 rfl) ?_
  refine lv_if_le (tgt := 87) hx hb dX1_addShip_5 (by decide) (fun c6 => ?_) (fun c6 => ?_)
  · have ic6 : w2.toInt ≤ 0 := zi_le rfl rfl c6
    exact W.vret hx hb hr (fun t ht hW => ⟨⟨f3, rfl, ⟨hT, hR, trivial⟩, by rw [ht]; exact hP, va_K.moved hW.alike hK, hD⟩, hS.F ht⟩) hS.2.2 dX1_addShip_87
  · have ic6 : w2.toInt > 0 := zi_lef rfl rfl c6
    refine lv_iconst (v := 1) hx hb dX1_addShip_8 (by decide) ?_
    refine lv_istore (lv' := [(4, .int 1), (3, .int w2), (0, .ref h0), (1, .int v), (2, .int u)]) hx hb dX1_addShip_9 hl (by decide) rfl (fun ls hl => ?_)
    refine pz_loop (fun n0 H locs ls => ∃ f8 : Nat → va_E, ∃ w7 : Int32, n0 = (64 - (w7.toInt)).toNat ∧ tp_T Ω κ τ ν ρ f8 ∧ tp_F τ [20, 21] f f8 ∧ (1 ≤ w7.toInt ∧ w7.toInt ≤ 64) ∧ va_P (dC, dI) vwCl (va_pl L f8) H ∧ va_D A (va_pl L f8) ∧ va_S A s.heap H locs ∧ lv_has ls 6 [(4, .int w7), (3, .int w2), (0, .ref h0), (1, .int v), (2, .int u)]) ?_ _ _ _ _ ⟨f3, 1, rfl, hT, hR, (by have : (1 : Int32).toInt = 1 := rfl; omega), hP, hD, hS, lv_sub hl [0, 1, 2, 3, 4] rfl⟩
    intro n0 H locs ls hI ih9
    refine Exists.elim hI (fun f8 hE90 => Exists.elim hE90 (fun w7 hE91 => tn_8 hE91 (fun hn10 hT hR rw7 hP hD hS hl => ?_)))
    clear hE91 hE90 hI
    refine lv_iload hx hb dX1_addShip_11 (lv_at hl 0 rfl) ?_
    refine lv_iload_n hx hb dX1_addShip_13 rfl (lv_at hl 1 rfl) ?_
    refine lv_icmp_gt (tgt := 81) hx hb dX1_addShip_14 (by decide) (fun c11 => ?_) (fun c11 => ?_)
    · have ic11 : w7.toInt > w2.toInt := zi_gt rfl rfl c11
      obtain ⟨z12, ez12⟩ : ∃ y : Int32, y = w2 + (-1) := ⟨_, rfl⟩
      refine lv_iinc (v := z12) (lv' := [(3, .int z12), (4, .int w7), (0, .ref h0), (1, .int v), (2, .int u)]) hx hb dX1_addShip_81 hl (k := 1) rfl (by rw [ez12]; rfl) (by decide) rfl (fun ls hl => ?_)
      have iz12 : z12.toInt = w2.toInt + (-1) := zi_add ez12 rfl rfl (by omega) (by omega)
      refine lv_goto (tgt := 4) hx hb dX1_addShip_84 (by decide) ?_
      exact ih4 _ _ _ _ (by rw [hn5]; omega) ⟨f8, z12, rfl, hT, hR, (by omega), hP, hD, hS, lv_sub hl [0, 2, 3, 4] rfl⟩
    · have ic11 : w7.toInt ≤ w2.toInt := zi_gtf rfl rfl c11
      refine lv_iload_n hx hb dX1_addShip_17 rfl (lv_at hl 1 rfl) ?_
      refine lv_iload hx hb dX1_addShip_18 (lv_at hl 0 rfl) ?_
      refine lv_iconst (v := (-1)) hx hb dX1_addShip_20 (by decide) ?_
      refine lv_ixor hx hb dX1_addShip_21 ?_
      refine lv_topi (fun z13 ez13 => ?_)
      refine lv_iand hx hb dX1_addShip_22 ?_
      refine lv_topi (fun z14 ez14 => ?_)
      have iz14 : 0 ≤ z14.toInt ∧ z14.toInt ≤ w2.toInt := zb_and ez14 rfl (by omega)
      refine lv_istore (lv' := [(5, .int z14), (4, .int w7), (3, .int w2), (0, .ref h0), (1, .int v), (2, .int u)]) hx hb dX1_addShip_23 hl (by decide) rfl (fun ls hl => ?_)
      refine lv_iload hx hb dX1_addShip_25 (lv_at hl 1 rfl) ?_
      refine lv_iload_n hx hb dX1_addShip_27 rfl (lv_at hl 2 rfl) ?_
      refine lv_iconst (v := (-1)) hx hb dX1_addShip_28 (by decide) ?_
      refine lv_ixor hx hb dX1_addShip_29 ?_
      refine lv_topi (fun z15 ez15 => ?_)
      refine lv_iand hx hb dX1_addShip_30 ?_
      refine lv_topi (fun z16 ez16 => ?_)
      have iz16 : 0 ≤ z16.toInt ∧ z16.toInt ≤ w7.toInt := zb_and ez16 rfl (by omega)
      refine lv_if_ne (tgt := 75) hx hb dX1_addShip_31 (by decide) (fun c17 => ?_) (fun c17 => ?_)
      · have ic17 : z16.toInt ≠ 0 := zi_ne rfl rfl c17
        obtain ⟨z18, ez18⟩ : ∃ y : Int32, y = w7 + 1 := ⟨_, rfl⟩
        refine lv_iinc (v := z18) (lv' := [(4, .int z18), (5, .int z14), (3, .int w2), (0, .ref h0), (1, .int v), (2, .int u)]) hx hb dX1_addShip_75 hl (k := 1) rfl (by rw [ez18]; rfl) (by decide) rfl (fun ls hl => ?_)
        have iz18 : z18.toInt = w7.toInt + 1 := zi_add ez18 rfl rfl (by omega) (by omega)
        refine lv_goto (tgt := 11) hx hb dX1_addShip_78 (by decide) ?_
        exact ih9 _ _ _ _ (by rw [hn10]; omega) ⟨f8, z18, rfl, hT, hR, (by omega), hP, hD, hS, lv_sub hl [0, 2, 3, 4, 5] rfl⟩
      · have ic17 : z16.toInt = 0 := zi_nef rfl rfl c17
        refine lv_aload_n hx hb dX1_addShip_34 rfl (lv_at hl 3 rfl) ?_
        refine tgk_2 hG ht_h0 (fun y19 y19l y20 y20n y21 y21n y22 y22n y23 y23n y24 y24n y25 y25n y26 y26n y27 y27n y28 y28n => ?_)
        refine tpk_2 hT ht_h0 (fun o29_x5 o29_x6 o29_x7 o29_x8 o29_x9 hf_o29 ro29_0 => ?_)
        refine tpk_pos (tp_in hG ht_h0 (by decide)) hf_o29 (fun q30 eq30 => ?_)
        refine va_get (D := (dC, dI)) (ci := 1) (v := .ref (ρ h0 1)) (C := RX1) (T := TX1) (N := 15) hx hb hts hfX1 hown hK hP q30 eq30 rfl 1 (by decide) (hts (.fieldLink RX1 11 "ColdShips$Planner" "rowWorths" "[J") wa_134) (fun _ h9 => h9) rfl dX1_addShip_35 ?_
        refine lv_iload_n hx hb dX1_addShip_38 rfl (lv_at hl 4 rfl) ?_
        refine lv_bipush (v := 64) hx hb dX1_addShip_39 (by decide) ?_
        refine lv_imul hx hb dX1_addShip_41 ?_
        refine lv_topi (fun z31 ez31 => ?_)
        have iz31 : z31.toInt = v.toInt * 64 := zi_mul ez31 rfl rfl (by omega) (by omega)
        refine lv_iload hx hb dX1_addShip_42 (lv_at hl 1 rfl) ?_
        refine lv_iadd hx hb dX1_addShip_44 ?_
        refine lv_topi (fun z32 ez32 => ?_)
        have iz32 : z32.toInt = z31.toInt + w7.toInt := zi_add ez32 rfl rfl (by omega) (by omega)
        refine tpk_21 hT y20 y20n (fun g34 hf_o33 => ?_)
        refine tpk_pos (tp_in hG y20 (by decide)) hf_o33 (fun q35 eq35 => ?_)
        refine va_lald hx hb hK hP q35 1 eq35 rfl (vp_in_iff.mpr ⟨by omega, by omega⟩) dX1_addShip_45 ?_
        refine lv_topl (fun z36 ez36 => ?_)
        refine lv_ldc2 (own := RX1) (v := (-2000000000000000)) hx hb hown (hts (.constantLong RX1 66 (-2000000000000000)) wa_1349) dX1_addShip_46 ?_
        refine W.lcmp hx hb dX1_addShip_49 ?_
        refine lv_if_eq (tgt := 75) hx hb dX1_addShip_50 (by decide) (fun c37 => ?_) (fun c37 => ?_)
        · have ic37 : z36.toInt = (-2000000000000000) := zl_eq rfl rfl c37
          obtain ⟨z38, ez38⟩ : ∃ y : Int32, y = w7 + 1 := ⟨_, rfl⟩
          refine lv_iinc (v := z38) (lv' := [(4, .int z38), (5, .int z14), (3, .int w2), (0, .ref h0), (1, .int v), (2, .int u)]) hx hb dX1_addShip_75 hl (k := 1) rfl (by rw [ez38]; rfl) (by decide) rfl (fun ls hl => ?_)
          have iz38 : z38.toInt = w7.toInt + 1 := zi_add ez38 rfl rfl (by omega) (by omega)
          refine lv_goto (tgt := 11) hx hb dX1_addShip_78 (by decide) ?_
          exact ih9 _ _ _ _ (by rw [hn10]; omega) ⟨f8, z38, rfl, hT, hR, (by omega), hP, hD, hS, lv_sub hl [0, 2, 3, 4, 5] rfl⟩
        · have ic37 : z36.toInt ≠ (-2000000000000000) := zl_eqf rfl rfl c37
          refine lv_aload_n hx hb dX1_addShip_53 rfl (lv_at hl 3 rfl) ?_
          refine va_get (D := (dC, dI)) (ci := 1) (v := .ref (ρ h0 3)) (C := RX1) (T := TX1) (N := 15) hx hb hts hfX1 hown hK hP q30 eq30 rfl 3 (by decide) (hts (.fieldLink RX1 19 "ColdShips$Planner" "setWorths" "[J") wa_136) (fun _ h9 => h9) rfl dX1_addShip_54 ?_
          refine lv_iload hx hb dX1_addShip_57 (lv_at hl 0 rfl) ?_
          refine tpk_21 hT y22 y22n (fun g40 hf_o39 => ?_)
          refine tpk_pos (tp_in hG y22 (by decide)) hf_o39 (fun q41 eq41 => ?_)
          refine va_lald hx hb hK hP q41 1 eq41 rfl (vp_in_iff.mpr ⟨by omega, by omega⟩) dX1_addShip_59 ?_
          refine lv_topl (fun z42 ez42 => ?_)
          refine lv_ldc2 (own := RX1) (v := (-2000000000000000)) hx hb hown (hts (.constantLong RX1 66 (-2000000000000000)) wa_1349) dX1_addShip_60 ?_
          refine W.lcmp hx hb dX1_addShip_63 ?_
          refine lv_if_eq (tgt := 75) hx hb dX1_addShip_64 (by decide) (fun c43 => ?_) (fun c43 => ?_)
          · have ic43 : z42.toInt = (-2000000000000000) := zl_eq rfl rfl c43
            obtain ⟨z44, ez44⟩ : ∃ y : Int32, y = w7 + 1 := ⟨_, rfl⟩
            refine lv_iinc (v := z44) (lv' := [(4, .int z44), (5, .int z14), (3, .int w2), (0, .ref h0), (1, .int v), (2, .int u)]) hx hb dX1_addShip_75 hl (k := 1) rfl (by rw [ez44]; rfl) (by decide) rfl (fun ls hl => ?_)
            have iz44 : z44.toInt = w7.toInt + 1 := zi_add ez44 rfl rfl (by omega) (by omega)
            refine lv_goto (tgt := 11) hx hb dX1_addShip_78 (by decide) ?_
            exact ih9 _ _ _ _ (by rw [hn10]; omega) ⟨f8, z44, rfl, hT, hR, (by omega), hP, hD, hS, lv_sub hl [0, 2, 3, 4, 5] rfl⟩
          · have ic43 : z42.toInt ≠ (-2000000000000000) := zl_eqf rfl rfl c43
            refine lv_aload_n hx hb dX1_addShip_67 rfl (lv_at hl 3 rfl) ?_
            refine lv_iload_n hx hb dX1_addShip_68 rfl (lv_at hl 4 rfl) ?_
            refine lv_iload_n hx hb dX1_addShip_69 rfl (lv_at hl 2 rfl) ?_
            refine lv_iload hx hb dX1_addShip_70 (lv_at hl 1 rfl) ?_
            have hFc := tp_fr hD hS hA
            refine va_callv (va_runV (As := [.int v, .int w2, .int w7]) (rest := []) ⟨hx, hb, hml, hown, hts⟩ (t_X1_joinSets l dC dI _ Ω κ τ ν ρ L f8 hG hT h0 v w2 w7 ht_h0 (by first | decide | omega) (by first | decide | omega) (by first | decide | omega)) (cwV 3 hts gX1_addShip_X1_joinSets rfl rfl rfl ⟨rfl, pd_X1_joinSets⟩ ⟨Nat.le_of_ble_eq_true rfl, Nat.le_of_ble_eq_true rfl⟩) ⟨pz_blind, va_recv hK hP (ci := 1) (q0 := q30) rfl eq30, pz_pre hP hK hD hN⟩ rfl rfl hl.1 rfl (lv_room (Nat.le_of_ble_eq_true rfl)) dX1_addShip_72 ⟨Nat.le_of_ble_eq_true rfl, Nat.le_of_ble_eq_true rfl⟩) hS (fun q _ h => hFc q h) hFc (fun f47 t H1 locs ht hvm hw46 hB hz1 hk1 hS => ?_)
            refine tn_3 hw46 (fun hT hF48 hw46p => ?_); clear hw46
            have hR := hR.then hF48 (by decide)
            have hP := hB.1; rw [ht] at hP; have hD := tp_ad f47 hD; clear hB hFc hz1 hk1; subst ht; generalize t.heap = H at hP hS ⊢
            obtain ⟨z49, ez49⟩ : ∃ y : Int32, y = w7 + 1 := ⟨_, rfl⟩
            refine lv_iinc (v := z49) (lv' := [(4, .int z49), (5, .int z14), (3, .int w2), (0, .ref h0), (1, .int v), (2, .int u)]) hx hb dX1_addShip_75 hl (k := 1) rfl (by rw [ez49]; rfl) (by decide) rfl (fun ls hl => ?_)
            have iz49 : z49.toInt = w7.toInt + 1 := zi_add ez49 rfl rfl (by omega) (by omega)
            refine lv_goto (tgt := 11) hx hb dX1_addShip_78 (by decide) ?_
            exact ih9 _ _ _ _ (by rw [hn10]; omega) ⟨f47, z49, rfl, hT, hR, (by omega), hP, hD, hS, lv_sub hl [0, 2, 3, 4, 5] rfl⟩
set_option maxHeartbeats 4000000 in
set_option maxRecDepth 100000 in
theorem t_J6_bitCount_0f7a4 (l : Launch) (dC : Nat → ClassId) (dI : Nat → Nat → Nat) (sz : Nat) (v : Int32) : Met l yJ6_bitCount_0f7a4 wqJ6_bitCount_0f7a4 ({ frames := 2, cells := 0, slots := 0, locals := 400 }) (va_Pc [.int v] (pz_B dC dI [] [] sz)) (vp_Si (fun r => True ∧ True)) 0 0 (fun _ => False) := by
  refine Met.ofW (cc := cJ6_bitCount_0f7a4) (maxL := 1) (ret := some .int) (by decide) rfl ?_
  intro p e s m args below meth c s₁ B hml hv
  obtain ⟨rfl, hsz, hP, hK, hD0, hN⟩ := hv
  have hx := B.exec
  have hb := B.bytes
  have hr := B.returns
  have hts := fun (w : Cond) (h : w ∈ WALL) => atoms_spec (ws := wqJ6_bitCount_0f7a4) B.pre w (List.mem_cons_of_mem _ h)
  have hown : s.vm.findClass RJ6 = some m.cls := findClass_of_methodNamed B.named
  have hlocks := B.notSynchronized
  subst hsz
  have hD := hD0
  have hS : va_S (fun _ => True) s.heap s.heap [] := va_S.rf
  have hl := lv_entry ([.int v]) (n := 1) (Nat.le_of_ble_eq_true rfl)
  rw [lg_entry_eq]
  generalize (lg_sl ([.int v]) ++ List.replicate (1 - (lg_sl ([.int v])).length) Slot.unset).toArray = ls at hl ⊢
  have hl : lv_has ls 1 [(0, .int v)] := hl
  refine lv_iload_n hx hb dJ6_bitCount_0f7a4_0 rfl (lv_at hl 0 rfl) ?_
  refine lv_iload_n hx hb dJ6_bitCount_0f7a4_1 rfl (lv_at hl 0 rfl) ?_
  refine lv_iconst (v := 1) hx hb dJ6_bitCount_0f7a4_2 (by decide) ?_
  refine lv_iushr hx hb dJ6_bitCount_0f7a4_3 rfl ?_
  refine lv_topi (fun z1 ez1 => ?_)
  refine lv_ldcw (own := RJ6) (v := 1431655765) hx hb hown (hts (.constant RJ6 265 (1431655765)) wa_1400) dJ6_bitCount_0f7a4_4 ?_
  refine lv_iand hx hb dJ6_bitCount_0f7a4_7 ?_
  refine lv_topi (fun z2 ez2 => ?_)
  have iz2 : 0 ≤ z2.toInt ∧ z2.toInt ≤ 1431655765 := zb_mask ez2 (by decide)
  refine lv_isub hx hb dJ6_bitCount_0f7a4_8 ?_
  refine lv_topi (fun z3 ez3 => ?_)
  refine lv_istore_n (lv' := [(0, .int z3)]) hx hb dJ6_bitCount_0f7a4_9 rfl hl (by decide) rfl (fun ls hl => ?_)
  refine lv_iload_n hx hb dJ6_bitCount_0f7a4_10 rfl (lv_at hl 0 rfl) ?_
  refine lv_ldcw (own := RJ6) (v := 858993459) hx hb hown (hts (.constant RJ6 266 (858993459)) wa_1401) dJ6_bitCount_0f7a4_11 ?_
  refine lv_iand hx hb dJ6_bitCount_0f7a4_14 ?_
  refine lv_topi (fun z4 ez4 => ?_)
  have iz4 : 0 ≤ z4.toInt ∧ z4.toInt ≤ 858993459 := zb_mask ez4 (by decide)
  refine lv_iload_n hx hb dJ6_bitCount_0f7a4_15 rfl (lv_at hl 0 rfl) ?_
  refine lv_iconst (v := 2) hx hb dJ6_bitCount_0f7a4_16 (by decide) ?_
  refine lv_iushr hx hb dJ6_bitCount_0f7a4_17 rfl ?_
  refine lv_topi (fun z5 ez5 => ?_)
  refine lv_ldcw (own := RJ6) (v := 858993459) hx hb hown (hts (.constant RJ6 266 (858993459)) wa_1401) dJ6_bitCount_0f7a4_18 ?_
  refine lv_iand hx hb dJ6_bitCount_0f7a4_21 ?_
  refine lv_topi (fun z6 ez6 => ?_)
  have iz6 : 0 ≤ z6.toInt ∧ z6.toInt ≤ 858993459 := zb_mask ez6 (by decide)
  refine lv_iadd hx hb dJ6_bitCount_0f7a4_22 ?_
  refine lv_topi (fun z7 ez7 => ?_)
  have iz7 : z7.toInt = z4.toInt + z6.toInt := zi_add ez7 rfl rfl (by omega) (by omega)
  refine lv_istore_n (lv' := [(0, .int z7)]) hx hb dJ6_bitCount_0f7a4_23 rfl hl (by decide) rfl (fun ls hl => ?_)
  refine lv_iload_n hx hb dJ6_bitCount_0f7a4_24 rfl (lv_at hl 0 rfl) ?_
  refine lv_iload_n hx hb dJ6_bitCount_0f7a4_25 rfl (lv_at hl 0 rfl) ?_
  refine lv_iconst (v := 4) hx hb dJ6_bitCount_0f7a4_26 (by decide) ?_
  refine lv_iushr hx hb dJ6_bitCount_0f7a4_27 rfl ?_
  refine lv_topi (fun z8 ez8 => ?_)
  refine lv_iadd hx hb dJ6_bitCount_0f7a4_28 ?_
  refine lv_topi (fun z9 ez9 => ?_)
  refine lv_ldcw (own := RJ6) (v := 252645135) hx hb hown (hts (.constant RJ6 267 (252645135)) wa_1402) dJ6_bitCount_0f7a4_29 ?_
  refine lv_iand hx hb dJ6_bitCount_0f7a4_32 ?_
  refine lv_topi (fun z10 ez10 => ?_)
  have iz10 : 0 ≤ z10.toInt ∧ z10.toInt ≤ 252645135 := zb_mask ez10 (by decide)
  refine lv_istore_n (lv' := [(0, .int z10)]) hx hb dJ6_bitCount_0f7a4_33 rfl hl (by decide) rfl (fun ls hl => ?_)
  refine lv_iload_n hx hb dJ6_bitCount_0f7a4_34 rfl (lv_at hl 0 rfl) ?_
  refine lv_iload_n hx hb dJ6_bitCount_0f7a4_35 rfl (lv_at hl 0 rfl) ?_
  refine lv_bipush (v := 8) hx hb dJ6_bitCount_0f7a4_36 (by decide) ?_
  refine lv_iushr hx hb dJ6_bitCount_0f7a4_38 rfl ?_
  refine lv_topi (fun z11 ez11 => ?_)
  refine lv_iadd hx hb dJ6_bitCount_0f7a4_39 ?_
  refine lv_topi (fun z12 ez12 => ?_)
  refine lv_istore_n (lv' := [(0, .int z12)]) hx hb dJ6_bitCount_0f7a4_40 rfl hl (by decide) rfl (fun ls hl => ?_)
  refine lv_iload_n hx hb dJ6_bitCount_0f7a4_41 rfl (lv_at hl 0 rfl) ?_
  refine lv_iload_n hx hb dJ6_bitCount_0f7a4_42 rfl (lv_at hl 0 rfl) ?_
  refine lv_bipush (v := 16) hx hb dJ6_bitCount_0f7a4_43 (by decide) ?_
  refine lv_iushr hx hb dJ6_bitCount_0f7a4_45 rfl ?_
  refine lv_topi (fun z13 ez13 => ?_)
  refine lv_iadd hx hb dJ6_bitCount_0f7a4_46 ?_
  refine lv_topi (fun z14 ez14 => ?_)
  refine lv_istore_n (lv' := [(0, .int z14)]) hx hb dJ6_bitCount_0f7a4_47 rfl hl (by decide) rfl (fun ls hl => ?_)
  refine lv_iload_n hx hb dJ6_bitCount_0f7a4_48 rfl (lv_at hl 0 rfl) ?_
  refine lv_bipush (v := 63) hx hb dJ6_bitCount_0f7a4_49 (by decide) ?_
  refine lv_iand hx hb dJ6_bitCount_0f7a4_51 ?_
  refine lv_topi (fun z15 ez15 => ?_)
  have iz15 : 0 ≤ z15.toInt ∧ z15.toInt ≤ 63 := zb_mask ez15 (by decide)
  exact W.iret (v := z15) hx hb hr (fun t ht hW => ⟨z15, rfl, ⟨trivial, trivial⟩, ht⟩) (fun _ h => by cases h) dJ6_bitCount_0f7a4_52
set_option maxHeartbeats 4000000 in
set_option maxRecDepth 100000 in
theorem t_X1_isBetter (l : Launch) (dC : Nat → ClassId) (dI : Nat → Nat → Nat) (sz : Nat) (Ω : Nat → Nat → (Nat → Nat) → va_E → Prop) (κ : Nat → ClassId) (τ ν : Nat → Nat) (ρ : Nat → Nat → Nat) (L : List Nat) (f : Nat → va_E) (hG : tp_G τ ν ρ L) (hT : tp_T Ω κ τ ν ρ f) (h0 : Nat) (v : Int32) (u : Int32) (ht_h0 : τ h0 = 2) (hr_v : 0 ≤ v.toInt ∧ v.toInt ≤ 63) (hr_u : 0 ≤ u.toInt ∧ u.toInt ≤ 63) : Met l yX1_isBetter wqX1_isBetter ({ frames := 3, cells := 0, slots := 0, locals := 800 }) (va_Pc [.ref h0, .int v, .int u] (pz_B dC dI (tp_K κ) (va_pl L f) sz)) (vp_Si (fun r => (0 ≤ r.toInt ∧ r.toInt ≤ 1) ∧ True)) 0 0 (fun _ => False) := by
  refine Met.ofW (cc := cX1_isBetter) (maxL := 4) (ret := some .boolean) (by decide) rfl ?_
  intro p e s m args below meth c s₁ B hml hv
  obtain ⟨rfl, hsz, hP, hK, hD0, hN⟩ := hv
  have hx := B.exec
  have hb := B.bytes
  have hr := B.returns
  have hts := fun (w : Cond) (h : w ∈ WALL) => atoms_spec (ws := wqX1_isBetter) B.pre w (List.mem_cons_of_mem _ h)
  have hown : s.vm.findClass RX1 = some m.cls := findClass_of_methodNamed B.named
  have hlocks := B.notSynchronized
  subst hsz
  have hD := hD0
  have hS : va_S (fun _ => True) s.heap s.heap [] := va_S.rf
  have hl := lv_entry ([.ref h0, .int v, .int u]) (n := 4) (Nat.le_of_ble_eq_true rfl)
  rw [lg_entry_eq]
  generalize (lg_sl ([.ref h0, .int v, .int u]) ++ List.replicate (4 - (lg_sl ([.ref h0, .int v, .int u])).length) Slot.unset).toArray = ls at hl ⊢
  have hl : lv_has ls 4 [(0, .ref h0), (1, .int v), (2, .int u)] := hl
  refine lv_aload_n hx hb dX1_isBetter_0 rfl (lv_at hl 0 rfl) ?_
  refine tgk_2 hG ht_h0 (fun y1 y1l y2 y2n y3 y3n y4 y4n y5 y5n y6 y6n y7 y7n y8 y8n y9 y9n y10 y10n => ?_)
  refine tpk_2 hT ht_h0 (fun o11_x5 o11_x6 o11_x7 o11_x8 o11_x9 hf_o11 ro11_0 => ?_)
  refine tpk_pos (tp_in hG ht_h0 (by decide)) hf_o11 (fun q12 eq12 => ?_)
  refine va_get (D := (dC, dI)) (ci := 1) (v := .ref (ρ h0 3)) (C := RX1) (T := TX1) (N := 15) hx hb hts hfX1 hown hK hP q12 eq12 rfl 3 (by decide) (hts (.fieldLink RX1 19 "ColdShips$Planner" "setWorths" "[J") wa_136) (fun _ h9 => h9) rfl dX1_isBetter_1 ?_
  refine lv_iload_n hx hb dX1_isBetter_4 rfl (lv_at hl 1 rfl) ?_
  refine tpk_21 hT y4 y4n (fun g14 hf_o13 => ?_)
  refine tpk_pos (tp_in hG y4 (by decide)) hf_o13 (fun q15 eq15 => ?_)
  refine va_lald hx hb hK hP q15 1 eq15 rfl (vp_in_iff.mpr ⟨by omega, by omega⟩) dX1_isBetter_5 ?_
  refine lv_topl (fun z16 ez16 => ?_)
  refine lv_aload_n hx hb dX1_isBetter_6 rfl (lv_at hl 0 rfl) ?_
  refine va_get (D := (dC, dI)) (ci := 1) (v := .ref (ρ h0 3)) (C := RX1) (T := TX1) (N := 15) hx hb hts hfX1 hown hK hP q12 eq12 rfl 3 (by decide) (hts (.fieldLink RX1 19 "ColdShips$Planner" "setWorths" "[J") wa_136) (fun _ h9 => h9) rfl dX1_isBetter_7 ?_
  refine lv_iload_n hx hb dX1_isBetter_10 rfl (lv_at hl 2 rfl) ?_
  refine va_lald hx hb hK hP q15 1 eq15 rfl (vp_in_iff.mpr ⟨by omega, by omega⟩) dX1_isBetter_11 ?_
  refine lv_topl (fun z17 ez17 => ?_)
  refine W.lcmp hx hb dX1_isBetter_12 ?_
  refine lv_if_eq (tgt := 38) hx hb dX1_isBetter_13 (by decide) (fun c18 => ?_) (fun c18 => ?_)
  · have ic18 : z16.toInt = z17.toInt := zl_eq rfl rfl c18
    refine lv_iload_n hx hb dX1_isBetter_38 rfl (lv_at hl 1 rfl) ?_
    refine pz_calli (va_runS (As := [.int v]) (rest := []) ⟨hx, hb, hml, hown, hts⟩ (t_J6_bitCount_0f7a4 l dC dI _ v) (va_cwS 1 hts gX1_isBetter_J6_bitCount_0f7a4 rfl rfl rfl pd_J6_bitCount_0f7a4 ⟨Nat.le_of_ble_eq_true rfl, Nat.le_of_ble_eq_true rfl⟩) ⟨pz_blind, pz_pre pz_P0 (hK.sub (tys' := []) [] rfl) (pz_D0 (A := fun _ => True)) hN⟩ rfl rfl hl.1 rfl (lv_room (Nat.le_of_ble_eq_true rfl)) dX1_isBetter_39 ⟨Nat.le_of_ble_eq_true rfl, Nat.le_of_ble_eq_true rfl⟩) (fun r19 hw20 => ?_)
    obtain ⟨hw20r, hw20p⟩ := hw20
    refine lv_iload_n hx hb dX1_isBetter_42 rfl (lv_at hl 2 rfl) ?_
    refine pz_calli (va_runS (As := [.int u]) (rest := [.int r19]) ⟨hx, hb, hml, hown, hts⟩ (t_J6_bitCount_0f7a4 l dC dI _ u) (va_cwS 1 hts gX1_isBetter_J6_bitCount_0f7a4 rfl rfl rfl pd_J6_bitCount_0f7a4 ⟨Nat.le_of_ble_eq_true rfl, Nat.le_of_ble_eq_true rfl⟩) ⟨pz_blind, pz_pre pz_P0 (hK.sub (tys' := []) [] rfl) (pz_D0 (A := fun _ => True)) hN⟩ rfl rfl hl.1 rfl (lv_room (Nat.le_of_ble_eq_true rfl)) dX1_isBetter_43 ⟨Nat.le_of_ble_eq_true rfl, Nat.le_of_ble_eq_true rfl⟩) (fun r21 hw22 => ?_)
    obtain ⟨hw22r, hw22p⟩ := hw22
    refine lv_isub hx hb dX1_isBetter_46 ?_
    refine lv_topi (fun z23 ez23 => ?_)
    refine lv_istore_n (lv' := [(3, .int z23), (0, .ref h0), (1, .int v), (2, .int u)]) hx hb dX1_isBetter_47 rfl hl (by decide) rfl (fun ls hl => ?_)
    refine lv_iload_n hx hb dX1_isBetter_48 rfl (lv_at hl 0 rfl) ?_
    refine lv_if_eq (tgt := 64) hx hb dX1_isBetter_49 (by decide) (fun c24 => ?_) (fun c24 => ?_)
    · have ic24 : z23.toInt = 0 := zi_eq rfl rfl c24
      refine lv_aload_n hx hb dX1_isBetter_64 rfl (lv_at hl 1 rfl) ?_
      refine va_get (D := (dC, dI)) (ci := 1) (v := .ref (ρ h0 4)) (C := RX1) (T := TX1) (N := 15) hx hb hts hfX1 hown hK hP q12 eq12 rfl 4 (by decide) (hts (.fieldLink RX1 22 "ColdShips$Planner" "setShips" "[I") wa_137) (fun _ h9 => h9) rfl dX1_isBetter_65 ?_
      refine lv_iload_n hx hb dX1_isBetter_68 rfl (lv_at hl 2 rfl) ?_
      refine tpk_20 hT y5 y5n (fun g26 hf_o25 => ?_)
      refine tpk_pos (tp_in hG y5 (by decide)) hf_o25 (fun q27 eq27 => ?_)
      refine va_iald hx hb hK hP q27 0 eq27 rfl (vp_in_iff.mpr ⟨by omega, by omega⟩) dX1_isBetter_69 ?_
      refine lv_topi (fun z28 ez28 => ?_)
      refine lv_aload_n hx hb dX1_isBetter_70 rfl (lv_at hl 1 rfl) ?_
      refine va_get (D := (dC, dI)) (ci := 1) (v := .ref (ρ h0 4)) (C := RX1) (T := TX1) (N := 15) hx hb hts hfX1 hown hK hP q12 eq12 rfl 4 (by decide) (hts (.fieldLink RX1 22 "ColdShips$Planner" "setShips" "[I") wa_137) (fun _ h9 => h9) rfl dX1_isBetter_71 ?_
      refine lv_iload_n hx hb dX1_isBetter_74 rfl (lv_at hl 3 rfl) ?_
      refine va_iald hx hb hK hP q27 0 eq27 rfl (vp_in_iff.mpr ⟨by omega, by omega⟩) dX1_isBetter_75 ?_
      refine lv_topi (fun z29 ez29 => ?_)
      refine lv_icmp_ge (tgt := 83) hx hb dX1_isBetter_76 (by decide) (fun c30 => ?_) (fun c30 => ?_)
      · have ic30 : z28.toInt ≥ z29.toInt := zi_ge rfl rfl c30
        refine lv_iconst (v := 0) hx hb dX1_isBetter_83 (by decide) ?_
        exact W.zret (v := 0) hx hb hr rfl (fun t ht hW => ⟨0, rfl, ⟨(by first | decide | omega), trivial⟩, ht⟩) (fun _ h => by cases h) dX1_isBetter_84
      · have ic30 : z28.toInt < z29.toInt := zi_gef rfl rfl c30
        refine lv_iconst (v := 1) hx hb dX1_isBetter_79 (by decide) ?_
        refine lv_goto (tgt := 84) hx hb dX1_isBetter_80 (by decide) ?_
        exact W.zret (v := 1) hx hb hr rfl (fun t ht hW => ⟨1, rfl, ⟨(by first | decide | omega), trivial⟩, ht⟩) (fun _ h => by cases h) dX1_isBetter_84
    · have ic24 : z23.toInt ≠ 0 := zi_eqf rfl rfl c24
      refine lv_iload_n hx hb dX1_isBetter_52 rfl (lv_at hl 0 rfl) ?_
      refine lv_if_ge (tgt := 60) hx hb dX1_isBetter_53 (by decide) (fun c31 => ?_) (fun c31 => ?_)
      · have ic31 : z23.toInt ≥ 0 := zi_ge rfl rfl c31
        refine lv_iconst (v := 0) hx hb dX1_isBetter_60 (by decide) ?_
        refine lv_goto (tgt := 84) hx hb dX1_isBetter_61 (by decide) ?_
        exact W.zret (v := 0) hx hb hr rfl (fun t ht hW => ⟨0, rfl, ⟨(by first | decide | omega), trivial⟩, ht⟩) (fun _ h => by cases h) dX1_isBetter_84
      · have ic31 : z23.toInt < 0 := zi_gef rfl rfl c31
        refine lv_iconst (v := 1) hx hb dX1_isBetter_56 (by decide) ?_
        refine lv_goto (tgt := 84) hx hb dX1_isBetter_57 (by decide) ?_
        exact W.zret (v := 1) hx hb hr rfl (fun t ht hW => ⟨1, rfl, ⟨(by first | decide | omega), trivial⟩, ht⟩) (fun _ h => by cases h) dX1_isBetter_84
  · have ic18 : z16.toInt ≠ z17.toInt := zl_eqf rfl rfl c18
    refine lv_aload_n hx hb dX1_isBetter_16 rfl (lv_at hl 0 rfl) ?_
    refine va_get (D := (dC, dI)) (ci := 1) (v := .ref (ρ h0 3)) (C := RX1) (T := TX1) (N := 15) hx hb hts hfX1 hown hK hP q12 eq12 rfl 3 (by decide) (hts (.fieldLink RX1 19 "ColdShips$Planner" "setWorths" "[J") wa_136) (fun _ h9 => h9) rfl dX1_isBetter_17 ?_
    refine lv_iload_n hx hb dX1_isBetter_20 rfl (lv_at hl 1 rfl) ?_
    refine va_lald hx hb hK hP q15 1 eq15 rfl (vp_in_iff.mpr ⟨by omega, by omega⟩) dX1_isBetter_21 ?_
    refine lv_topl (fun z32 ez32 => ?_)
    refine lv_aload_n hx hb dX1_isBetter_22 rfl (lv_at hl 0 rfl) ?_
    refine va_get (D := (dC, dI)) (ci := 1) (v := .ref (ρ h0 3)) (C := RX1) (T := TX1) (N := 15) hx hb hts hfX1 hown hK hP q12 eq12 rfl 3 (by decide) (hts (.fieldLink RX1 19 "ColdShips$Planner" "setWorths" "[J") wa_136) (fun _ h9 => h9) rfl dX1_isBetter_23 ?_
    refine lv_iload_n hx hb dX1_isBetter_26 rfl (lv_at hl 2 rfl) ?_
    refine va_lald hx hb hK hP q15 1 eq15 rfl (vp_in_iff.mpr ⟨by omega, by omega⟩) dX1_isBetter_27 ?_
    refine lv_topl (fun z33 ez33 => ?_)
    refine W.lcmp hx hb dX1_isBetter_28 ?_
    refine lv_if_le (tgt := 36) hx hb dX1_isBetter_29 (by decide) (fun c34 => ?_) (fun c34 => ?_)
    · have ic34 : z32.toInt ≤ z33.toInt := zl_le rfl rfl c34
      refine lv_iconst (v := 0) hx hb dX1_isBetter_36 (by decide) ?_
      exact W.zret (v := 0) hx hb hr rfl (fun t ht hW => ⟨0, rfl, ⟨(by first | decide | omega), trivial⟩, ht⟩) (fun _ h => by cases h) dX1_isBetter_37
    · have ic34 : z32.toInt > z33.toInt := zl_lef rfl rfl c34
      refine lv_iconst (v := 1) hx hb dX1_isBetter_32 (by decide) ?_
      refine lv_goto (tgt := 37) hx hb dX1_isBetter_33 (by decide) ?_
      exact W.zret (v := 1) hx hb hr rfl (fun t ht hW => ⟨1, rfl, ⟨(by first | decide | omega), trivial⟩, ht⟩) (fun _ h => by cases h) dX1_isBetter_37
set_option maxHeartbeats 4000000 in
set_option maxRecDepth 100000 in
theorem t_X1_cargoAt (l : Launch) (dC : Nat → ClassId) (dI : Nat → Nat → Nat) (sz : Nat) (Ω : Nat → Nat → (Nat → Nat) → va_E → Prop) (κ : Nat → ClassId) (τ ν : Nat → Nat) (ρ : Nat → Nat → Nat) (L : List Nat) (f : Nat → va_E) (hG : tp_G τ ν ρ L) (hT : tp_T Ω κ τ ν ρ f) (h0 : Nat) (v : Int32) (u : Int32) (a : Int32) (ht_h0 : τ h0 = 2) : Met l yX1_cargoAt wqX1_cargoAt ({ frames := 2, cells := 0, slots := 0, locals := 400 }) (va_Pc [.ref h0, .int v, .int u, .int a] (pz_B dC dI (tp_K κ) (va_pl L f) sz)) (vp_Si (fun r => ((-1) ≤ r.toInt ∧ r.toInt ≤ 5) ∧ True)) 0 0 (fun _ => False) := by
  refine Met.ofW (cc := cX1_cargoAt) (maxL := 5) (ret := some .int) (by decide) rfl ?_
  intro p e s m args below meth c s₁ B hml hv
  obtain ⟨rfl, hsz, hP, hK, hD0, hN⟩ := hv
  have hx := B.exec
  have hb := B.bytes
  have hr := B.returns
  have hts := fun (w : Cond) (h : w ∈ WALL) => atoms_spec (ws := wqX1_cargoAt) B.pre w (List.mem_cons_of_mem _ h)
  have hown : s.vm.findClass RX1 = some m.cls := findClass_of_methodNamed B.named
  have hlocks := B.notSynchronized
  subst hsz
  have hD := hD0
  have hS : va_S (fun _ => True) s.heap s.heap [] := va_S.rf
  have hl := lv_entry ([.ref h0, .int v, .int u, .int a]) (n := 5) (Nat.le_of_ble_eq_true rfl)
  rw [lg_entry_eq]
  generalize (lg_sl ([.ref h0, .int v, .int u, .int a]) ++ List.replicate (5 - (lg_sl ([.ref h0, .int v, .int u, .int a])).length) Slot.unset).toArray = ls at hl ⊢
  have hl : lv_has ls 5 [(0, .ref h0), (1, .int v), (2, .int u), (3, .int a)] := hl
  refine lv_iconst (v := 0) hx hb dX1_cargoAt_0 (by decide) ?_
  refine lv_istore (lv' := [(4, .int 0), (0, .ref h0), (1, .int v), (2, .int u), (3, .int a)]) hx hb dX1_cargoAt_1 hl (by decide) rfl (fun ls hl => ?_)
  refine pz_loop (fun n0 H locs ls => ∃ w1 : Int32, n0 = (6 - (w1.toInt)).toNat ∧ (0 ≤ w1.toInt ∧ w1.toInt ≤ 6) ∧ H = s.heap ∧ locs = [] ∧ lv_has ls 5 [(4, .int w1), (0, .ref h0), (1, .int v), (2, .int u), (3, .int a)]) ?_ _ _ _ _ ⟨0, rfl, (by have : (0 : Int32).toInt = 0 := rfl; omega), rfl, rfl, lv_sub hl [0, 1, 2, 3, 4] rfl⟩
  intro n0 H locs ls hI ih2
  refine Exists.elim hI (fun w1 hE90 => tn_5 hE90 (fun hn3 rw1 e92 e93 hl => ?_))
  clear hE90 hI; subst e92; subst e93
  refine lv_iload hx hb dX1_cargoAt_3 (lv_at hl 0 rfl) ?_
  refine lv_aload_n hx hb dX1_cargoAt_5 rfl (lv_at hl 1 rfl) ?_
  refine tgk_2 hG ht_h0 (fun y4 y4l y5 y5n y6 y6n y7 y7n y8 y8n y9 y9n y10 y10n y11 y11n y12 y12n y13 y13n => ?_)
  refine tpk_2 hT ht_h0 (fun o14_x5 o14_x6 o14_x7 o14_x8 o14_x9 hf_o14 ro14_0 => ?_)
  refine tpk_pos (tp_in hG ht_h0 (by decide)) hf_o14 (fun q15 eq15 => ?_)
  have ro14_0 := tp_hu ro14_0
  refine va_get (D := (dC, dI)) (ci := 1) (v := .int o14_x9) (C := RX1) (T := TX1) (N := 15) hx hb hts hfX1 hown hK hP q15 eq15 rfl 9 (by decide) (hts (.fieldLink RX1 132 "ColdShips$Planner" "planned" "I") wa_1407) (fun _ h9 => h9) rfl dX1_cargoAt_6 ?_
  refine lv_icmp_ge (tgt := 46) hx hb dX1_cargoAt_9 (by decide) (fun c16 => ?_) (fun c16 => ?_)
  · have ic16 : w1.toInt ≥ o14_x9.toInt := zi_ge rfl rfl c16
    refine lv_iconst (v := (-1)) hx hb dX1_cargoAt_46 (by decide) ?_
    exact W.iret (v := (-1)) hx hb hr (fun t ht hW => ⟨(-1), rfl, ⟨(by first | decide | omega), trivial⟩, ht⟩) (fun _ h => by cases h) dX1_cargoAt_47
  · have ic16 : w1.toInt < o14_x9.toInt := zi_gef rfl rfl c16
    refine lv_iload_n hx hb dX1_cargoAt_12 rfl (lv_at hl 2 rfl) ?_
    refine lv_iload hx hb dX1_cargoAt_13 (lv_at hl 0 rfl) ?_
    refine lv_ishr hx hb dX1_cargoAt_15 ?_
    refine lv_topi (fun z17 ez17 => ?_)
    refine lv_iconst (v := 1) hx hb dX1_cargoAt_16 (by decide) ?_
    refine lv_iand hx hb dX1_cargoAt_17 ?_
    refine lv_topi (fun z18 ez18 => ?_)
    have iz18 : 0 ≤ z18.toInt ∧ z18.toInt ≤ 1 := zb_mask ez18 (by decide)
    refine lv_iconst (v := 1) hx hb dX1_cargoAt_18 (by decide) ?_
    refine lv_icmp_ne (tgt := 40) hx hb dX1_cargoAt_19 (by decide) (fun c19 => ?_) (fun c19 => ?_)
    · have ic19 : z18.toInt ≠ 1 := zi_ne rfl rfl c19
      obtain ⟨z20, ez20⟩ : ∃ y : Int32, y = w1 + 1 := ⟨_, rfl⟩
      refine lv_iinc (v := z20) (lv' := [(4, .int z20), (0, .ref h0), (1, .int v), (2, .int u), (3, .int a)]) hx hb dX1_cargoAt_40 hl (k := 0) rfl (by rw [ez20]; rfl) (by decide) rfl (fun ls hl => ?_)
      have iz20 : z20.toInt = w1.toInt + 1 := zi_add ez20 rfl rfl (by omega) (by omega)
      refine lv_goto (tgt := 3) hx hb dX1_cargoAt_43 (by decide) ?_
      exact ih2 _ _ _ _ (by rw [hn3]; omega) ⟨z20, rfl, (by omega), rfl, rfl, lv_sub hl [0, 1, 2, 3, 4] rfl⟩
    · have ic19 : z18.toInt = 1 := zi_nef rfl rfl c19
      refine lv_iload_n hx hb dX1_cargoAt_22 rfl (lv_at hl 3 rfl) ?_
      refine lv_iconst (v := 3) hx hb dX1_cargoAt_23 (by decide) ?_
      refine lv_iconst (v := 5) hx hb dX1_cargoAt_24 (by decide) ?_
      refine lv_iload hx hb dX1_cargoAt_25 (lv_at hl 0 rfl) ?_
      refine lv_isub hx hb dX1_cargoAt_27 ?_
      refine lv_topi (fun z21 ez21 => ?_)
      have iz21 : z21.toInt = 5 - w1.toInt := zi_sub ez21 rfl rfl (by omega) (by omega)
      refine lv_imul hx hb dX1_cargoAt_28 ?_
      refine lv_topi (fun z22 ez22 => ?_)
      have iz22 : z22.toInt = 3 * z21.toInt := zi_mul ez22 rfl rfl (by omega) (by omega)
      refine lv_ishr hx hb dX1_cargoAt_29 ?_
      refine lv_topi (fun z23 ez23 => ?_)
      refine lv_bipush (v := 7) hx hb dX1_cargoAt_30 (by decide) ?_
      refine lv_iand hx hb dX1_cargoAt_32 ?_
      refine lv_topi (fun z24 ez24 => ?_)
      have iz24 : 0 ≤ z24.toInt ∧ z24.toInt ≤ 7 := zb_mask ez24 (by decide)
      refine lv_iload_n hx hb dX1_cargoAt_33 rfl (lv_at hl 4 rfl) ?_
      refine lv_icmp_ne (tgt := 40) hx hb dX1_cargoAt_34 (by decide) (fun c25 => ?_) (fun c25 => ?_)
      · have ic25 : z24.toInt ≠ a.toInt := zi_ne rfl rfl c25
        obtain ⟨z26, ez26⟩ : ∃ y : Int32, y = w1 + 1 := ⟨_, rfl⟩
        refine lv_iinc (v := z26) (lv' := [(4, .int z26), (0, .ref h0), (1, .int v), (2, .int u), (3, .int a)]) hx hb dX1_cargoAt_40 hl (k := 0) rfl (by rw [ez26]; rfl) (by decide) rfl (fun ls hl => ?_)
        have iz26 : z26.toInt = w1.toInt + 1 := zi_add ez26 rfl rfl (by omega) (by omega)
        refine lv_goto (tgt := 3) hx hb dX1_cargoAt_43 (by decide) ?_
        exact ih2 _ _ _ _ (by rw [hn3]; omega) ⟨z26, rfl, (by omega), rfl, rfl, lv_sub hl [0, 1, 2, 3, 4] rfl⟩
      · have ic25 : z24.toInt = a.toInt := zi_nef rfl rfl c25
        refine lv_iload hx hb dX1_cargoAt_37 (lv_at hl 0 rfl) ?_
        exact W.iret (v := w1) hx hb hr (fun t ht hW => ⟨w1, rfl, ⟨(by first | decide | omega), trivial⟩, ht⟩) (fun _ h => by cases h) dX1_cargoAt_39
set_option maxHeartbeats 4000000 in
set_option maxRecDepth 100000 in
theorem t_X1_keepVoyage (l : Launch) (dC : Nat → ClassId) (dI : Nat → Nat → Nat) (sz : Nat) (Ω : Nat → Nat → (Nat → Nat) → va_E → Prop) (κ : Nat → ClassId) (τ ν : Nat → Nat) (ρ : Nat → Nat → Nat) (L : List Nat) (f : Nat → va_E) (hG : tp_G τ ν ρ L) (hT : tp_T Ω κ τ ν ρ f) (h0 : Nat) (v : Int32) (u : Int32) (ht_h0 : τ h0 = 2) (hr_v : 0 ≤ v.toInt ∧ v.toInt ≤ 2) : Met l yX1_keepVoyage wqX1_keepVoyage ({ frames := 5, cells := 0, slots := 0, locals := 1600 }) (va_Pc [.ref h0, .int v, .int u] (pz_B dC dI (tp_K κ) (va_pl L f) sz)) (va_Qv (fun (f1 : Nat → va_E) => tp_T Ω κ τ ν ρ f1 ∧ tp_F τ [2, 20, 21] f f1 ∧ True) (fun (f1 : Nat → va_E) (t : State) => pz_E dC dI (tp_K κ) (va_A (va_pl L f) sz) (va_pl L f1) t) (va_A (va_pl L f) sz)) 0 0 (va_A (va_pl L f) sz) := by
  refine Met.ofW (cc := cX1_keepVoyage) (maxL := 9) (ret := none) (by decide) rfl ?_
  intro p e s m args below meth c s₁ B hml hv
  obtain ⟨rfl, hsz, hP, hK, hD0, hN⟩ := hv
  have hx := B.exec
  have hb := B.bytes
  have hr := B.returns
  have hts := fun (w : Cond) (h : w ∈ WALL) => atoms_spec (ws := wqX1_keepVoyage) B.pre w (List.mem_cons_of_mem _ h)
  have hown : s.vm.findClass RX1 = some m.cls := findClass_of_methodNamed B.named
  have hlocks := B.notSynchronized
  subst hsz
  have hD := hD0.self (sz := s.heap.size)
  generalize hAe : va_A (va_pl L f) s.heap.size = A at hD ⊢
  have hA : ∀ q : Nat, s.heap.size ≤ q → A q := fun q h => by rw [← hAe]; exact Or.inr h
  have hS : va_S A s.heap s.heap [] := va_S.rf
  have hR : tp_F τ [2, 20, 21] f f := tp_F.rf
  have hl := lv_entry ([.ref h0, .int v, .int u]) (n := 9) (Nat.le_of_ble_eq_true rfl)
  rw [lg_entry_eq]
  generalize (lg_sl ([.ref h0, .int v, .int u]) ++ List.replicate (9 - (lg_sl ([.ref h0, .int v, .int u])).length) Slot.unset).toArray = ls at hl ⊢
  have hl : lv_has ls 9 [(0, .ref h0), (1, .int v), (2, .int u)] := hl
  refine lv_iconst (v := 0) hx hb dX1_keepVoyage_0 (by decide) ?_
  refine lv_istore_n (lv' := [(3, .int 0), (0, .ref h0), (1, .int v), (2, .int u)]) hx hb dX1_keepVoyage_1 rfl hl (by decide) rfl (fun ls hl => ?_)
  refine lv_iconst (v := 0) hx hb dX1_keepVoyage_2 (by decide) ?_
  refine lv_istore (lv' := [(4, .int 0), (3, .int 0), (0, .ref h0), (1, .int v), (2, .int u)]) hx hb dX1_keepVoyage_3 hl (by decide) rfl (fun ls hl => ?_)
  refine pz_loop (fun n0 H locs ls => ∃ w1 : Int32, ∃ w2 : Int32, n0 = (6 - (w1.toInt)).toNat ∧ (0 ≤ w1.toInt ∧ w1.toInt ≤ 6) ∧ (0 ≤ w2.toInt ∧ w2.toInt ≤ 63) ∧ va_P (dC, dI) vwCl (va_pl L f) H ∧ va_D A (va_pl L f) ∧ va_S A s.heap H locs ∧ lv_has ls 9 [(4, .int w1), (3, .int w2), (0, .ref h0), (1, .int v), (2, .int u)]) ?_ _ _ _ _ ⟨0, 0, rfl, (by have : (0 : Int32).toInt = 0 := rfl; have : (0 : Int32).toInt = 0 := rfl; omega), (by have : (0 : Int32).toInt = 0 := rfl; have : (0 : Int32).toInt = 0 := rfl; omega), hP, hD, hS, lv_sub hl [0, 1, 2, 3, 4] rfl⟩
  intro n0 H locs ls hI ih3
  refine Exists.elim hI (fun w1 hE90 => Exists.elim hE90 (fun w2 hE91 => tn_7 hE91 (fun hn4 rw1 rw2 hP hD hS hl => ?_)))
  clear hE91 hE90 hI
  refine lv_iload hx hb dX1_keepVoyage_5 (lv_at hl 0 rfl) ?_
  refine lv_aload_n hx hb dX1_keepVoyage_7 rfl (lv_at hl 2 rfl) ?_
  refine tgk_2 hG ht_h0 (fun y5 y5l y6 y6n y7 y7n y8 y8n y9 y9n y10 y10n y11 y11n y12 y12n y13 y13n y14 y14n => ?_)
  refine tpk_2 hT ht_h0 (fun o15_x5 o15_x6 o15_x7 o15_x8 o15_x9 hf_o15 ro15_0 => ?_)
  refine tpk_pos (tp_in hG ht_h0 (by decide)) hf_o15 (fun q16 eq16 => ?_)
  have ro15_0 := tp_hu ro15_0
  refine va_get (D := (dC, dI)) (ci := 1) (v := .int o15_x9) (C := RX1) (T := TX1) (N := 15) hx hb hts hfX1 hown hK hP q16 eq16 rfl 9 (by decide) (hts (.fieldLink RX1 132 "ColdShips$Planner" "planned" "I") wa_1407) (fun _ h9 => h9) rfl dX1_keepVoyage_8 ?_
  refine lv_icmp_ge (tgt := 42) hx hb dX1_keepVoyage_11 (by decide) (fun c17 => ?_) (fun c17 => ?_)
  · have ic17 : w1.toInt ≥ o15_x9.toInt := zi_ge rfl rfl c17
    refine lv_aload_n hx hb dX1_keepVoyage_42 rfl (lv_at hl 2 rfl) ?_
    refine va_get (D := (dC, dI)) (ci := 1) (v := .ref (ρ h0 2)) (C := RX1) (T := TX1) (N := 15) hx hb hts hfX1 hown hK hP q16 eq16 rfl 2 (by decide) (hts (.fieldLink RX1 15 "ColdShips$Planner" "rowPlaces" "[I") wa_135) (fun _ h9 => h9) rfl dX1_keepVoyage_43 ?_
    refine lv_iload_n hx hb dX1_keepVoyage_46 rfl (lv_at hl 3 rfl) ?_
    refine lv_bipush (v := 64) hx hb dX1_keepVoyage_47 (by decide) ?_
    refine lv_imul hx hb dX1_keepVoyage_49 ?_
    refine lv_topi (fun z18 ez18 => ?_)
    have iz18 : z18.toInt = v.toInt * 64 := zi_mul ez18 rfl rfl (by omega) (by omega)
    refine lv_iload_n hx hb dX1_keepVoyage_50 rfl (lv_at hl 1 rfl) ?_
    refine lv_iadd hx hb dX1_keepVoyage_51 ?_
    refine lv_topi (fun z19 ez19 => ?_)
    have iz19 : z19.toInt = z18.toInt + w2.toInt := zi_add ez19 rfl rfl (by omega) (by omega)
    refine tpk_20 hT y7 y7n (fun g21 hf_o20 => ?_)
    refine tpk_pos (tp_in hG y7 (by decide)) hf_o20 (fun q22 eq22 => ?_)
    refine va_iald hx hb hK hP q22 0 eq22 rfl (vp_in_iff.mpr ⟨by omega, by omega⟩) dX1_keepVoyage_52 ?_
    refine lv_topi (fun z23 ez23 => ?_)
    refine lv_istore (lv' := [(4, .int z23), (3, .int w2), (0, .ref h0), (1, .int v), (2, .int u)]) hx hb dX1_keepVoyage_53 hl (by decide) rfl (fun ls hl => ?_)
    refine lv_aload_n hx hb dX1_keepVoyage_55 rfl (lv_at hl 2 rfl) ?_
    refine va_get (D := (dC, dI)) (ci := 1) (v := .ref (ρ h0 0)) (C := RX1) (T := TX1) (N := 15) hx hb hts hfX1 hown hK hP q16 eq16 rfl 0 (by decide) (hts (.fieldLink RX1 40 "ColdShips$Planner" "world" "LColdShips$World;") wa_143) (fun _ h9 => h9) rfl dX1_keepVoyage_56 ?_
    refine tgk_11 hG y5 (fun y24 y24n y25 y25n y26 y27 y28 y29 y29m y29l y30 y30m y30l y31 y31m y31l y32 y32w y32m y32l y33 y33w y33m y33l y34 y34w y34m y34l y35 y35w y35m y35l => ?_)
    refine tpk_11 hT y5 (fun o36_x0 o36_x1 o36_x2 o36_x3 o36_x4 o36_x5 o36_x6 hf_o36 ro36_0 ro36_1 ro36_2 ro36_3 => ?_)
    refine tpk_pos (tp_in hG y5 (by decide)) hf_o36 (fun q37 eq37 => ?_)
    refine va_getN (D := (dC, dI)) (ci := 10) (v := .ref (ρ (ρ h0 0) 10)) (C := RX10) (T := TX10) (N := 19) hx hb hts hfX10 hown hK hP q37 eq37 rfl 10 (by decide) (va_Nw.use rfl (hN.1 (.fieldLinkNest RX1 80 "ColdShips$World" "ships" "[LColdShips$Ship;" "ColdShips") nzw_70)) (fun _ h9 => h9) rfl dX1_keepVoyage_59 ?_
    refine lv_iload_n hx hb dX1_keepVoyage_62 rfl (lv_at hl 3 rfl) ?_
    refine tpk_25 hT y27 (fun g39 hf_o38 hf_o38e => ?_)
    refine tpk_pos (tp_in hG y27 (by decide)) hf_o38 (fun q40 eq40 => ?_)
    refine va_aldq hx hb hK hP q40 5 eq40 rfl (vp_in_iff.mpr ⟨by omega, by omega⟩) dX1_keepVoyage_63 ?_
    obtain ⟨b41, hb42⟩ : ∃ b : Nat, b = ρ (ρ (ρ h0 0) 10) v.toNatClampNeg := ⟨_, rfl⟩
    have hb42t : τ b41 = 6 := by rw [hb42]; exact tpg_25 hG y27 _ (zi_cl (vp_in_iff.mpr ⟨by omega, by omega⟩))
    have hb42g : g39 v.toNatClampNeg = some b41 := by rw [hb42]; exact hf_o38e _ (zi_cl (vp_in_iff.mpr ⟨by omega, by omega⟩))
    refine W.eq (g2 := F0 m 64 ls (.ref b41 :: [])) (congrArg (fun o => F0 m 64 ls (va_rf o :: [])) hb42g) ?_
    refine tgk_6 hG hb42t (fun y43 y44 y44n y45 y45n y46 y46n y47 y47n y48 y48n y49 y49n => ?_)
    refine tpk_6 hT hb42t (fun o50_x1 o50_x2 o50_x3 o50_x4 o50_x5 o50_x6 o50_x10 o50_x11 o50_x12 o50_x14 hf_o50 ro50_0 ro50_1 ro50_2 => ?_)
    refine tpk_pos (tp_in hG hb42t (by decide)) hf_o50 (fun q51 eq51 => ?_)
    have ro50_0 := tp_hu ro50_0
    refine va_getN (D := (dC, dI)) (ci := 5) (v := .int o50_x2) (C := RX5) (T := TX5) (N := 17) hx hb hts hfX5 hown hK hP q51 eq51 rfl 2 (by decide) (va_Nw.use rfl (hN.1 (.fieldLinkNest RX1 84 "ColdShips$Ship" "where" "I" "ColdShips") nzw_26)) (fun _ h9 => h9) rfl dX1_keepVoyage_64 ?_
    refine lv_istore (lv' := [(5, .int o50_x2), (4, .int z23), (3, .int w2), (0, .ref h0), (1, .int v), (2, .int u)]) hx hb dX1_keepVoyage_67 hl (by decide) rfl (fun ls hl => ?_)
    refine lv_iload_n hx hb dX1_keepVoyage_69 rfl (lv_at hl 5 rfl) ?_
    refine lv_istore (lv' := [(6, .int u), (5, .int o50_x2), (4, .int z23), (3, .int w2), (0, .ref h0), (1, .int v), (2, .int u)]) hx hb dX1_keepVoyage_70 hl (by decide) rfl (fun ls hl => ?_)
    refine lv_iconst (v := 0) hx hb dX1_keepVoyage_72 (by decide) ?_
    refine lv_istore (lv' := [(7, .int 0), (6, .int u), (5, .int o50_x2), (4, .int z23), (3, .int w2), (0, .ref h0), (1, .int v), (2, .int u)]) hx hb dX1_keepVoyage_73 hl (by decide) rfl (fun ls hl => ?_)
    refine pz_loop (fun n0 H locs ls => ∃ f55 : Nat → va_E, ∃ w52 : Int32, ∃ w53 : Int32, ∃ w54 : Int32, n0 = (6 - (w52.toInt)).toNat ∧ tp_T Ω κ τ ν ρ f55 ∧ tp_F τ [2, 20, 21] f f55 ∧ (0 ≤ w52.toInt ∧ w52.toInt ≤ 6) ∧ va_P (dC, dI) vwCl (va_pl L f55) H ∧ va_D A (va_pl L f55) ∧ va_S A s.heap H locs ∧ lv_has ls 9 [(7, .int w52), (6, .int w53), (5, .int w54), (4, .int z23), (3, .int w2), (0, .ref h0), (1, .int v), (2, .int u)]) ?_ _ _ _ _ ⟨f, 0, u, o50_x2, rfl, hT, hR, (by have : (0 : Int32).toInt = 0 := rfl; omega), hP, hD, hS, lv_sub hl [0, 1, 2, 3, 4, 5, 6, 7] rfl⟩
    intro n0 H locs ls hI ih56
    refine Exists.elim hI (fun f55 hE90 => Exists.elim hE90 (fun w52 hE91 => Exists.elim hE91 (fun w53 hE92 => Exists.elim hE92 (fun w54 hE93 => tn_8 hE93 (fun hn57 hT hR rw52 hP hD hS hl => ?_)))))
    clear hE93 hE92 hE91 hE90 hI
    refine lv_iload hx hb dX1_keepVoyage_75 (lv_at hl 0 rfl) ?_
    refine lv_aload_n hx hb dX1_keepVoyage_77 rfl (lv_at hl 5 rfl) ?_
    refine tpk_2 hT ht_h0 (fun o58_x5 o58_x6 o58_x7 o58_x8 o58_x9 hf_o58 ro58_0 => ?_)
    refine tpk_pos (tp_in hG ht_h0 (by decide)) hf_o58 (fun q59 eq59 => ?_)
    have ro58_0 := tp_hu ro58_0
    refine va_get (D := (dC, dI)) (ci := 1) (v := .int o58_x9) (C := RX1) (T := TX1) (N := 15) hx hb hts hfX1 hown hK hP q59 eq59 rfl 9 (by decide) (hts (.fieldLink RX1 132 "ColdShips$Planner" "planned" "I") wa_1407) (fun _ h9 => h9) rfl dX1_keepVoyage_78 ?_
    refine lv_icmp_ge (tgt := 185) hx hb dX1_keepVoyage_81 (by decide) (fun c60 => ?_) (fun c60 => ?_)
    · have ic60 : w52.toInt ≥ o58_x9.toInt := zi_ge rfl rfl c60
      exact W.vret hx hb hr (fun t ht hW => ⟨⟨f55, rfl, ⟨hT, hR, trivial⟩, by rw [ht]; exact hP, va_K.moved hW.alike hK, hD⟩, hS.F ht⟩) hS.2.2 dX1_keepVoyage_185
    · have ic60 : w52.toInt < o58_x9.toInt := zi_gef rfl rfl c60
      refine lv_aload_n hx hb dX1_keepVoyage_84 rfl (lv_at hl 5 rfl) ?_
      refine lv_iload_n hx hb dX1_keepVoyage_85 rfl (lv_at hl 4 rfl) ?_
      refine lv_iload hx hb dX1_keepVoyage_86 (lv_at hl 3 rfl) ?_
      refine lv_iload hx hb dX1_keepVoyage_88 (lv_at hl 0 rfl) ?_
      refine pz_calli (va_runV (As := [.int w2, .int z23, .int w52]) (rest := []) ⟨hx, hb, hml, hown, hts⟩ (t_X1_cargoAt l dC dI _ Ω κ τ ν ρ L f55 hG hT h0 w2 z23 w52 ht_h0) (cwV 3 hts gX1_keepVoyage_X1_cargoAt rfl rfl rfl ⟨rfl, pd_X1_cargoAt⟩ ⟨Nat.le_of_ble_eq_true rfl, Nat.le_of_ble_eq_true rfl⟩) ⟨pz_blind, va_recv hK hP (ci := 1) (q0 := q59) rfl eq59, pz_pre hP hK hD hN⟩ rfl rfl hl.1 rfl (lv_room (Nat.le_of_ble_eq_true rfl)) dX1_keepVoyage_90 ⟨Nat.le_of_ble_eq_true rfl, Nat.le_of_ble_eq_true rfl⟩) (fun r61 hw62 => ?_)
      obtain ⟨hw62r, hw62p⟩ := hw62
      refine lv_istore (lv' := [(8, .int r61), (7, .int w52), (6, .int w53), (5, .int w54), (4, .int z23), (3, .int w2), (0, .ref h0), (1, .int v), (2, .int u)]) hx hb dX1_keepVoyage_93 hl (by decide) rfl (fun ls hl => ?_)
      refine lv_iload hx hb dX1_keepVoyage_95 (lv_at hl 0 rfl) ?_
      refine lv_iconst (v := (-1)) hx hb dX1_keepVoyage_97 (by decide) ?_
      refine lv_icmp_eq (tgt := 115) hx hb dX1_keepVoyage_98 (by decide) (fun c63 => ?_) (fun c63 => ?_)
      · have ic63 : r61.toInt = (-1) := zi_eq rfl rfl c63
        exact W.vret hx hb hr (fun t ht hW => ⟨⟨f55, rfl, ⟨hT, hR, trivial⟩, by rw [ht]; exact hP, va_K.moved hW.alike hK, hD⟩, hS.F ht⟩) hS.2.2 dX1_keepVoyage_115
      · have ic63 : r61.toInt ≠ (-1) := zi_eqf rfl rfl c63
        refine lv_aload_n hx hb dX1_keepVoyage_101 rfl (lv_at hl 6 rfl) ?_
        refine lv_iload_n hx hb dX1_keepVoyage_102 rfl (lv_at hl 7 rfl) ?_
        refine lv_iload hx hb dX1_keepVoyage_103 (lv_at hl 0 rfl) ?_
        refine lv_iload hx hb dX1_keepVoyage_105 (lv_at hl 3 rfl) ?_
        refine lv_iload hx hb dX1_keepVoyage_107 (lv_at hl 2 rfl) ?_
        have hFc := tp_fr hD hS hA
        refine va_calli (va_runV (As := [.int v, .int r61, .int w54, .int w53]) (rest := []) ⟨hx, hb, hml, hown, hts⟩ (t_X1_reckon l dC dI _ Ω κ τ ν ρ L f55 hG hT h0 v r61 w54 w53 ht_h0 (by first | decide | omega)) (cwV 4 hts gX1_keepVoyage_X1_reckon rfl rfl rfl ⟨rfl, pd_X1_reckon⟩ ⟨Nat.le_of_ble_eq_true rfl, Nat.le_of_ble_eq_true rfl⟩) ⟨pz_blind, va_recv hK hP (ci := 1) (q0 := q59) rfl eq59, pz_pre hP hK hD hN⟩ rfl rfl hl.1 rfl (lv_room (Nat.le_of_ble_eq_true rfl)) dX1_keepVoyage_109 ⟨Nat.le_of_ble_eq_true rfl, Nat.le_of_ble_eq_true rfl⟩) hS (fun q _ h => hFc q h) hFc (fun r64 f66 t H1 locs ht hvm hw65 hB hz1 hk1 hS => ?_)
        refine tn_4 hw65 (fun hT hF67 hw65r hw65p => ?_); clear hw65
        have hR := hR.then hF67 (by decide)
        have hP := hB.1; rw [ht] at hP; have hD := tp_ad f66 hD; clear hB hFc hz1 hk1; subst ht; generalize t.heap = H at hP hS ⊢
        refine lv_if_ne (tgt := 116) hx hb dX1_keepVoyage_112 (by decide) (fun c68 => ?_) (fun c68 => ?_)
        · have ic68 : r64.toInt ≠ 0 := zi_ne rfl rfl c68
          refine lv_aload_n hx hb dX1_keepVoyage_116 rfl (lv_at hl 6 rfl) ?_
          refine tpk_2 hT ht_h0 (fun o69_x5 o69_x6 o69_x7 o69_x8 o69_x9 hf_o69 ro69_0 => ?_)
          refine tpk_pos (tp_in hG ht_h0 (by decide)) hf_o69 (fun q70 eq70 => ?_)
          refine va_get (D := (dC, dI)) (ci := 1) (v := .ref (ρ h0 11)) (C := RX1) (T := TX1) (N := 15) hx hb hts hfX1 hown hK hP q70 eq70 rfl 11 (by decide) (hts (.fieldLink RX1 28 "ColdShips$Planner" "placeOf" "[I") wa_139) (fun _ h9 => h9) rfl dX1_keepVoyage_117 ?_
          refine lv_iload hx hb dX1_keepVoyage_120 (lv_at hl 0 rfl) ?_
          refine lv_iload hx hb dX1_keepVoyage_122 (lv_at hl 1 rfl) ?_
          refine tpk_20 hT y11 y11n (fun g72 hf_o71 => ?_)
          refine tpk_pos (tp_in hG y11 (by decide)) hf_o71 (fun q73 eq73 => ?_)
          refine va_iast hx hb hK hP hD hS q73 0 eq73 rfl (vp_in_iff.mpr ⟨by omega, by omega⟩) dX1_keepVoyage_124 (tp_k (.inl (κ 0, 6, .inl (upd g72 r61.toNatClampNeg w52))) hD (tp_in hG y11 (by decide)) eq73 (fun f74 H locs hP hD hS g76 k75 => ?_))
          have hT := hT.up y11 g76 k75 (tp_o20 y11n)
          have hR := hR.up y11 (by decide) k75
          generalize (upd g72 r61.toNatClampNeg w52) = g77 at g76
          refine lv_aload_n hx hb dX1_keepVoyage_125 rfl (lv_at hl 6 rfl) ?_
          have hf_78 : f74 h0 = .inr (1, [.ref (ρ h0 0), .ref (ρ h0 1), .ref (ρ h0 2), .ref (ρ h0 3), .ref (ρ h0 4), .int o69_x5, .int o69_x6, .int o69_x7, .long o69_x8, .int o69_x9, .ref (ρ h0 10), .ref (ρ h0 11), .ref (ρ h0 12), .ref (ρ h0 13), .ref (ρ h0 14)]) := (k75 _ (tp_ne ht_h0 y11 (by decide))).trans hf_o69
          refine tpk_pos (tp_in hG ht_h0 (by decide)) hf_78 (fun q79 eq79 => ?_)
          refine va_get (D := (dC, dI)) (ci := 1) (v := .ref (ρ h0 12)) (C := RX1) (T := TX1) (N := 15) hx hb hts hfX1 hown hK hP q79 eq79 rfl 12 (by decide) (hts (.fieldLink RX1 31 "ColdShips$Planner" "loadOf" "[I") wa_140) (fun _ h9 => h9) rfl dX1_keepVoyage_126 ?_
          refine lv_iload hx hb dX1_keepVoyage_129 (lv_at hl 0 rfl) ?_
          refine lv_aload_n hx hb dX1_keepVoyage_131 rfl (lv_at hl 6 rfl) ?_
          refine va_get (D := (dC, dI)) (ci := 1) (v := .int o69_x5) (C := RX1) (T := TX1) (N := 15) hx hb hts hfX1 hown hK hP q79 eq79 rfl 5 (by decide) (hts (.fieldLink RX1 142 "ColdShips$Planner" "loadAt" "I") wa_1363) (fun _ h9 => h9) rfl dX1_keepVoyage_132 ?_
          refine tpk_20 hT y12 y12n (fun g81 hf_o80 => ?_)
          refine tpk_pos (tp_in hG y12 (by decide)) hf_o80 (fun q82 eq82 => ?_)
          refine va_iast hx hb hK hP hD hS q82 0 eq82 rfl (vp_in_iff.mpr ⟨by omega, by omega⟩) dX1_keepVoyage_135 (tp_k (.inl (κ 0, 6, .inl (upd g81 r61.toNatClampNeg o69_x5))) hD (tp_in hG y12 (by decide)) eq82 (fun f83 H locs hP hD hS g85 k84 => ?_))
          have hT := hT.up y12 g85 k84 (tp_o20 y12n)
          have hR := hR.up y12 (by decide) k84
          generalize (upd g81 r61.toNatClampNeg o69_x5) = g86 at g85
          refine lv_aload_n hx hb dX1_keepVoyage_136 rfl (lv_at hl 6 rfl) ?_
          have hf_87 : f83 h0 = .inr (1, [.ref (ρ h0 0), .ref (ρ h0 1), .ref (ρ h0 2), .ref (ρ h0 3), .ref (ρ h0 4), .int o69_x5, .int o69_x6, .int o69_x7, .long o69_x8, .int o69_x9, .ref (ρ h0 10), .ref (ρ h0 11), .ref (ρ h0 12), .ref (ρ h0 13), .ref (ρ h0 14)]) := (k84 _ (tp_ne ht_h0 y12 (by decide))).trans hf_78
          refine tpk_pos (tp_in hG ht_h0 (by decide)) hf_87 (fun q88 eq88 => ?_)
          refine va_get (D := (dC, dI)) (ci := 1) (v := .ref (ρ h0 13)) (C := RX1) (T := TX1) (N := 15) hx hb hts hfX1 hown hK hP q88 eq88 rfl 13 (by decide) (hts (.fieldLink RX1 34 "ColdShips$Planner" "landOf" "[I") wa_141) (fun _ h9 => h9) rfl dX1_keepVoyage_137 ?_
          refine lv_iload hx hb dX1_keepVoyage_140 (lv_at hl 0 rfl) ?_
          refine lv_aload_n hx hb dX1_keepVoyage_142 rfl (lv_at hl 6 rfl) ?_
          refine va_get (D := (dC, dI)) (ci := 1) (v := .int o69_x6) (C := RX1) (T := TX1) (N := 15) hx hb hts hfX1 hown hK hP q88 eq88 rfl 6 (by decide) (hts (.fieldLink RX1 145 "ColdShips$Planner" "landAt" "I") wa_1364) (fun _ h9 => h9) rfl dX1_keepVoyage_143 ?_
          refine tpk_20 hT y13 y13n (fun g90 hf_o89 => ?_)
          refine tpk_pos (tp_in hG y13 (by decide)) hf_o89 (fun q91 eq91 => ?_)
          refine va_iast hx hb hK hP hD hS q91 0 eq91 rfl (vp_in_iff.mpr ⟨by omega, by omega⟩) dX1_keepVoyage_146 (tp_k (.inl (κ 0, 6, .inl (upd g90 r61.toNatClampNeg o69_x6))) hD (tp_in hG y13 (by decide)) eq91 (fun f92 H locs hP hD hS g94 k93 => ?_))
          have hT := hT.up y13 g94 k93 (tp_o20 y13n)
          have hR := hR.up y13 (by decide) k93
          generalize (upd g90 r61.toNatClampNeg o69_x6) = g95 at g94
          refine lv_aload_n hx hb dX1_keepVoyage_147 rfl (lv_at hl 6 rfl) ?_
          have hf_96 : f92 h0 = .inr (1, [.ref (ρ h0 0), .ref (ρ h0 1), .ref (ρ h0 2), .ref (ρ h0 3), .ref (ρ h0 4), .int o69_x5, .int o69_x6, .int o69_x7, .long o69_x8, .int o69_x9, .ref (ρ h0 10), .ref (ρ h0 11), .ref (ρ h0 12), .ref (ρ h0 13), .ref (ρ h0 14)]) := (k93 _ (tp_ne ht_h0 y13 (by decide))).trans hf_87
          refine tpk_pos (tp_in hG ht_h0 (by decide)) hf_96 (fun q97 eq97 => ?_)
          refine va_get (D := (dC, dI)) (ci := 1) (v := .ref (ρ h0 14)) (C := RX1) (T := TX1) (N := 15) hx hb hts hfX1 hown hK hP q97 eq97 rfl 14 (by decide) (hts (.fieldLink RX1 37 "ColdShips$Planner" "worthOf" "[J") wa_142) (fun _ h9 => h9) rfl dX1_keepVoyage_148 ?_
          refine lv_iload hx hb dX1_keepVoyage_151 (lv_at hl 0 rfl) ?_
          refine lv_aload_n hx hb dX1_keepVoyage_153 rfl (lv_at hl 6 rfl) ?_
          refine va_get (D := (dC, dI)) (ci := 1) (v := .long o69_x8) (C := RX1) (T := TX1) (N := 15) hx hb hts hfX1 hown hK hP q97 eq97 rfl 8 (by decide) (hts (.fieldLink RX1 108 "ColdShips$Planner" "worth" "J") wa_1356) (fun _ h9 => h9) rfl dX1_keepVoyage_154 ?_
          refine tpk_21 hT y14 y14n (fun g99 hf_o98 => ?_)
          refine tpk_pos (tp_in hG y14 (by decide)) hf_o98 (fun q100 eq100 => ?_)
          refine va_last hx hb hK hP hD hS q100 1 eq100 rfl (vp_in_iff.mpr ⟨by omega, by omega⟩) dX1_keepVoyage_157 (tp_k (.inl (κ 1, 6, .inr (.inl (vp_updL g99 r61.toNatClampNeg o69_x8)))) hD (tp_in hG y14 (by decide)) eq100 (fun f101 H locs hP hD hS g103 k102 => ?_))
          have hT := hT.up y14 g103 k102 (tp_o21 y14n)
          have hR := hR.up y14 (by decide) k102
          generalize (vp_updL g99 r61.toNatClampNeg o69_x8) = g104 at g103
          refine lv_aload_n hx hb dX1_keepVoyage_158 rfl (lv_at hl 6 rfl) ?_
          have hf_105 : f101 h0 = .inr (1, [.ref (ρ h0 0), .ref (ρ h0 1), .ref (ρ h0 2), .ref (ρ h0 3), .ref (ρ h0 4), .int o69_x5, .int o69_x6, .int o69_x7, .long o69_x8, .int o69_x9, .ref (ρ h0 10), .ref (ρ h0 11), .ref (ρ h0 12), .ref (ρ h0 13), .ref (ρ h0 14)]) := (k102 _ (tp_ne ht_h0 y14 (by decide))).trans hf_96
          refine tpk_pos (tp_in hG ht_h0 (by decide)) hf_105 (fun q106 eq106 => ?_)
          refine va_get (D := (dC, dI)) (ci := 1) (v := .ref (ρ h0 0)) (C := RX1) (T := TX1) (N := 15) hx hb hts hfX1 hown hK hP q106 eq106 rfl 0 (by decide) (hts (.fieldLink RX1 40 "ColdShips$Planner" "world" "LColdShips$World;") wa_143) (fun _ h9 => h9) rfl dX1_keepVoyage_159 ?_
          refine tpk_11 hT y5 (fun o107_x0 o107_x1 o107_x2 o107_x3 o107_x4 o107_x5 o107_x6 hf_o107 ro107_0 ro107_1 ro107_2 ro107_3 => ?_)
          refine tpk_pos (tp_in hG y5 (by decide)) hf_o107 (fun q108 eq108 => ?_)
          refine va_getN (D := (dC, dI)) (ci := 10) (v := .ref (ρ (ρ h0 0) 18)) (C := RX10) (T := TX10) (N := 19) hx hb hts hfX10 hown hK hP q108 eq108 rfl 18 (by decide) (va_Nw.use rfl (hN.1 (.fieldLinkNest RX1 50 "ColdShips$World" "cargoes" "LColdShips$Rows;" "ColdShips") nzw_86)) (fun _ h9 => h9) rfl dX1_keepVoyage_162 ?_
          refine lv_iload hx hb dX1_keepVoyage_165 (lv_at hl 0 rfl) ?_
          refine lv_iconst (v := 1) hx hb dX1_keepVoyage_167 (by decide) ?_
          refine tgk_5 hG y35 (fun y109 y109n y110a y110b y110c => ?_)
          refine tpk_5 hT y35 (fun o111_x0 o111_x2 hf_o111 ro111_0 ro111_1 => ?_)
          refine tpk_pos (tp_in hG y35 (by decide)) hf_o111 (fun q112 eq112 => ?_)
          refine pz_calli (va_runV (As := [.int r61, .int 1]) (rest := []) ⟨hx, hb, hml, hown, hts⟩ (t_X4_number l dC dI _ Ω κ τ ν ρ L f101 hG hT (ρ (ρ h0 0) 18) r61 (1) y35) (cwV 2 hts gX1_keepVoyage_X4_number rfl rfl rfl ⟨rfl, pd_X4_number⟩ ⟨Nat.le_of_ble_eq_true rfl, Nat.le_of_ble_eq_true rfl⟩) ⟨pz_blind, va_recv hK hP (ci := 4) (q0 := q112) rfl eq112, pz_pre hP hK hD hN⟩ rfl rfl hl.1 rfl (lv_room (Nat.le_of_ble_eq_true rfl)) dX1_keepVoyage_168 ⟨Nat.le_of_ble_eq_true rfl, Nat.le_of_ble_eq_true rfl⟩) (fun r113 hw114 => ?_)
          obtain ⟨hw114r, hw114p⟩ := hw114
          refine lv_istore (lv' := [(5, .int r113), (8, .int r61), (7, .int w52), (6, .int w53), (4, .int z23), (3, .int w2), (0, .ref h0), (1, .int v), (2, .int u)]) hx hb dX1_keepVoyage_171 hl (by decide) rfl (fun ls hl => ?_)
          refine lv_aload_n hx hb dX1_keepVoyage_173 rfl (lv_at hl 6 rfl) ?_
          refine va_get (D := (dC, dI)) (ci := 1) (v := .int o69_x7) (C := RX1) (T := TX1) (N := 15) hx hb hts hfX1 hown hK hP q106 eq106 rfl 7 (by decide) (hts (.fieldLink RX1 119 "ColdShips$Planner" "freeAt" "I") wa_1357) (fun _ h9 => h9) rfl dX1_keepVoyage_174 ?_
          refine lv_istore (lv' := [(6, .int o69_x7), (5, .int r113), (8, .int r61), (7, .int w52), (4, .int z23), (3, .int w2), (0, .ref h0), (1, .int v), (2, .int u)]) hx hb dX1_keepVoyage_177 hl (by decide) rfl (fun ls hl => ?_)
          obtain ⟨z115, ez115⟩ : ∃ y : Int32, y = w52 + 1 := ⟨_, rfl⟩
          refine lv_iinc (v := z115) (lv' := [(7, .int z115), (6, .int o69_x7), (5, .int r113), (8, .int r61), (4, .int z23), (3, .int w2), (0, .ref h0), (1, .int v), (2, .int u)]) hx hb dX1_keepVoyage_179 hl (k := 3) rfl (by rw [ez115]; rfl) (by decide) rfl (fun ls hl => ?_)
          have iz115 : z115.toInt = w52.toInt + 1 := zi_add ez115 rfl rfl (by omega) (by omega)
          refine lv_goto (tgt := 75) hx hb dX1_keepVoyage_182 (by decide) ?_
          exact ih56 _ _ _ _ (by rw [hn57]; omega) ⟨f101, z115, o69_x7, r113, rfl, hT, hR, (by omega), hP, hD, hS, lv_sub hl [0, 1, 2, 4, 5, 6, 7, 8] rfl⟩
        · have ic68 : r64.toInt = 0 := zi_nef rfl rfl c68
          exact W.vret hx hb hr (fun t ht hW => ⟨⟨f66, rfl, ⟨hT, hR, trivial⟩, by rw [ht]; exact hP, va_K.moved hW.alike hK, hD⟩, hS.F ht⟩) hS.2.2 dX1_keepVoyage_115
  · have ic17 : w1.toInt < o15_x9.toInt := zi_gef rfl rfl c17
    refine lv_iload_n hx hb dX1_keepVoyage_14 rfl (lv_at hl 1 rfl) ?_
    refine lv_aload_n hx hb dX1_keepVoyage_15 rfl (lv_at hl 2 rfl) ?_
    refine va_get (D := (dC, dI)) (ci := 1) (v := .ref (ρ h0 10)) (C := RX1) (T := TX1) (N := 15) hx hb hts hfX1 hown hK hP q16 eq16 rfl 10 (by decide) (hts (.fieldLink RX1 25 "ColdShips$Planner" "shipOf" "[I") wa_138) (fun _ h9 => h9) rfl dX1_keepVoyage_16 ?_
    refine lv_iload hx hb dX1_keepVoyage_19 (lv_at hl 0 rfl) ?_
    refine tpk_20 hT y10 y10n (fun g117 hf_o116 => ?_)
    refine tpk_pos (tp_in hG y10 (by decide)) hf_o116 (fun q118 eq118 => ?_)
    refine va_iald hx hb hK hP q118 0 eq118 rfl (vp_in_iff.mpr ⟨by omega, by omega⟩) dX1_keepVoyage_21 ?_
    refine lv_topi (fun z119 ez119 => ?_)
    refine lv_iload_n hx hb dX1_keepVoyage_22 rfl (lv_at hl 3 rfl) ?_
    refine lv_icmp_ne (tgt := 33) hx hb dX1_keepVoyage_23 (by decide) (fun c120 => ?_) (fun c120 => ?_)
    · have ic120 : z119.toInt ≠ v.toInt := zi_ne rfl rfl c120
      refine lv_iconst (v := 0) hx hb dX1_keepVoyage_33 (by decide) ?_
      refine lv_ior hx hb dX1_keepVoyage_34 ?_
      refine lv_topi (fun z121 ez121 => ?_)
      have iz121 : 0 ≤ z121.toInt ∧ z121.toInt ≤ 63 := zb_or 6 ez121 (rfl : w2.toInt = _) (show (0 : Int32).toInt = 0 from rfl) (by omega) (by omega) (by omega) (by omega) (by decide)
      refine lv_istore_n (lv' := [(3, .int z121), (4, .int w1), (0, .ref h0), (1, .int v), (2, .int u)]) hx hb dX1_keepVoyage_35 rfl hl (by decide) rfl (fun ls hl => ?_)
      obtain ⟨z122, ez122⟩ : ∃ y : Int32, y = w1 + 1 := ⟨_, rfl⟩
      refine lv_iinc (v := z122) (lv' := [(4, .int z122), (3, .int z121), (0, .ref h0), (1, .int v), (2, .int u)]) hx hb dX1_keepVoyage_36 hl (k := 1) rfl (by rw [ez122]; rfl) (by decide) rfl (fun ls hl => ?_)
      have iz122 : z122.toInt = w1.toInt + 1 := zi_add ez122 rfl rfl (by omega) (by omega)
      refine lv_goto (tgt := 5) hx hb dX1_keepVoyage_39 (by decide) ?_
      exact ih3 _ _ _ _ (by rw [hn4]; omega) ⟨z122, z121, rfl, (by omega), (by omega), hP, hD, hS, lv_sub hl [0, 1, 2, 3, 4] rfl⟩
    · have ic120 : z119.toInt = v.toInt := zi_nef rfl rfl c120
      refine lv_iconst (v := 1) hx hb dX1_keepVoyage_26 (by decide) ?_
      refine lv_iload hx hb dX1_keepVoyage_27 (lv_at hl 0 rfl) ?_
      refine lv_ishl hx hb dX1_keepVoyage_29 ?_
      refine lv_topi (fun z123 ez123 => ?_)
      have iz123 : 1 ≤ z123.toInt ∧ z123.toInt ≤ 32 := zb_shl5 ez123 rfl (by omega) (by omega)
      refine lv_goto (tgt := 34) hx hb dX1_keepVoyage_30 (by decide) ?_
      refine lv_ior hx hb dX1_keepVoyage_34 ?_
      refine lv_topi (fun z124 ez124 => ?_)
      have iz124 : 0 ≤ z124.toInt ∧ z124.toInt ≤ 63 := zb_or 6 ez124 (rfl : w2.toInt = _) (rfl : z123.toInt = _) (by omega) (by omega) (by omega) (by omega) (by decide)
      refine lv_istore_n (lv' := [(3, .int z124), (4, .int w1), (0, .ref h0), (1, .int v), (2, .int u)]) hx hb dX1_keepVoyage_35 rfl hl (by decide) rfl (fun ls hl => ?_)
      obtain ⟨z125, ez125⟩ : ∃ y : Int32, y = w1 + 1 := ⟨_, rfl⟩
      refine lv_iinc (v := z125) (lv' := [(4, .int z125), (3, .int z124), (0, .ref h0), (1, .int v), (2, .int u)]) hx hb dX1_keepVoyage_36 hl (k := 1) rfl (by rw [ez125]; rfl) (by decide) rfl (fun ls hl => ?_)
      have iz125 : z125.toInt = w1.toInt + 1 := zi_add ez125 rfl rfl (by omega) (by omega)
      refine lv_goto (tgt := 5) hx hb dX1_keepVoyage_39 (by decide) ?_
      exact ih3 _ _ _ _ (by rw [hn4]; omega) ⟨z125, z124, rfl, (by omega), (by omega), hP, hD, hS, lv_sub hl [0, 1, 2, 3, 4] rfl⟩
set_option maxHeartbeats 4000000 in
set_option maxRecDepth 100000 in
theorem t_X1_keepPlan (l : Launch) (dC : Nat → ClassId) (dI : Nat → Nat → Nat) (sz : Nat) (Ω : Nat → Nat → (Nat → Nat) → va_E → Prop) (κ : Nat → ClassId) (τ ν : Nat → Nat) (ρ : Nat → Nat → Nat) (L : List Nat) (f : Nat → va_E) (hG : tp_G τ ν ρ L) (hT : tp_T Ω κ τ ν ρ f) (h0 : Nat) (v : Int32) (u : Int32) (ht_h0 : τ h0 = 2) : Met l yX1_keepPlan wqX1_keepPlan ({ frames := 6, cells := 0, slots := 0, locals := 2000 }) (va_Pc [.ref h0, .int v, .int u] (pz_B dC dI (tp_K κ) (va_pl L f) sz)) (va_Qv (fun (f1 : Nat → va_E) => tp_T Ω κ τ ν ρ f1 ∧ tp_F τ [2, 20, 21] f f1 ∧ True) (fun (f1 : Nat → va_E) (t : State) => pz_E dC dI (tp_K κ) (va_A (va_pl L f) sz) (va_pl L f1) t) (va_A (va_pl L f) sz)) 0 0 (va_A (va_pl L f) sz) := by
  refine Met.ofW (cc := cX1_keepPlan) (maxL := 5) (ret := none) (by decide) rfl ?_
  intro p e s m args below meth c s₁ B hml hv
  obtain ⟨rfl, hsz, hP, hK, hD0, hN⟩ := hv
  have hx := B.exec
  have hb := B.bytes
  have hr := B.returns
  have hts := fun (w : Cond) (h : w ∈ WALL) => atoms_spec (ws := wqX1_keepPlan) B.pre w (List.mem_cons_of_mem _ h)
  have hown : s.vm.findClass RX1 = some m.cls := findClass_of_methodNamed B.named
  have hlocks := B.notSynchronized
  subst hsz
  have hD := hD0.self (sz := s.heap.size)
  generalize hAe : va_A (va_pl L f) s.heap.size = A at hD ⊢
  have hA : ∀ q : Nat, s.heap.size ≤ q → A q := fun q h => by rw [← hAe]; exact Or.inr h
  have hS : va_S A s.heap s.heap [] := va_S.rf
  have hR : tp_F τ [2, 20, 21] f f := tp_F.rf
  have hl := lv_entry ([.ref h0, .int v, .int u]) (n := 5) (Nat.le_of_ble_eq_true rfl)
  rw [lg_entry_eq]
  generalize (lg_sl ([.ref h0, .int v, .int u]) ++ List.replicate (5 - (lg_sl ([.ref h0, .int v, .int u])).length) Slot.unset).toArray = ls at hl ⊢
  have hl : lv_has ls 5 [(0, .ref h0), (1, .int v), (2, .int u)] := hl
  refine lv_aload_n hx hb dX1_keepPlan_0 rfl (lv_at hl 0 rfl) ?_
  refine lv_bipush (v := 6) hx hb dX1_keepPlan_1 (by decide) ?_
  refine lv_aload_n hx hb dX1_keepPlan_3 rfl (lv_at hl 0 rfl) ?_
  refine tgk_2 hG ht_h0 (fun y1 y1l y2 y2n y3 y3n y4 y4n y5 y5n y6 y6n y7 y7n y8 y8n y9 y9n y10 y10n => ?_)
  refine tpk_2 hT ht_h0 (fun o11_x5 o11_x6 o11_x7 o11_x8 o11_x9 hf_o11 ro11_0 => ?_)
  refine tpk_pos (tp_in hG ht_h0 (by decide)) hf_o11 (fun q12 eq12 => ?_)
  refine va_get (D := (dC, dI)) (ci := 1) (v := .ref (ρ h0 0)) (C := RX1) (T := TX1) (N := 15) hx hb hts hfX1 hown hK hP q12 eq12 rfl 0 (by decide) (hts (.fieldLink RX1 40 "ColdShips$Planner" "world" "LColdShips$World;") wa_143) (fun _ h9 => h9) rfl dX1_keepPlan_4 ?_
  refine tgk_11 hG y1 (fun y13 y13n y14 y14n y15 y16 y17 y18 y18m y18l y19 y19m y19l y20 y20m y20l y21 y21w y21m y21l y22 y22w y22m y22l y23 y23w y23m y23l y24 y24w y24m y24l => ?_)
  refine tpk_11 hT y1 (fun o25_x0 o25_x1 o25_x2 o25_x3 o25_x4 o25_x5 o25_x6 hf_o25 ro25_0 ro25_1 ro25_2 ro25_3 => ?_)
  refine tpk_pos (tp_in hG y1 (by decide)) hf_o25 (fun q26 eq26 => ?_)
  refine va_getN (D := (dC, dI)) (ci := 10) (v := .ref (ρ (ρ h0 0) 18)) (C := RX10) (T := TX10) (N := 19) hx hb hts hfX10 hown hK hP q26 eq26 rfl 18 (by decide) (va_Nw.use rfl (hN.1 (.fieldLinkNest RX1 50 "ColdShips$World" "cargoes" "LColdShips$Rows;" "ColdShips") nzw_86)) (fun _ h9 => h9) rfl dX1_keepPlan_7 ?_
  refine tgk_5 hG y24 (fun y27 y27n y28a y28b y28c => ?_)
  refine tpk_5 hT y24 (fun o29_x0 o29_x2 hf_o29 ro29_0 ro29_1 => ?_)
  refine tpk_pos (tp_in hG y24 (by decide)) hf_o29 (fun q30 eq30 => ?_)
  have ro29_1 := tp_hu ro29_1
  refine va_getN (D := (dC, dI)) (ci := 4) (v := .int o29_x2) (C := RX4) (T := TX4) (N := 3) hx hb hts hfX4 hown hK hP q30 eq30 rfl 2 (by decide) (va_Nw.use rfl (hN.1 (.fieldLinkNest RX1 54 "ColdShips$Rows" "size" "I" "ColdShips") nzw_1)) (fun _ h9 => h9) rfl dX1_keepPlan_10 ?_
  refine va_mmin hx hb (by rw [hml]; exact hl.1.symm) hown (hts (.methodLink RX1 60 Lib.Math.min.name) wa_1348) (hts (.static Lib.Math.min.name) wa_434) (hts (.initialized "java/lang/Math") wa_71) (hts (.code Lib.Math.min.name Lib.Math.min.code 2 (some .int)) wa_435) (Nat.le_of_ble_eq_true rfl) (Nat.le_of_ble_eq_true rfl) (Nat.le_of_ble_eq_true rfl) (Nat.le_of_ble_eq_true rfl) dX1_keepPlan_13 ?_
  refine lv_topi (fun z31 ez31 => ?_)
  have iz31 := zi_min ez31 (show (6 : Int32).toInt = 6 from rfl) (rfl : o29_x2.toInt = _)
  refine va_put (D := (dC, dI)) (ci := 1) (v := .int z31) (ty := .int) (C := RX1) (T := TX1) (N := 15) hx hb hts hfX1 tyX1 tyX1_ok nmX1 hown hK hP hD hS q12 eq12 rfl 9 (by decide) (hts (.fieldLink RX1 132 "ColdShips$Planner" "planned" "I") wa_1407) (fun _ h9 => h9) rfl (tyX1_ok 9 (by decide)) rfl rfl (Nat.le_of_ble_eq_true rfl) dX1_keepPlan_16 (tp_k (.inr (1, [.ref (ρ h0 0), .ref (ρ h0 1), .ref (ρ h0 2), .ref (ρ h0 3), .ref (ρ h0 4), .int o11_x5, .int o11_x6, .int o11_x7, .long o11_x8, .int z31, .ref (ρ h0 10), .ref (ρ h0 11), .ref (ρ h0 12), .ref (ρ h0 13), .ref (ρ h0 14)])) hD (tp_in hG ht_h0 (by decide)) eq12 (fun f32 H locs hP hD hS g34 k33 => ?_))
  have hT := hT.up ht_h0 g34 k33 ⟨_, _, _, _, _, rfl, (by first | decide | omega | (omega))⟩
  have hR := hR.up ht_h0 (by decide) k33
  refine lv_iconst (v := 0) hx hb dX1_keepPlan_19 (by decide) ?_
  refine lv_istore_n (lv' := [(3, .int 0), (0, .ref h0), (1, .int v), (2, .int u)]) hx hb dX1_keepPlan_20 rfl hl (by decide) rfl (fun ls hl => ?_)
  refine pz_loop (fun n0 H locs ls => ∃ f36 : Nat → va_E, ∃ w35 : Int32, n0 = (6 - (w35.toInt)).toNat ∧ tp_T Ω κ τ ν ρ f36 ∧ tp_F τ [2, 20, 21] f f36 ∧ (0 ≤ w35.toInt ∧ w35.toInt ≤ 6) ∧ va_P (dC, dI) vwCl (va_pl L f36) H ∧ va_D A (va_pl L f36) ∧ va_S A s.heap H locs ∧ lv_has ls 5 [(3, .int w35), (0, .ref h0), (1, .int v), (2, .int u)]) ?_ _ _ _ _ ⟨f32, 0, rfl, hT, hR, (by have : (0 : Int32).toInt = 0 := rfl; omega), hP, hD, hS, lv_sub hl [0, 1, 2, 3] rfl⟩
  intro n0 H locs ls hI ih37
  refine Exists.elim hI (fun f36 hE90 => Exists.elim hE90 (fun w35 hE91 => tn_8 hE91 (fun hn38 hT hR rw35 hP hD hS hl => ?_)))
  clear hE91 hE90 hI
  refine lv_iload_n hx hb dX1_keepPlan_21 rfl (lv_at hl 0 rfl) ?_
  refine lv_aload_n hx hb dX1_keepPlan_22 rfl (lv_at hl 1 rfl) ?_
  refine tpk_2 hT ht_h0 (fun o39_x5 o39_x6 o39_x7 o39_x8 o39_x9 hf_o39 ro39_0 => ?_)
  refine tpk_pos (tp_in hG ht_h0 (by decide)) hf_o39 (fun q40 eq40 => ?_)
  have ro39_0 := tp_hu ro39_0
  refine va_get (D := (dC, dI)) (ci := 1) (v := .int o39_x9) (C := RX1) (T := TX1) (N := 15) hx hb hts hfX1 hown hK hP q40 eq40 rfl 9 (by decide) (hts (.fieldLink RX1 132 "ColdShips$Planner" "planned" "I") wa_1407) (fun _ h9 => h9) rfl dX1_keepPlan_23 ?_
  refine lv_icmp_ge (tgt := 64) hx hb dX1_keepPlan_26 (by decide) (fun c41 => ?_) (fun c41 => ?_)
  · have ic41 : w35.toInt ≥ o39_x9.toInt := zi_ge rfl rfl c41
    refine lv_iconst (v := 0) hx hb dX1_keepPlan_64 (by decide) ?_
    refine lv_istore_n (lv' := [(3, .int 0), (0, .ref h0), (1, .int v), (2, .int u)]) hx hb dX1_keepPlan_65 rfl hl (by decide) rfl (fun ls hl => ?_)
    refine pz_loop (fun n0 H locs ls => ∃ f43 : Nat → va_E, ∃ w42 : Int32, n0 = (3 - (w42.toInt)).toNat ∧ tp_T Ω κ τ ν ρ f43 ∧ tp_F τ [2, 20, 21] f f43 ∧ (0 ≤ w42.toInt ∧ w42.toInt ≤ 3) ∧ va_P (dC, dI) vwCl (va_pl L f43) H ∧ va_D A (va_pl L f43) ∧ va_S A s.heap H locs ∧ lv_has ls 5 [(3, .int w42), (0, .ref h0), (1, .int v), (2, .int u)]) ?_ _ _ _ _ ⟨f36, 0, rfl, hT, hR, (by have : (0 : Int32).toInt = 0 := rfl; omega), hP, hD, hS, lv_sub hl [0, 1, 2, 3] rfl⟩
    intro n0 H locs ls hI ih44
    refine Exists.elim hI (fun f43 hE90 => Exists.elim hE90 (fun w42 hE91 => tn_8 hE91 (fun hn45 hT hR rw42 hP hD hS hl => ?_)))
    clear hE91 hE90 hI
    refine lv_iload_n hx hb dX1_keepPlan_66 rfl (lv_at hl 0 rfl) ?_
    refine lv_iconst (v := 3) hx hb dX1_keepPlan_67 (by decide) ?_
    refine lv_icmp_ge (tgt := 94) hx hb dX1_keepPlan_68 (by decide) (fun c46 => ?_) (fun c46 => ?_)
    · have ic46 : w42.toInt ≥ 3 := zi_ge rfl rfl c46
      exact W.vret hx hb hr (fun t ht hW => ⟨⟨f43, rfl, ⟨hT, hR, trivial⟩, by rw [ht]; exact hP, va_K.moved hW.alike hK, hD⟩, hS.F ht⟩) hS.2.2 dX1_keepPlan_94
    · have ic46 : w42.toInt < 3 := zi_gef rfl rfl c46
      refine lv_iload_n hx hb dX1_keepPlan_71 rfl (lv_at hl 0 rfl) ?_
      refine lv_aload_n hx hb dX1_keepPlan_72 rfl (lv_at hl 1 rfl) ?_
      refine tpk_2 hT ht_h0 (fun o47_x5 o47_x6 o47_x7 o47_x8 o47_x9 hf_o47 ro47_0 => ?_)
      refine tpk_pos (tp_in hG ht_h0 (by decide)) hf_o47 (fun q48 eq48 => ?_)
      refine va_get (D := (dC, dI)) (ci := 1) (v := .ref (ρ h0 0)) (C := RX1) (T := TX1) (N := 15) hx hb hts hfX1 hown hK hP q48 eq48 rfl 0 (by decide) (hts (.fieldLink RX1 40 "ColdShips$Planner" "world" "LColdShips$World;") wa_143) (fun _ h9 => h9) rfl dX1_keepPlan_73 ?_
      refine tpk_11 hT y1 (fun o49_x0 o49_x1 o49_x2 o49_x3 o49_x4 o49_x5 o49_x6 hf_o49 ro49_0 ro49_1 ro49_2 ro49_3 => ?_)
      refine tpk_pos (tp_in hG y1 (by decide)) hf_o49 (fun q50 eq50 => ?_)
      have ro49_2 := tp_hu ro49_2
      refine va_getN (D := (dC, dI)) (ci := 10) (v := .int o49_x5) (C := RX10) (T := TX10) (N := 19) hx hb hts hfX10 hown hK hP q50 eq50 rfl 5 (by decide) (va_Nw.use rfl (hN.1 (.fieldLinkNest RX1 74 "ColdShips$World" "shipCount" "I" "ColdShips") nzw_59)) (fun _ h9 => h9) rfl dX1_keepPlan_76 ?_
      refine lv_icmp_ge (tgt := 94) hx hb dX1_keepPlan_79 (by decide) (fun c51 => ?_) (fun c51 => ?_)
      · have ic51 : w42.toInt ≥ o49_x5.toInt := zi_ge rfl rfl c51
        exact W.vret hx hb hr (fun t ht hW => ⟨⟨f43, rfl, ⟨hT, hR, trivial⟩, by rw [ht]; exact hP, va_K.moved hW.alike hK, hD⟩, hS.F ht⟩) hS.2.2 dX1_keepPlan_94
      · have ic51 : w42.toInt < o49_x5.toInt := zi_gef rfl rfl c51
        refine lv_aload_n hx hb dX1_keepPlan_82 rfl (lv_at hl 1 rfl) ?_
        refine lv_iload_n hx hb dX1_keepPlan_83 rfl (lv_at hl 0 rfl) ?_
        refine lv_iload_n hx hb dX1_keepPlan_84 rfl (lv_at hl 3 rfl) ?_
        have hFc := tp_fr hD hS hA
        refine va_callv (va_runV (As := [.int w42, .int u]) (rest := []) ⟨hx, hb, hml, hown, hts⟩ (t_X1_keepVoyage l dC dI _ Ω κ τ ν ρ L f43 hG hT h0 w42 u ht_h0 (by first | decide | omega)) (cwV 2 hts gX1_keepPlan_X1_keepVoyage rfl rfl rfl ⟨rfl, pd_X1_keepVoyage⟩ ⟨Nat.le_of_ble_eq_true rfl, Nat.le_of_ble_eq_true rfl⟩) ⟨pz_blind, va_recv hK hP (ci := 1) (q0 := q48) rfl eq48, pz_pre hP hK hD hN⟩ rfl rfl hl.1 rfl (lv_room (Nat.le_of_ble_eq_true rfl)) dX1_keepPlan_85 ⟨Nat.le_of_ble_eq_true rfl, Nat.le_of_ble_eq_true rfl⟩) hS (fun q _ h => hFc q h) hFc (fun f54 t H1 locs ht hvm hw53 hB hz1 hk1 hS => ?_)
        refine tn_3 hw53 (fun hT hF55 hw53p => ?_); clear hw53
        have hR := hR.then hF55 (by decide)
        have hP := hB.1; rw [ht] at hP; have hD := tp_ad f54 hD; clear hB hFc hz1 hk1; subst ht; generalize t.heap = H at hP hS ⊢
        obtain ⟨z56, ez56⟩ : ∃ y : Int32, y = w42 + 1 := ⟨_, rfl⟩
        refine lv_iinc (v := z56) (lv' := [(3, .int z56), (0, .ref h0), (1, .int v), (2, .int u)]) hx hb dX1_keepPlan_88 hl (k := 0) rfl (by rw [ez56]; rfl) (by decide) rfl (fun ls hl => ?_)
        have iz56 : z56.toInt = w42.toInt + 1 := zi_add ez56 rfl rfl (by omega) (by omega)
        refine lv_goto (tgt := 66) hx hb dX1_keepPlan_91 (by decide) ?_
        exact ih44 _ _ _ _ (by rw [hn45]; omega) ⟨f54, z56, rfl, hT, hR, (by omega), hP, hD, hS, lv_sub hl [0, 1, 2, 3] rfl⟩
  · have ic41 : w35.toInt < o39_x9.toInt := zi_gef rfl rfl c41
    refine lv_iload_n hx hb dX1_keepPlan_29 rfl (lv_at hl 2 rfl) ?_
    refine lv_iconst (v := 2) hx hb dX1_keepPlan_30 (by decide) ?_
    refine lv_iconst (v := 5) hx hb dX1_keepPlan_31 (by decide) ?_
    refine lv_iload_n hx hb dX1_keepPlan_32 rfl (lv_at hl 0 rfl) ?_
    refine lv_isub hx hb dX1_keepPlan_33 ?_
    refine lv_topi (fun z57 ez57 => ?_)
    have iz57 : z57.toInt = 5 - w35.toInt := zi_sub ez57 rfl rfl (by omega) (by omega)
    refine lv_imul hx hb dX1_keepPlan_34 ?_
    refine lv_topi (fun z58 ez58 => ?_)
    have iz58 : z58.toInt = 2 * z57.toInt := zi_mul ez58 rfl rfl (by omega) (by omega)
    refine lv_ishr hx hb dX1_keepPlan_35 ?_
    refine lv_topi (fun z59 ez59 => ?_)
    refine lv_iconst (v := 3) hx hb dX1_keepPlan_36 (by decide) ?_
    refine lv_iand hx hb dX1_keepPlan_37 ?_
    refine lv_topi (fun z60 ez60 => ?_)
    have iz60 : 0 ≤ z60.toInt ∧ z60.toInt ≤ 3 := zb_mask ez60 (by decide)
    refine lv_istore (lv' := [(4, .int z60), (3, .int w35), (0, .ref h0), (1, .int v), (2, .int u)]) hx hb dX1_keepPlan_38 hl (by decide) rfl (fun ls hl => ?_)
    refine lv_aload_n hx hb dX1_keepPlan_40 rfl (lv_at hl 2 rfl) ?_
    refine va_get (D := (dC, dI)) (ci := 1) (v := .ref (ρ h0 10)) (C := RX1) (T := TX1) (N := 15) hx hb hts hfX1 hown hK hP q40 eq40 rfl 10 (by decide) (hts (.fieldLink RX1 25 "ColdShips$Planner" "shipOf" "[I") wa_138) (fun _ h9 => h9) rfl dX1_keepPlan_41 ?_
    refine lv_iload_n hx hb dX1_keepPlan_44 rfl (lv_at hl 1 rfl) ?_
    refine lv_iload hx hb dX1_keepPlan_45 (lv_at hl 0 rfl) ?_
    refine lv_iconst (v := 3) hx hb dX1_keepPlan_47 (by decide) ?_
    refine lv_icmp_ge (tgt := 56) hx hb dX1_keepPlan_48 (by decide) (fun c61 => ?_) (fun c61 => ?_)
    · have ic61 : z60.toInt ≥ 3 := zi_ge rfl rfl c61
      refine lv_iconst (v := (-1)) hx hb dX1_keepPlan_56 (by decide) ?_
      refine tpk_20 hT y6 y6n (fun g63 hf_o62 => ?_)
      refine tpk_pos (tp_in hG y6 (by decide)) hf_o62 (fun q64 eq64 => ?_)
      refine va_iast hx hb hK hP hD hS q64 0 eq64 rfl (vp_in_iff.mpr ⟨by omega, by omega⟩) dX1_keepPlan_57 (tp_k (.inl (κ 0, 6, .inl (upd g63 w35.toNatClampNeg ((-1) : Int32)))) hD (tp_in hG y6 (by decide)) eq64 (fun f65 H locs hP hD hS g67 k66 => ?_))
      have hT := hT.up y6 g67 k66 (tp_o20 y6n)
      have hR := hR.up y6 (by decide) k66
      generalize (upd g63 w35.toNatClampNeg ((-1) : Int32)) = g68 at g67
      obtain ⟨z69, ez69⟩ : ∃ y : Int32, y = w35 + 1 := ⟨_, rfl⟩
      refine lv_iinc (v := z69) (lv' := [(3, .int z69), (4, .int z60), (0, .ref h0), (1, .int v), (2, .int u)]) hx hb dX1_keepPlan_58 hl (k := 1) rfl (by rw [ez69]; rfl) (by decide) rfl (fun ls hl => ?_)
      have iz69 : z69.toInt = w35.toInt + 1 := zi_add ez69 rfl rfl (by omega) (by omega)
      refine lv_goto (tgt := 21) hx hb dX1_keepPlan_61 (by decide) ?_
      exact ih37 _ _ _ _ (by rw [hn38]; omega) ⟨f65, z69, rfl, hT, hR, (by omega), hP, hD, hS, lv_sub hl [0, 2, 3, 4] rfl⟩
    · have ic61 : z60.toInt < 3 := zi_gef rfl rfl c61
      refine lv_iload hx hb dX1_keepPlan_51 (lv_at hl 0 rfl) ?_
      refine lv_goto (tgt := 57) hx hb dX1_keepPlan_53 (by decide) ?_
      refine tpk_20 hT y6 y6n (fun g71 hf_o70 => ?_)
      refine tpk_pos (tp_in hG y6 (by decide)) hf_o70 (fun q72 eq72 => ?_)
      refine va_iast hx hb hK hP hD hS q72 0 eq72 rfl (vp_in_iff.mpr ⟨by omega, by omega⟩) dX1_keepPlan_57 (tp_k (.inl (κ 0, 6, .inl (upd g71 w35.toNatClampNeg z60))) hD (tp_in hG y6 (by decide)) eq72 (fun f73 H locs hP hD hS g75 k74 => ?_))
      have hT := hT.up y6 g75 k74 (tp_o20 y6n)
      have hR := hR.up y6 (by decide) k74
      generalize (upd g71 w35.toNatClampNeg z60) = g76 at g75
      obtain ⟨z77, ez77⟩ : ∃ y : Int32, y = w35 + 1 := ⟨_, rfl⟩
      refine lv_iinc (v := z77) (lv' := [(3, .int z77), (4, .int z60), (0, .ref h0), (1, .int v), (2, .int u)]) hx hb dX1_keepPlan_58 hl (k := 1) rfl (by rw [ez77]; rfl) (by decide) rfl (fun ls hl => ?_)
      have iz77 : z77.toInt = w35.toInt + 1 := zi_add ez77 rfl rfl (by omega) (by omega)
      refine lv_goto (tgt := 21) hx hb dX1_keepPlan_61 (by decide) ?_
      exact ih37 _ _ _ _ (by rw [hn38]; omega) ⟨f73, z77, rfl, hT, hR, (by omega), hP, hD, hS, lv_sub hl [0, 2, 3, 4] rfl⟩
set_option maxHeartbeats 4000000 in
set_option maxRecDepth 100000 in
theorem t_X1_findBest (l : Launch) (dC : Nat → ClassId) (dI : Nat → Nat → Nat) (sz : Nat) (Ω : Nat → Nat → (Nat → Nat) → va_E → Prop) (κ : Nat → ClassId) (τ ν : Nat → Nat) (ρ : Nat → Nat → Nat) (L : List Nat) (f : Nat → va_E) (hG : tp_G τ ν ρ L) (hT : tp_T Ω κ τ ν ρ f) (h0 : Nat) (v : Int32) (ht_h0 : τ h0 = 2) : Met l yX1_findBest wqX1_findBest ({ frames := 11, cells := 0, slots := 0, locals := 4000 }) (va_Pc [.ref h0, .int v] (pz_B dC dI (tp_K κ) (va_pl L f) sz)) (va_Ql (fun (r : Int64) (f1 : Nat → va_E) => tp_T Ω κ τ ν ρ f1 ∧ tp_F τ [2, 20, 21] f f1 ∧ True ∧ True) (fun (f1 : Nat → va_E) (t : State) => pz_E dC dI (tp_K κ) (va_A (va_pl L f) sz) (va_pl L f1) t) (va_A (va_pl L f) sz)) 0 0 (va_A (va_pl L f) sz) := by
  refine Met.ofW (cc := cX1_findBest) (maxL := 5) (ret := some .long) (by decide) rfl ?_
  intro p e s m args below meth c s₁ B hml hv
  obtain ⟨rfl, hsz, hP, hK, hD0, hN⟩ := hv
  have hx := B.exec
  have hb := B.bytes
  have hr := B.returns
  have hts := fun (w : Cond) (h : w ∈ WALL) => atoms_spec (ws := wqX1_findBest) B.pre w (List.mem_cons_of_mem _ h)
  have hown : s.vm.findClass RX1 = some m.cls := findClass_of_methodNamed B.named
  have hlocks := B.notSynchronized
  subst hsz
  have hD := hD0.self (sz := s.heap.size)
  generalize hAe : va_A (va_pl L f) s.heap.size = A at hD ⊢
  have hA : ∀ q : Nat, s.heap.size ≤ q → A q := fun q h => by rw [← hAe]; exact Or.inr h
  have hS : va_S A s.heap s.heap [] := va_S.rf
  have hR : tp_F τ [2, 20, 21] f f := tp_F.rf
  have hl := lv_entry ([.ref h0, .int v]) (n := 5) (Nat.le_of_ble_eq_true rfl)
  rw [lg_entry_eq]
  generalize (lg_sl ([.ref h0, .int v]) ++ List.replicate (5 - (lg_sl ([.ref h0, .int v])).length) Slot.unset).toArray = ls at hl ⊢
  have hl : lv_has ls 5 [(0, .ref h0), (1, .int v)] := hl
  refine lv_iconst (v := 1) hx hb dX1_findBest_0 (by decide) ?_
  refine lv_bipush (v := 6) hx hb dX1_findBest_1 (by decide) ?_
  refine lv_aload_n hx hb dX1_findBest_3 rfl (lv_at hl 0 rfl) ?_
  refine tgk_2 hG ht_h0 (fun y1 y1l y2 y2n y3 y3n y4 y4n y5 y5n y6 y6n y7 y7n y8 y8n y9 y9n y10 y10n => ?_)
  refine tpk_2 hT ht_h0 (fun o11_x5 o11_x6 o11_x7 o11_x8 o11_x9 hf_o11 ro11_0 => ?_)
  refine tpk_pos (tp_in hG ht_h0 (by decide)) hf_o11 (fun q12 eq12 => ?_)
  refine va_get (D := (dC, dI)) (ci := 1) (v := .ref (ρ h0 0)) (C := RX1) (T := TX1) (N := 15) hx hb hts hfX1 hown hK hP q12 eq12 rfl 0 (by decide) (hts (.fieldLink RX1 40 "ColdShips$Planner" "world" "LColdShips$World;") wa_143) (fun _ h9 => h9) rfl dX1_findBest_4 ?_
  refine tgk_11 hG y1 (fun y13 y13n y14 y14n y15 y16 y17 y18 y18m y18l y19 y19m y19l y20 y20m y20l y21 y21w y21m y21l y22 y22w y22m y22l y23 y23w y23m y23l y24 y24w y24m y24l => ?_)
  refine tpk_11 hT y1 (fun o25_x0 o25_x1 o25_x2 o25_x3 o25_x4 o25_x5 o25_x6 hf_o25 ro25_0 ro25_1 ro25_2 ro25_3 => ?_)
  refine tpk_pos (tp_in hG y1 (by decide)) hf_o25 (fun q26 eq26 => ?_)
  refine va_getN (D := (dC, dI)) (ci := 10) (v := .ref (ρ (ρ h0 0) 18)) (C := RX10) (T := TX10) (N := 19) hx hb hts hfX10 hown hK hP q26 eq26 rfl 18 (by decide) (va_Nw.use rfl (hN.1 (.fieldLinkNest RX1 50 "ColdShips$World" "cargoes" "LColdShips$Rows;" "ColdShips") nzw_86)) (fun _ h9 => h9) rfl dX1_findBest_7 ?_
  refine tgk_5 hG y24 (fun y27 y27n y28a y28b y28c => ?_)
  refine tpk_5 hT y24 (fun o29_x0 o29_x2 hf_o29 ro29_0 ro29_1 => ?_)
  refine tpk_pos (tp_in hG y24 (by decide)) hf_o29 (fun q30 eq30 => ?_)
  have ro29_1 := tp_hu ro29_1
  refine va_getN (D := (dC, dI)) (ci := 4) (v := .int o29_x2) (C := RX4) (T := TX4) (N := 3) hx hb hts hfX4 hown hK hP q30 eq30 rfl 2 (by decide) (va_Nw.use rfl (hN.1 (.fieldLinkNest RX1 54 "ColdShips$Rows" "size" "I" "ColdShips") nzw_1)) (fun _ h9 => h9) rfl dX1_findBest_10 ?_
  refine va_mmin hx hb (by rw [hml]; exact hl.1.symm) hown (hts (.methodLink RX1 60 Lib.Math.min.name) wa_1348) (hts (.static Lib.Math.min.name) wa_434) (hts (.initialized "java/lang/Math") wa_71) (hts (.code Lib.Math.min.name Lib.Math.min.code 2 (some .int)) wa_435) (Nat.le_of_ble_eq_true rfl) (Nat.le_of_ble_eq_true rfl) (Nat.le_of_ble_eq_true rfl) (Nat.le_of_ble_eq_true rfl) dX1_findBest_13 ?_
  refine lv_topi (fun z31 ez31 => ?_)
  have iz31 := zi_min ez31 (show (6 : Int32).toInt = 6 from rfl) (rfl : o29_x2.toInt = _)
  refine lv_ishl hx hb dX1_findBest_16 ?_
  refine lv_topi (fun z32 ez32 => ?_)
  have iz32 : 1 ≤ z32.toInt ∧ z32.toInt ≤ 64 := zb_shl6 ez32 rfl (by omega) (by omega)
  refine lv_istore_n (lv' := [(2, .int z32), (0, .ref h0), (1, .int v)]) hx hb dX1_findBest_17 rfl hl (by decide) rfl (fun ls hl => ?_)
  refine lv_aload_n hx hb dX1_findBest_18 rfl (lv_at hl 1 rfl) ?_
  refine va_get (D := (dC, dI)) (ci := 1) (v := .ref (ρ h0 3)) (C := RX1) (T := TX1) (N := 15) hx hb hts hfX1 hown hK hP q12 eq12 rfl 3 (by decide) (hts (.fieldLink RX1 19 "ColdShips$Planner" "setWorths" "[J") wa_136) (fun _ h9 => h9) rfl dX1_findBest_19 ?_
  refine lv_ldc2 (own := RX1) (v := (-2000000000000000)) hx hb hown (hts (.constantLong RX1 66 (-2000000000000000)) wa_1349) dX1_findBest_22 ?_
  have hFc := tp_fr hD hS hA
  refine va_callv (va_runS (As := [.ref (ρ h0 3), .long (-2000000000000000)]) (rest := []) ⟨hx, hb, hml, hown, hts⟩ (t_J7_fill_d0a16 l dC dI _ Ω κ τ ν ρ L f hG hT (ρ h0 3) ((-2000000000000000)) y4 (by omega)) (va_cwS 2 hts gX1_findBest_J7_fill_d0a16 rfl rfl rfl pd_J7_fill_d0a16 ⟨Nat.le_of_ble_eq_true rfl, Nat.le_of_ble_eq_true rfl⟩) ⟨pz_blind, pz_pre hP hK hD hN⟩ rfl rfl hl.1 rfl (lv_room (Nat.le_of_ble_eq_true rfl)) dX1_findBest_25 ⟨Nat.le_of_ble_eq_true rfl, Nat.le_of_ble_eq_true rfl⟩) hS (fun q _ h => hFc q h) hFc (fun f35 t H1 locs ht hvm hw34 hB hz1 hk1 hS => ?_)
  refine tn_3 hw34 (fun hT hF36 hw34p => ?_); clear hw34
  have hR := hR.then hF36 (by decide)
  have hP := hB.1; rw [ht] at hP; have hD := tp_ad f35 hD; clear hB hFc hz1 hk1; subst ht; generalize t.heap = H at hP hS ⊢
  refine lv_aload_n hx hb dX1_findBest_28 rfl (lv_at hl 1 rfl) ?_
  have hf_37 : f35 h0 = .inr (1, [.ref (ρ h0 0), .ref (ρ h0 1), .ref (ρ h0 2), .ref (ρ h0 3), .ref (ρ h0 4), .int o11_x5, .int o11_x6, .int o11_x7, .long o11_x8, .int o11_x9, .ref (ρ h0 10), .ref (ρ h0 11), .ref (ρ h0 12), .ref (ρ h0 13), .ref (ρ h0 14)]) := (hF36 _ (by rw [ht_h0]; decide)).trans hf_o11
  refine tpk_pos (tp_in hG ht_h0 (by decide)) hf_37 (fun q38 eq38 => ?_)
  refine va_get (D := (dC, dI)) (ci := 1) (v := .ref (ρ h0 3)) (C := RX1) (T := TX1) (N := 15) hx hb hts hfX1 hown hK hP q38 eq38 rfl 3 (by decide) (hts (.fieldLink RX1 19 "ColdShips$Planner" "setWorths" "[J") wa_136) (fun _ h9 => h9) rfl dX1_findBest_29 ?_
  refine lv_iconst (v := 0) hx hb dX1_findBest_32 (by decide) ?_
  refine lv_lconst (v := 0) hx hb dX1_findBest_33 (by decide) ?_
  refine tpk_21 hT y4 y4n (fun g40 hf_o39 => ?_)
  refine tpk_pos (tp_in hG y4 (by decide)) hf_o39 (fun q41 eq41 => ?_)
  refine va_last hx hb hK hP hD hS q41 1 eq41 rfl (vp_in_iff.mpr ⟨by decide, by decide⟩) dX1_findBest_34 (tp_k (.inl (κ 1, 64, .inr (.inl (vp_updL g40 (0 : Int32).toNatClampNeg (0 : Int64))))) hD (tp_in hG y4 (by decide)) eq41 (fun f42 H locs hP hD hS g44 k43 => ?_))
  have hT := hT.up y4 g44 k43 (tp_o21 y4n)
  have hR := hR.up y4 (by decide) k43
  generalize (vp_updL g40 (0 : Int32).toNatClampNeg (0 : Int64)) = g45 at g44
  refine lv_aload_n hx hb dX1_findBest_35 rfl (lv_at hl 1 rfl) ?_
  have hf_46 : f42 h0 = .inr (1, [.ref (ρ h0 0), .ref (ρ h0 1), .ref (ρ h0 2), .ref (ρ h0 3), .ref (ρ h0 4), .int o11_x5, .int o11_x6, .int o11_x7, .long o11_x8, .int o11_x9, .ref (ρ h0 10), .ref (ρ h0 11), .ref (ρ h0 12), .ref (ρ h0 13), .ref (ρ h0 14)]) := (k43 _ (tp_ne ht_h0 y4 (by decide))).trans hf_37
  refine tpk_pos (tp_in hG ht_h0 (by decide)) hf_46 (fun q47 eq47 => ?_)
  refine va_get (D := (dC, dI)) (ci := 1) (v := .ref (ρ h0 4)) (C := RX1) (T := TX1) (N := 15) hx hb hts hfX1 hown hK hP q47 eq47 rfl 4 (by decide) (hts (.fieldLink RX1 22 "ColdShips$Planner" "setShips" "[I") wa_137) (fun _ h9 => h9) rfl dX1_findBest_36 ?_
  refine lv_iconst (v := 0) hx hb dX1_findBest_39 (by decide) ?_
  refine lv_sipush (v := 4095) hx hb dX1_findBest_40 (by decide) ?_
  refine tpk_20 hT y5 y5n (fun g49 hf_o48 => ?_)
  refine tpk_pos (tp_in hG y5 (by decide)) hf_o48 (fun q50 eq50 => ?_)
  refine va_iast hx hb hK hP hD hS q50 0 eq50 rfl (vp_in_iff.mpr ⟨by decide, by decide⟩) dX1_findBest_43 (tp_k (.inl (κ 0, 64, .inl (upd g49 (0 : Int32).toNatClampNeg (4095 : Int32)))) hD (tp_in hG y5 (by decide)) eq50 (fun f51 H locs hP hD hS g53 k52 => ?_))
  have hT := hT.up y5 g53 k52 (tp_o20 y5n)
  have hR := hR.up y5 (by decide) k52
  generalize (upd g49 (0 : Int32).toNatClampNeg (4095 : Int32)) = g54 at g53
  refine lv_iconst (v := 0) hx hb dX1_findBest_44 (by decide) ?_
  refine lv_istore_n (lv' := [(3, .int 0), (2, .int z32), (0, .ref h0), (1, .int v)]) hx hb dX1_findBest_45 rfl hl (by decide) rfl (fun ls hl => ?_)
  refine pz_loop (fun n0 H locs ls => ∃ f56 : Nat → va_E, ∃ w55 : Int32, n0 = (3 - (w55.toInt)).toNat ∧ tp_T Ω κ τ ν ρ f56 ∧ tp_F τ [2, 20, 21] f f56 ∧ (0 ≤ w55.toInt ∧ w55.toInt ≤ 3) ∧ va_P (dC, dI) vwCl (va_pl L f56) H ∧ va_D A (va_pl L f56) ∧ va_S A s.heap H locs ∧ lv_has ls 5 [(3, .int w55), (2, .int z32), (0, .ref h0), (1, .int v)]) ?_ _ _ _ _ ⟨f51, 0, rfl, hT, hR, (by have : (0 : Int32).toInt = 0 := rfl; omega), hP, hD, hS, lv_sub hl [0, 1, 2, 3] rfl⟩
  intro n0 H locs ls hI ih57
  refine Exists.elim hI (fun f56 hE90 => Exists.elim hE90 (fun w55 hE91 => tn_8 hE91 (fun hn58 hT hR rw55 hP hD hS hl => ?_)))
  clear hE91 hE90 hI
  refine lv_iload_n hx hb dX1_findBest_46 rfl (lv_at hl 0 rfl) ?_
  refine lv_iconst (v := 3) hx hb dX1_findBest_47 (by decide) ?_
  refine tp_join 136 (fun H locs ls stk => stk = [] ∧ va_P (dC, dI) vwCl (va_pl L f56) H ∧ va_D A (va_pl L f56) ∧ va_S A s.heap H locs ∧ lv_has ls 5 [(3, .int w55), (2, .int z32), (0, .ref h0), (1, .int v)]) ?_ (fun hj59 => ?_)
  · intro H locs ls stk hI
    refine tn_5 hI (fun e90 hP hD hS hl => ?_)
    clear hI; subst e90
    refine lv_iconst (v := 0) hx hb dX1_findBest_136 (by decide) ?_
    refine lv_istore_n (lv' := [(3, .int 0), (2, .int z32), (0, .ref h0), (1, .int v)]) hx hb dX1_findBest_137 rfl hl (by decide) rfl (fun ls hl => ?_)
    refine lv_iconst (v := 1) hx hb dX1_findBest_138 (by decide) ?_
    refine lv_istore (lv' := [(4, .int 1), (3, .int 0), (2, .int z32), (0, .ref h0), (1, .int v)]) hx hb dX1_findBest_139 hl (by decide) rfl (fun ls hl => ?_)
    refine pz_loop (fun n0 H locs ls => ∃ w60 : Int32, ∃ w61 : Int32, n0 = (64 - (w60.toInt)).toNat ∧ (1 ≤ w60.toInt ∧ w60.toInt ≤ 64) ∧ (0 ≤ w61.toInt ∧ w61.toInt ≤ 63) ∧ va_P (dC, dI) vwCl (va_pl L f56) H ∧ va_D A (va_pl L f56) ∧ va_S A s.heap H locs ∧ lv_has ls 5 [(4, .int w60), (3, .int w61), (2, .int z32), (0, .ref h0), (1, .int v)]) ?_ _ _ _ _ ⟨1, 0, rfl, (by have : (1 : Int32).toInt = 1 := rfl; have : (0 : Int32).toInt = 0 := rfl; omega), (by have : (1 : Int32).toInt = 1 := rfl; have : (0 : Int32).toInt = 0 := rfl; omega), hP, hD, hS, lv_sub hl [0, 1, 2, 3, 4] rfl⟩
    intro n0 H locs ls hI ih62
    refine Exists.elim hI (fun w60 hE90 => Exists.elim hE90 (fun w61 hE91 => tn_7 hE91 (fun hn63 rw60 rw61 hP hD hS hl => ?_)))
    clear hE91 hE90 hI
    refine lv_iload hx hb dX1_findBest_141 (lv_at hl 0 rfl) ?_
    refine lv_iload_n hx hb dX1_findBest_143 rfl (lv_at hl 2 rfl) ?_
    refine lv_icmp_ge (tgt := 166) hx hb dX1_findBest_144 (by decide) (fun c64 => ?_) (fun c64 => ?_)
    · have ic64 : w60.toInt ≥ z32.toInt := zi_ge rfl rfl c64
      refine lv_aload_n hx hb dX1_findBest_166 rfl (lv_at hl 3 rfl) ?_
      refine lv_aload_n hx hb dX1_findBest_167 rfl (lv_at hl 3 rfl) ?_
      refine tpk_2 hT ht_h0 (fun o65_x5 o65_x6 o65_x7 o65_x8 o65_x9 hf_o65 ro65_0 => ?_)
      refine tpk_pos (tp_in hG ht_h0 (by decide)) hf_o65 (fun q66 eq66 => ?_)
      refine va_get (D := (dC, dI)) (ci := 1) (v := .ref (ρ h0 4)) (C := RX1) (T := TX1) (N := 15) hx hb hts hfX1 hown hK hP q66 eq66 rfl 4 (by decide) (hts (.fieldLink RX1 22 "ColdShips$Planner" "setShips" "[I") wa_137) (fun _ h9 => h9) rfl dX1_findBest_168 ?_
      refine lv_iload_n hx hb dX1_findBest_171 rfl (lv_at hl 1 rfl) ?_
      refine tpk_20 hT y5 y5n (fun g68 hf_o67 => ?_)
      refine tpk_pos (tp_in hG y5 (by decide)) hf_o67 (fun q69 eq69 => ?_)
      refine va_iald hx hb hK hP q69 0 eq69 rfl (vp_in_iff.mpr ⟨by omega, by omega⟩) dX1_findBest_172 ?_
      refine lv_topi (fun z70 ez70 => ?_)
      refine lv_iload_n hx hb dX1_findBest_173 rfl (lv_at hl 4 rfl) ?_
      have hFc := tp_fr hD hS hA
      refine va_callv (va_runV (As := [.int z70, .int v]) (rest := []) ⟨hx, hb, hml, hown, hts⟩ (t_X1_keepPlan l dC dI _ Ω κ τ ν ρ L f56 hG hT h0 z70 v ht_h0) (cwV 2 hts gX1_findBest_X1_keepPlan rfl rfl rfl ⟨rfl, pd_X1_keepPlan⟩ ⟨Nat.le_of_ble_eq_true rfl, Nat.le_of_ble_eq_true rfl⟩) ⟨pz_blind, va_recv hK hP (ci := 1) (q0 := q66) rfl eq66, pz_pre hP hK hD hN⟩ rfl rfl hl.1 rfl (lv_room (Nat.le_of_ble_eq_true rfl)) dX1_findBest_174 ⟨Nat.le_of_ble_eq_true rfl, Nat.le_of_ble_eq_true rfl⟩) hS (fun q _ h => hFc q h) hFc (fun f73 t H1 locs ht hvm hw72 hB hz1 hk1 hS => ?_)
      refine tn_3 hw72 (fun hT hF74 hw72p => ?_); clear hw72
      have hR := hR.then hF74 (by decide)
      have hP := hB.1; rw [ht] at hP; have hD := tp_ad f73 hD; clear hB hFc hz1 hk1; subst ht; generalize t.heap = H at hP hS ⊢
      refine lv_aload_n hx hb dX1_findBest_177 rfl (lv_at hl 3 rfl) ?_
      refine tpk_2 hT ht_h0 (fun o75_x5 o75_x6 o75_x7 o75_x8 o75_x9 hf_o75 ro75_0 => ?_)
      refine tpk_pos (tp_in hG ht_h0 (by decide)) hf_o75 (fun q76 eq76 => ?_)
      refine va_get (D := (dC, dI)) (ci := 1) (v := .ref (ρ h0 3)) (C := RX1) (T := TX1) (N := 15) hx hb hts hfX1 hown hK hP q76 eq76 rfl 3 (by decide) (hts (.fieldLink RX1 19 "ColdShips$Planner" "setWorths" "[J") wa_136) (fun _ h9 => h9) rfl dX1_findBest_178 ?_
      refine lv_iload_n hx hb dX1_findBest_181 rfl (lv_at hl 1 rfl) ?_
      refine tpk_21 hT y4 y4n (fun g78 hf_o77 => ?_)
      refine tpk_pos (tp_in hG y4 (by decide)) hf_o77 (fun q79 eq79 => ?_)
      refine va_lald hx hb hK hP q79 1 eq79 rfl (vp_in_iff.mpr ⟨by omega, by omega⟩) dX1_findBest_182 ?_
      refine lv_topl (fun z80 ez80 => ?_)
      exact W.lret (v := z80) hx hb hr (fun t ht hW => ⟨⟨z80, f73, rfl, ⟨hT, hR, trivial, trivial⟩, by rw [ht]; exact hP, va_K.moved hW.alike hK, hD⟩, hS.F ht⟩) hS.2.2 dX1_findBest_183
    · have ic64 : w60.toInt < z32.toInt := zi_gef rfl rfl c64
      refine lv_aload_n hx hb dX1_findBest_147 rfl (lv_at hl 3 rfl) ?_
      refine lv_iload hx hb dX1_findBest_148 (lv_at hl 0 rfl) ?_
      refine lv_iload_n hx hb dX1_findBest_150 rfl (lv_at hl 1 rfl) ?_
      refine tpk_2 hT ht_h0 (fun o81_x5 o81_x6 o81_x7 o81_x8 o81_x9 hf_o81 ro81_0 => ?_)
      refine tpk_pos (tp_in hG ht_h0 (by decide)) hf_o81 (fun q82 eq82 => ?_)
      refine pz_calli (va_runV (As := [.int w60, .int w61]) (rest := []) ⟨hx, hb, hml, hown, hts⟩ (t_X1_isBetter l dC dI _ Ω κ τ ν ρ L f56 hG hT h0 w60 w61 ht_h0 (by first | decide | omega) (by first | decide | omega)) (cwV 2 hts gX1_findBest_X1_isBetter rfl rfl rfl ⟨rfl, pd_X1_isBetter⟩ ⟨Nat.le_of_ble_eq_true rfl, Nat.le_of_ble_eq_true rfl⟩) ⟨pz_blind, va_recv hK hP (ci := 1) (q0 := q82) rfl eq82, pz_pre hP hK hD hN⟩ rfl rfl hl.1 rfl (lv_room (Nat.le_of_ble_eq_true rfl)) dX1_findBest_151 ⟨Nat.le_of_ble_eq_true rfl, Nat.le_of_ble_eq_true rfl⟩) (fun r83 hw84 => ?_)
      obtain ⟨hw84r, hw84p⟩ := hw84
      refine lv_if_eq (tgt := 160) hx hb dX1_findBest_154 (by decide) (fun c85 => ?_) (fun c85 => ?_)
      · have ic85 : r83.toInt = 0 := zi_eq rfl rfl c85
        obtain ⟨z86, ez86⟩ : ∃ y : Int32, y = w60 + 1 := ⟨_, rfl⟩
        refine lv_iinc (v := z86) (lv' := [(4, .int z86), (3, .int w61), (2, .int z32), (0, .ref h0), (1, .int v)]) hx hb dX1_findBest_160 hl (k := 0) rfl (by rw [ez86]; rfl) (by decide) rfl (fun ls hl => ?_)
        have iz86 : z86.toInt = w60.toInt + 1 := zi_add ez86 rfl rfl (by omega) (by omega)
        refine lv_goto (tgt := 141) hx hb dX1_findBest_163 (by decide) ?_
        exact ih62 _ _ _ _ (by rw [hn63]; omega) ⟨z86, w61, rfl, (by omega), (by omega), hP, hD, hS, lv_sub hl [0, 1, 2, 3, 4] rfl⟩
      · have ic85 : r83.toInt ≠ 0 := zi_eqf rfl rfl c85
        refine lv_iload hx hb dX1_findBest_157 (lv_at hl 0 rfl) ?_
        refine lv_istore_n (lv' := [(3, .int w60), (4, .int w60), (2, .int z32), (0, .ref h0), (1, .int v)]) hx hb dX1_findBest_159 rfl hl (by decide) rfl (fun ls hl => ?_)
        obtain ⟨z87, ez87⟩ : ∃ y : Int32, y = w60 + 1 := ⟨_, rfl⟩
        refine lv_iinc (v := z87) (lv' := [(4, .int z87), (3, .int w60), (2, .int z32), (0, .ref h0), (1, .int v)]) hx hb dX1_findBest_160 hl (k := 1) rfl (by rw [ez87]; rfl) (by decide) rfl (fun ls hl => ?_)
        have iz87 : z87.toInt = w60.toInt + 1 := zi_add ez87 rfl rfl (by omega) (by omega)
        refine lv_goto (tgt := 141) hx hb dX1_findBest_163 (by decide) ?_
        exact ih62 _ _ _ _ (by rw [hn63]; omega) ⟨z87, w60, rfl, (by omega), (by omega), hP, hD, hS, lv_sub hl [0, 1, 2, 3, 4] rfl⟩
  · refine lv_icmp_ge (tgt := 136) hx hb dX1_findBest_48 (by decide) (fun c88 => ?_) (fun c88 => ?_)
    · have ic88 : w55.toInt ≥ 3 := zi_ge rfl rfl c88
      exact hj59 _ _ _ _ ⟨rfl, hP, hD, hS, lv_sub hl [0, 1, 2, 3] rfl⟩
    · have ic88 : w55.toInt < 3 := zi_gef rfl rfl c88
      refine lv_iload_n hx hb dX1_findBest_51 rfl (lv_at hl 0 rfl) ?_
      refine lv_aload_n hx hb dX1_findBest_52 rfl (lv_at hl 2 rfl) ?_
      refine tpk_2 hT ht_h0 (fun o89_x5 o89_x6 o89_x7 o89_x8 o89_x9 hf_o89 ro89_0 => ?_)
      refine tpk_pos (tp_in hG ht_h0 (by decide)) hf_o89 (fun q90 eq90 => ?_)
      refine va_get (D := (dC, dI)) (ci := 1) (v := .ref (ρ h0 0)) (C := RX1) (T := TX1) (N := 15) hx hb hts hfX1 hown hK hP q90 eq90 rfl 0 (by decide) (hts (.fieldLink RX1 40 "ColdShips$Planner" "world" "LColdShips$World;") wa_143) (fun _ h9 => h9) rfl dX1_findBest_53 ?_
      refine tpk_11 hT y1 (fun o91_x0 o91_x1 o91_x2 o91_x3 o91_x4 o91_x5 o91_x6 hf_o91 ro91_0 ro91_1 ro91_2 ro91_3 => ?_)
      refine tpk_pos (tp_in hG y1 (by decide)) hf_o91 (fun q92 eq92 => ?_)
      have ro91_2 := tp_hu ro91_2
      refine va_getN (D := (dC, dI)) (ci := 10) (v := .int o91_x5) (C := RX10) (T := TX10) (N := 19) hx hb hts hfX10 hown hK hP q92 eq92 rfl 5 (by decide) (va_Nw.use rfl (hN.1 (.fieldLinkNest RX1 74 "ColdShips$World" "shipCount" "I" "ColdShips") nzw_59)) (fun _ h9 => h9) rfl dX1_findBest_56 ?_
      refine lv_icmp_ge (tgt := 136) hx hb dX1_findBest_59 (by decide) (fun c93 => ?_) (fun c93 => ?_)
      · have ic93 : w55.toInt ≥ o91_x5.toInt := zi_ge rfl rfl c93
        exact hj59 _ _ _ _ ⟨rfl, hP, hD, hS, lv_sub hl [0, 1, 2, 3] rfl⟩
      · have ic93 : w55.toInt < o91_x5.toInt := zi_gef rfl rfl c93
        refine lv_aload_n hx hb dX1_findBest_62 rfl (lv_at hl 2 rfl) ?_
        refine va_get (D := (dC, dI)) (ci := 1) (v := .ref (ρ h0 1)) (C := RX1) (T := TX1) (N := 15) hx hb hts hfX1 hown hK hP q90 eq90 rfl 1 (by decide) (hts (.fieldLink RX1 11 "ColdShips$Planner" "rowWorths" "[J") wa_134) (fun _ h9 => h9) rfl dX1_findBest_63 ?_
        refine lv_iload_n hx hb dX1_findBest_66 rfl (lv_at hl 0 rfl) ?_
        refine lv_bipush (v := 64) hx hb dX1_findBest_67 (by decide) ?_
        refine lv_imul hx hb dX1_findBest_69 ?_
        refine lv_topi (fun z94 ez94 => ?_)
        have iz94 : z94.toInt = w55.toInt * 64 := zi_mul ez94 rfl rfl (by omega) (by omega)
        refine lv_iload_n hx hb dX1_findBest_70 rfl (lv_at hl 0 rfl) ?_
        refine lv_iconst (v := 1) hx hb dX1_findBest_71 (by decide) ?_
        refine lv_iadd hx hb dX1_findBest_72 ?_
        refine lv_topi (fun z95 ez95 => ?_)
        have iz95 : z95.toInt = w55.toInt + 1 := zi_add ez95 rfl rfl (by omega) (by omega)
        refine lv_bipush (v := 64) hx hb dX1_findBest_73 (by decide) ?_
        refine lv_imul hx hb dX1_findBest_75 ?_
        refine lv_topi (fun z96 ez96 => ?_)
        have iz96 : z96.toInt = z95.toInt * 64 := zi_mul ez96 rfl rfl (by omega) (by omega)
        refine lv_ldc2 (own := RX1) (v := (-2000000000000000)) hx hb hown (hts (.constantLong RX1 66 (-2000000000000000)) wa_1349) dX1_findBest_76 ?_
        have hFc := tp_fr hD hS hA
        refine va_callv (va_runS (As := [.ref (ρ h0 1), .int z94, .int z96, .long (-2000000000000000)]) (rest := []) ⟨hx, hb, hml, hown, hts⟩ (t_J7_fill_bad5a l dC dI _ Ω κ τ ν ρ L f56 hG hT (ρ h0 1) z94 z96 ((-2000000000000000)) y2 (by omega)) (va_cwS 4 hts gX1_findBest_J7_fill_bad5a rfl rfl rfl pd_J7_fill_bad5a ⟨Nat.le_of_ble_eq_true rfl, Nat.le_of_ble_eq_true rfl⟩) ⟨pz_blind, pz_pre hP hK hD hN⟩ rfl rfl hl.1 rfl (lv_room (Nat.le_of_ble_eq_true rfl)) dX1_findBest_79 ⟨Nat.le_of_ble_eq_true rfl, Nat.le_of_ble_eq_true rfl⟩) hS (fun q _ h => hFc q h) hFc (fun f99 t H1 locs ht hvm hw98 hB hz1 hk1 hS => ?_)
        refine tn_3 hw98 (fun hT hF100 hw98p => ?_); clear hw98
        have hR := hR.then hF100 (by decide)
        have hP := hB.1; rw [ht] at hP; have hD := tp_ad f99 hD; clear hB hFc hz1 hk1; subst ht; generalize t.heap = H at hP hS ⊢
        refine lv_aload_n hx hb dX1_findBest_82 rfl (lv_at hl 2 rfl) ?_
        have hf_101 : f99 h0 = .inr (1, [.ref (ρ h0 0), .ref (ρ h0 1), .ref (ρ h0 2), .ref (ρ h0 3), .ref (ρ h0 4), .int o89_x5, .int o89_x6, .int o89_x7, .long o89_x8, .int o89_x9, .ref (ρ h0 10), .ref (ρ h0 11), .ref (ρ h0 12), .ref (ρ h0 13), .ref (ρ h0 14)]) := (hF100 _ (by rw [ht_h0]; decide)).trans hf_o89
        refine tpk_pos (tp_in hG ht_h0 (by decide)) hf_101 (fun q102 eq102 => ?_)
        refine va_get (D := (dC, dI)) (ci := 1) (v := .ref (ρ h0 1)) (C := RX1) (T := TX1) (N := 15) hx hb hts hfX1 hown hK hP q102 eq102 rfl 1 (by decide) (hts (.fieldLink RX1 11 "ColdShips$Planner" "rowWorths" "[J") wa_134) (fun _ h9 => h9) rfl dX1_findBest_83 ?_
        refine lv_iload_n hx hb dX1_findBest_86 rfl (lv_at hl 0 rfl) ?_
        refine lv_bipush (v := 64) hx hb dX1_findBest_87 (by decide) ?_
        refine lv_imul hx hb dX1_findBest_89 ?_
        refine lv_topi (fun z103 ez103 => ?_)
        have iz103 : z103.toInt = w55.toInt * 64 := zi_mul ez103 rfl rfl (by omega) (by omega)
        refine lv_lconst (v := 0) hx hb dX1_findBest_90 (by decide) ?_
        refine tpk_21 hT y2 y2n (fun g105 hf_o104 => ?_)
        refine tpk_pos (tp_in hG y2 (by decide)) hf_o104 (fun q106 eq106 => ?_)
        refine va_last hx hb hK hP hD hS q106 1 eq106 rfl (vp_in_iff.mpr ⟨by omega, by omega⟩) dX1_findBest_91 (tp_k (.inl (κ 1, 192, .inr (.inl (vp_updL g105 z103.toNatClampNeg (0 : Int64))))) hD (tp_in hG y2 (by decide)) eq106 (fun f107 H locs hP hD hS g109 k108 => ?_))
        have hT := hT.up y2 g109 k108 (tp_o21 y2n)
        have hR := hR.up y2 (by decide) k108
        generalize (vp_updL g105 z103.toNatClampNeg (0 : Int64)) = g110 at g109
        refine lv_aload_n hx hb dX1_findBest_92 rfl (lv_at hl 2 rfl) ?_
        have hf_111 : f107 h0 = .inr (1, [.ref (ρ h0 0), .ref (ρ h0 1), .ref (ρ h0 2), .ref (ρ h0 3), .ref (ρ h0 4), .int o89_x5, .int o89_x6, .int o89_x7, .long o89_x8, .int o89_x9, .ref (ρ h0 10), .ref (ρ h0 11), .ref (ρ h0 12), .ref (ρ h0 13), .ref (ρ h0 14)]) := (k108 _ (tp_ne ht_h0 y2 (by decide))).trans hf_101
        refine tpk_pos (tp_in hG ht_h0 (by decide)) hf_111 (fun q112 eq112 => ?_)
        refine va_get (D := (dC, dI)) (ci := 1) (v := .ref (ρ h0 2)) (C := RX1) (T := TX1) (N := 15) hx hb hts hfX1 hown hK hP q112 eq112 rfl 2 (by decide) (hts (.fieldLink RX1 15 "ColdShips$Planner" "rowPlaces" "[I") wa_135) (fun _ h9 => h9) rfl dX1_findBest_93 ?_
        refine lv_iload_n hx hb dX1_findBest_96 rfl (lv_at hl 0 rfl) ?_
        refine lv_bipush (v := 64) hx hb dX1_findBest_97 (by decide) ?_
        refine lv_imul hx hb dX1_findBest_99 ?_
        refine lv_topi (fun z113 ez113 => ?_)
        have iz113 : z113.toInt = w55.toInt * 64 := zi_mul ez113 rfl rfl (by omega) (by omega)
        refine lv_iconst (v := 0) hx hb dX1_findBest_100 (by decide) ?_
        refine tpk_20 hT y3 y3n (fun g115 hf_o114 => ?_)
        refine tpk_pos (tp_in hG y3 (by decide)) hf_o114 (fun q116 eq116 => ?_)
        refine va_iast hx hb hK hP hD hS q116 0 eq116 rfl (vp_in_iff.mpr ⟨by omega, by omega⟩) dX1_findBest_101 (tp_k (.inl (κ 0, 192, .inl (upd g115 z113.toNatClampNeg (0 : Int32)))) hD (tp_in hG y3 (by decide)) eq116 (fun f117 H locs hP hD hS g119 k118 => ?_))
        have hT := hT.up y3 g119 k118 (tp_o20 y3n)
        have hR := hR.up y3 (by decide) k118
        generalize (upd g115 z113.toNatClampNeg (0 : Int32)) = g120 at g119
        refine lv_aload_n hx hb dX1_findBest_102 rfl (lv_at hl 2 rfl) ?_
        refine lv_iload_n hx hb dX1_findBest_103 rfl (lv_at hl 0 rfl) ?_
        refine lv_iconst (v := 0) hx hb dX1_findBest_104 (by decide) ?_
        refine lv_iconst (v := 0) hx hb dX1_findBest_105 (by decide) ?_
        refine lv_aload_n hx hb dX1_findBest_106 rfl (lv_at hl 2 rfl) ?_
        have hf_121 : f117 h0 = .inr (1, [.ref (ρ h0 0), .ref (ρ h0 1), .ref (ρ h0 2), .ref (ρ h0 3), .ref (ρ h0 4), .int o89_x5, .int o89_x6, .int o89_x7, .long o89_x8, .int o89_x9, .ref (ρ h0 10), .ref (ρ h0 11), .ref (ρ h0 12), .ref (ρ h0 13), .ref (ρ h0 14)]) := (k118 _ (tp_ne ht_h0 y3 (by decide))).trans hf_111
        refine tpk_pos (tp_in hG ht_h0 (by decide)) hf_121 (fun q122 eq122 => ?_)
        refine va_get (D := (dC, dI)) (ci := 1) (v := .ref (ρ h0 0)) (C := RX1) (T := TX1) (N := 15) hx hb hts hfX1 hown hK hP q122 eq122 rfl 0 (by decide) (hts (.fieldLink RX1 40 "ColdShips$Planner" "world" "LColdShips$World;") wa_143) (fun _ h9 => h9) rfl dX1_findBest_107 ?_
        have hf_123 : f99 (ρ h0 0) = .inr (10, [.int o91_x0, .int o91_x1, .int o91_x2, .int o91_x3, .int o91_x4, .int o91_x5, .int o91_x6, .ref (ρ (ρ h0 0) 7), .ref (ρ (ρ h0 0) 8), .ref (ρ (ρ h0 0) 9), .ref (ρ (ρ h0 0) 10), .ref (ρ (ρ h0 0) 11), .ref (ρ (ρ h0 0) 12), .ref (ρ (ρ h0 0) 13), .ref (ρ (ρ h0 0) 14), .ref (ρ (ρ h0 0) 15), .ref (ρ (ρ h0 0) 16), .ref (ρ (ρ h0 0) 17), .ref (ρ (ρ h0 0) 18)]) := (hF100 _ (by rw [tp_iu y1]; decide)).trans hf_o91
        have hf_124 : f107 (ρ h0 0) = .inr (10, [.int o91_x0, .int o91_x1, .int o91_x2, .int o91_x3, .int o91_x4, .int o91_x5, .int o91_x6, .ref (ρ (ρ h0 0) 7), .ref (ρ (ρ h0 0) 8), .ref (ρ (ρ h0 0) 9), .ref (ρ (ρ h0 0) 10), .ref (ρ (ρ h0 0) 11), .ref (ρ (ρ h0 0) 12), .ref (ρ (ρ h0 0) 13), .ref (ρ (ρ h0 0) 14), .ref (ρ (ρ h0 0) 15), .ref (ρ (ρ h0 0) 16), .ref (ρ (ρ h0 0) 17), .ref (ρ (ρ h0 0) 18)]) := (k108 _ (tp_ne y1 y2 (by decide))).trans hf_123
        have hf_125 : f117 (ρ h0 0) = .inr (10, [.int o91_x0, .int o91_x1, .int o91_x2, .int o91_x3, .int o91_x4, .int o91_x5, .int o91_x6, .ref (ρ (ρ h0 0) 7), .ref (ρ (ρ h0 0) 8), .ref (ρ (ρ h0 0) 9), .ref (ρ (ρ h0 0) 10), .ref (ρ (ρ h0 0) 11), .ref (ρ (ρ h0 0) 12), .ref (ρ (ρ h0 0) 13), .ref (ρ (ρ h0 0) 14), .ref (ρ (ρ h0 0) 15), .ref (ρ (ρ h0 0) 16), .ref (ρ (ρ h0 0) 17), .ref (ρ (ρ h0 0) 18)]) := (k118 _ (tp_ne y1 y3 (by decide))).trans hf_124
        refine tpk_pos (tp_in hG y1 (by decide)) hf_125 (fun q126 eq126 => ?_)
        refine va_getN (D := (dC, dI)) (ci := 10) (v := .ref (ρ (ρ h0 0) 10)) (C := RX10) (T := TX10) (N := 19) hx hb hts hfX10 hown hK hP q126 eq126 rfl 10 (by decide) (va_Nw.use rfl (hN.1 (.fieldLinkNest RX1 80 "ColdShips$World" "ships" "[LColdShips$Ship;" "ColdShips") nzw_70)) (fun _ h9 => h9) rfl dX1_findBest_110 ?_
        refine lv_iload_n hx hb dX1_findBest_113 rfl (lv_at hl 0 rfl) ?_
        refine tpk_25 hT y16 (fun g128 hf_o127 hf_o127e => ?_)
        refine tpk_pos (tp_in hG y16 (by decide)) hf_o127 (fun q129 eq129 => ?_)
        refine va_aldq hx hb hK hP q129 5 eq129 rfl (vp_in_iff.mpr ⟨by omega, by omega⟩) dX1_findBest_114 ?_
        obtain ⟨b130, hb131⟩ : ∃ b : Nat, b = ρ (ρ (ρ h0 0) 10) w55.toNatClampNeg := ⟨_, rfl⟩
        have hb131t : τ b130 = 6 := by rw [hb131]; exact tpg_25 hG y16 _ (zi_cl (vp_in_iff.mpr ⟨by omega, by omega⟩))
        have hb131g : g128 w55.toNatClampNeg = some b130 := by rw [hb131]; exact hf_o127e _ (zi_cl (vp_in_iff.mpr ⟨by omega, by omega⟩))
        refine W.eq (g2 := F0 m 115 ls (.ref b130 :: [.int 0, .int 0, .int w55, .ref h0])) (congrArg (fun o => F0 m 115 ls (va_rf o :: [.int 0, .int 0, .int w55, .ref h0])) hb131g) ?_
        refine tgk_6 hG hb131t (fun y132 y133 y133n y134 y134n y135 y135n y136 y136n y137 y137n y138 y138n => ?_)
        refine tpk_6 hT hb131t (fun o139_x1 o139_x2 o139_x3 o139_x4 o139_x5 o139_x6 o139_x10 o139_x11 o139_x12 o139_x14 hf_o139 ro139_0 ro139_1 ro139_2 => ?_)
        refine tpk_pos (tp_in hG hb131t (by decide)) hf_o139 (fun q140 eq140 => ?_)
        have ro139_0 := tp_hu ro139_0
        refine va_getN (D := (dC, dI)) (ci := 5) (v := .int o139_x2) (C := RX5) (T := TX5) (N := 17) hx hb hts hfX5 hown hK hP q140 eq140 rfl 2 (by decide) (va_Nw.use rfl (hN.1 (.fieldLinkNest RX1 84 "ColdShips$Ship" "where" "I" "ColdShips") nzw_26)) (fun _ h9 => h9) rfl dX1_findBest_115 ?_
        refine lv_iload_n hx hb dX1_findBest_118 rfl (lv_at hl 3 rfl) ?_
        refine lv_lconst (v := 0) hx hb dX1_findBest_119 (by decide) ?_
        refine lv_iconst (v := 0) hx hb dX1_findBest_120 (by decide) ?_
        have hFc := tp_fr hD hS hA
        refine va_callv (va_runV (As := [.int w55, .int 0, .int 0, .int o139_x2, .int v, .long 0, .int 0]) (rest := []) ⟨hx, hb, hml, hown, hts⟩ (t_X1_extend0 l dC dI _ Ω κ τ ν ρ L f117 hG hT h0 w55 (0) (0) o139_x2 v (0) (0) ht_h0 (by first | decide | omega) (by first | decide | omega)) (cwV 7 hts gX1_findBest_X1_extend rfl rfl rfl ⟨rfl, pd_X1_extend⟩ ⟨Nat.le_of_ble_eq_true rfl, Nat.le_of_ble_eq_true rfl⟩) ⟨pz_blind, va_recv hK hP (ci := 1) (q0 := q122) rfl eq122, pz_pre hP hK hD hN⟩ rfl rfl hl.1 rfl (lv_room (Nat.le_of_ble_eq_true rfl)) dX1_findBest_121 ⟨Nat.le_of_ble_eq_true rfl, Nat.le_of_ble_eq_true rfl⟩) hS (fun q _ h => hFc q h) hFc (fun f143 t H1 locs ht hvm hw142 hB hz1 hk1 hS => ?_)
        refine tn_3 hw142 (fun hT hF144 hw142p => ?_); clear hw142
        have hR := hR.then hF144 (by decide)
        have hP := hB.1; rw [ht] at hP; have hD := tp_ad f143 hD; clear hB hFc hz1 hk1; subst ht; generalize t.heap = H at hP hS ⊢
        refine lv_aload_n hx hb dX1_findBest_124 rfl (lv_at hl 2 rfl) ?_
        refine lv_iload_n hx hb dX1_findBest_125 rfl (lv_at hl 0 rfl) ?_
        refine lv_iload_n hx hb dX1_findBest_126 rfl (lv_at hl 1 rfl) ?_
        refine tpk_2 hT ht_h0 (fun o145_x5 o145_x6 o145_x7 o145_x8 o145_x9 hf_o145 ro145_0 => ?_)
        refine tpk_pos (tp_in hG ht_h0 (by decide)) hf_o145 (fun q146 eq146 => ?_)
        have hFc := tp_fr hD hS hA
        refine va_callv (va_runV (As := [.int w55, .int z32]) (rest := []) ⟨hx, hb, hml, hown, hts⟩ (t_X1_addShip l dC dI _ Ω κ τ ν ρ L f143 hG hT h0 w55 z32 ht_h0 (by first | decide | omega) (by first | decide | omega)) (cwV 2 hts gX1_findBest_X1_addShip rfl rfl rfl ⟨rfl, pd_X1_addShip⟩ ⟨Nat.le_of_ble_eq_true rfl, Nat.le_of_ble_eq_true rfl⟩) ⟨pz_blind, va_recv hK hP (ci := 1) (q0 := q146) rfl eq146, pz_pre hP hK hD hN⟩ rfl rfl hl.1 rfl (lv_room (Nat.le_of_ble_eq_true rfl)) dX1_findBest_127 ⟨Nat.le_of_ble_eq_true rfl, Nat.le_of_ble_eq_true rfl⟩) hS (fun q _ h => hFc q h) hFc (fun f149 t H1 locs ht hvm hw148 hB hz1 hk1 hS => ?_)
        refine tn_3 hw148 (fun hT hF150 hw148p => ?_); clear hw148
        have hR := hR.then hF150 (by decide)
        have hP := hB.1; rw [ht] at hP; have hD := tp_ad f149 hD; clear hB hFc hz1 hk1; subst ht; generalize t.heap = H at hP hS ⊢
        obtain ⟨z151, ez151⟩ : ∃ y : Int32, y = w55 + 1 := ⟨_, rfl⟩
        refine lv_iinc (v := z151) (lv' := [(3, .int z151), (2, .int z32), (0, .ref h0), (1, .int v)]) hx hb dX1_findBest_130 hl (k := 0) rfl (by rw [ez151]; rfl) (by decide) rfl (fun ls hl => ?_)
        have iz151 : z151.toInt = w55.toInt + 1 := zi_add ez151 rfl rfl (by omega) (by omega)
        refine lv_goto (tgt := 46) hx hb dX1_findBest_133 (by decide) ?_
        exact ih57 _ _ _ _ (by rw [hn58]; omega) ⟨f149, z151, rfl, hT, hR, (by omega), hP, hD, hS, lv_sub hl [0, 1, 2, 3] rfl⟩
set_option maxHeartbeats 4000000 in
set_option maxRecDepth 100000 in
theorem t_X1_worthOfRow (l : Launch) (dC : Nat → ClassId) (dI : Nat → Nat → Nat) (sz : Nat) (Ω : Nat → Nat → (Nat → Nat) → va_E → Prop) (κ : Nat → ClassId) (τ ν : Nat → Nat) (ρ : Nat → Nat → Nat) (L : List Nat) (f : Nat → va_E) (hG : tp_G τ ν ρ L) (hT : tp_T Ω κ τ ν ρ f) (h0 : Nat) (v : Int32) (u : Int32) (a : Int32) (b : Int32) (a5 : Int32) (ht_h0 : τ h0 = 2) (hr_v : 0 ≤ v.toInt ∧ v.toInt ≤ 2) : Met l yX1_worthOfRow wqX1_worthOfRow ({ frames := 5, cells := 0, slots := 0, locals := 1600 }) (va_Pc [.ref h0, .int v, .int u, .int a, .int b, .int a5] (pz_B dC dI (tp_K κ) (va_pl L f) sz)) (va_Ql (fun (r : Int64) (f1 : Nat → va_E) => tp_T Ω κ τ ν ρ f1 ∧ tp_F τ [2] f f1 ∧ True ∧ True) (fun (f1 : Nat → va_E) (t : State) => pz_E dC dI (tp_K κ) (va_A (va_pl L f) sz) (va_pl L f1) t) (va_A (va_pl L f) sz)) 0 0 (va_A (va_pl L f) sz) := by
  refine Met.ofW (cc := cX1_worthOfRow) (maxL := 13) (ret := some .long) (by decide) rfl ?_
  intro p e s m args below meth c s₁ B hml hv
  obtain ⟨rfl, hsz, hP, hK, hD0, hN⟩ := hv
  have hx := B.exec
  have hb := B.bytes
  have hr := B.returns
  have hts := fun (w : Cond) (h : w ∈ WALL) => atoms_spec (ws := wqX1_worthOfRow) B.pre w (List.mem_cons_of_mem _ h)
  have hown : s.vm.findClass RX1 = some m.cls := findClass_of_methodNamed B.named
  have hlocks := B.notSynchronized
  subst hsz
  have hD := hD0.self (sz := s.heap.size)
  generalize hAe : va_A (va_pl L f) s.heap.size = A at hD ⊢
  have hA : ∀ q : Nat, s.heap.size ≤ q → A q := fun q h => by rw [← hAe]; exact Or.inr h
  have hS : va_S A s.heap s.heap [] := va_S.rf
  have hR : tp_F τ [2] f f := tp_F.rf
  have hl := lv_entry ([.ref h0, .int v, .int u, .int a, .int b, .int a5]) (n := 13) (Nat.le_of_ble_eq_true rfl)
  rw [lg_entry_eq]
  generalize (lg_sl ([.ref h0, .int v, .int u, .int a, .int b, .int a5]) ++ List.replicate (13 - (lg_sl ([.ref h0, .int v, .int u, .int a, .int b, .int a5])).length) Slot.unset).toArray = ls at hl ⊢
  have hl : lv_has ls 13 [(0, .ref h0), (1, .int v), (2, .int u), (3, .int a), (4, .int b), (5, .int a5)] := hl
  refine lv_lconst (v := 0) hx hb dX1_worthOfRow_0 (by decide) ?_
  refine lv_lstore (lv' := [(6, .long 0), (0, .ref h0), (1, .int v), (2, .int u), (3, .int a), (4, .int b), (5, .int a5)]) hx hb dX1_worthOfRow_1 hl (by decide) rfl (fun ls hl => ?_)
  refine lv_iconst (v := 0) hx hb dX1_worthOfRow_3 (by decide) ?_
  refine lv_istore (lv' := [(8, .int 0), (6, .long 0), (0, .ref h0), (1, .int v), (2, .int u), (3, .int a), (4, .int b), (5, .int a5)]) hx hb dX1_worthOfRow_4 hl (by decide) rfl (fun ls hl => ?_)
  refine lv_aload_n hx hb dX1_worthOfRow_6 rfl (lv_at hl 2 rfl) ?_
  refine tgk_2 hG ht_h0 (fun y1 y1l y2 y2n y3 y3n y4 y4n y5 y5n y6 y6n y7 y7n y8 y8n y9 y9n y10 y10n => ?_)
  refine tpk_2 hT ht_h0 (fun o11_x5 o11_x6 o11_x7 o11_x8 o11_x9 hf_o11 ro11_0 => ?_)
  refine tpk_pos (tp_in hG ht_h0 (by decide)) hf_o11 (fun q12 eq12 => ?_)
  refine va_get (D := (dC, dI)) (ci := 1) (v := .ref (ρ h0 0)) (C := RX1) (T := TX1) (N := 15) hx hb hts hfX1 hown hK hP q12 eq12 rfl 0 (by decide) (hts (.fieldLink RX1 40 "ColdShips$Planner" "world" "LColdShips$World;") wa_143) (fun _ h9 => h9) rfl dX1_worthOfRow_7 ?_
  refine tgk_11 hG y1 (fun y13 y13n y14 y14n y15 y16 y17 y18 y18m y18l y19 y19m y19l y20 y20m y20l y21 y21w y21m y21l y22 y22w y22m y22l y23 y23w y23m y23l y24 y24w y24m y24l => ?_)
  refine tpk_11 hT y1 (fun o25_x0 o25_x1 o25_x2 o25_x3 o25_x4 o25_x5 o25_x6 hf_o25 ro25_0 ro25_1 ro25_2 ro25_3 => ?_)
  refine tpk_pos (tp_in hG y1 (by decide)) hf_o25 (fun q26 eq26 => ?_)
  refine va_getN (D := (dC, dI)) (ci := 10) (v := .ref (ρ (ρ h0 0) 10)) (C := RX10) (T := TX10) (N := 19) hx hb hts hfX10 hown hK hP q26 eq26 rfl 10 (by decide) (va_Nw.use rfl (hN.1 (.fieldLinkNest RX1 80 "ColdShips$World" "ships" "[LColdShips$Ship;" "ColdShips") nzw_70)) (fun _ h9 => h9) rfl dX1_worthOfRow_10 ?_
  refine lv_iload_n hx hb dX1_worthOfRow_13 rfl (lv_at hl 3 rfl) ?_
  refine tpk_25 hT y16 (fun g28 hf_o27 hf_o27e => ?_)
  refine tpk_pos (tp_in hG y16 (by decide)) hf_o27 (fun q29 eq29 => ?_)
  refine va_aldq hx hb hK hP q29 5 eq29 rfl (vp_in_iff.mpr ⟨by omega, by omega⟩) dX1_worthOfRow_14 ?_
  obtain ⟨b30, hb31⟩ : ∃ b : Nat, b = ρ (ρ (ρ h0 0) 10) v.toNatClampNeg := ⟨_, rfl⟩
  have hb31t : τ b30 = 6 := by rw [hb31]; exact tpg_25 hG y16 _ (zi_cl (vp_in_iff.mpr ⟨by omega, by omega⟩))
  have hb31g : g28 v.toNatClampNeg = some b30 := by rw [hb31]; exact hf_o27e _ (zi_cl (vp_in_iff.mpr ⟨by omega, by omega⟩))
  refine W.eq (g2 := F0 m 15 ls (.ref b30 :: [])) (congrArg (fun o => F0 m 15 ls (va_rf o :: [])) hb31g) ?_
  refine tgk_6 hG hb31t (fun y32 y33 y33n y34 y34n y35 y35n y36 y36n y37 y37n y38 y38n => ?_)
  refine tpk_6 hT hb31t (fun o39_x1 o39_x2 o39_x3 o39_x4 o39_x5 o39_x6 o39_x10 o39_x11 o39_x12 o39_x14 hf_o39 ro39_0 ro39_1 ro39_2 => ?_)
  refine tpk_pos (tp_in hG hb31t (by decide)) hf_o39 (fun q40 eq40 => ?_)
  have ro39_0 := tp_hu ro39_0
  refine va_getN (D := (dC, dI)) (ci := 5) (v := .int o39_x2) (C := RX5) (T := TX5) (N := 17) hx hb hts hfX5 hown hK hP q40 eq40 rfl 2 (by decide) (va_Nw.use rfl (hN.1 (.fieldLinkNest RX1 84 "ColdShips$Ship" "where" "I" "ColdShips") nzw_26)) (fun _ h9 => h9) rfl dX1_worthOfRow_15 ?_
  refine lv_istore (lv' := [(9, .int o39_x2), (8, .int 0), (6, .long 0), (0, .ref h0), (1, .int v), (2, .int u), (3, .int a), (4, .int b), (5, .int a5)]) hx hb dX1_worthOfRow_18 hl (by decide) rfl (fun ls hl => ?_)
  refine lv_iload hx hb dX1_worthOfRow_20 (lv_at hl 8 rfl) ?_
  refine lv_istore (lv' := [(10, .int a5), (9, .int o39_x2), (8, .int 0), (6, .long 0), (0, .ref h0), (1, .int v), (2, .int u), (3, .int a), (4, .int b), (5, .int a5)]) hx hb dX1_worthOfRow_22 hl (by decide) rfl (fun ls hl => ?_)
  refine lv_iconst (v := 0) hx hb dX1_worthOfRow_24 (by decide) ?_
  refine lv_istore (lv' := [(11, .int 0), (10, .int a5), (9, .int o39_x2), (8, .int 0), (6, .long 0), (0, .ref h0), (1, .int v), (2, .int u), (3, .int a), (4, .int b), (5, .int a5)]) hx hb dX1_worthOfRow_25 hl (by decide) rfl (fun ls hl => ?_)
  refine pz_loop (fun n0 H locs ls => ∃ f46 : Nat → va_E, ∃ w41 : Int32, ∃ w42 : Int32, ∃ w43 : Int32, ∃ w44 : Int32, ∃ w45 : Int64, n0 = (3 - (w41.toInt)).toNat ∧ tp_T Ω κ τ ν ρ f46 ∧ tp_F τ [2] f f46 ∧ (0 ≤ w41.toInt ∧ w41.toInt ≤ 3) ∧ va_P (dC, dI) vwCl (va_pl L f46) H ∧ va_D A (va_pl L f46) ∧ va_S A s.heap H locs ∧ lv_has ls 13 [(11, .int w41), (10, .int w42), (9, .int w43), (8, .int w44), (6, .long w45), (0, .ref h0), (1, .int v), (2, .int u), (3, .int a), (4, .int b), (5, .int a5)]) ?_ _ _ _ _ ⟨f, 0, a5, o39_x2, 0, 0, rfl, hT, hR, (by have : (0 : Int32).toInt = 0 := rfl; have : (0 : Int32).toInt = 0 := rfl; have : (0 : Int64).toInt = 0 := rfl; omega), hP, hD, hS, lv_sub hl [0, 1, 2, 3, 4, 5, 6, 7, 8, 9, 10] rfl⟩
  intro n0 H locs ls hI ih47
  refine Exists.elim hI (fun f46 hE90 => Exists.elim hE90 (fun w41 hE91 => Exists.elim hE91 (fun w42 hE92 => Exists.elim hE92 (fun w43 hE93 => Exists.elim hE93 (fun w44 hE94 => Exists.elim hE94 (fun w45 hE95 => tn_8 hE95 (fun hn48 hT hR rw41 hP hD hS hl => ?_)))))))
  clear hE95 hE94 hE93 hE92 hE91 hE90 hI
  refine lv_iload hx hb dX1_worthOfRow_27 (lv_at hl 0 rfl) ?_
  refine lv_iconst (v := 3) hx hb dX1_worthOfRow_29 (by decide) ?_
  refine lv_icmp_ge (tgt := 154) hx hb dX1_worthOfRow_30 (by decide) (fun c49 => ?_) (fun c49 => ?_)
  · have ic49 : w41.toInt ≥ 3 := zi_ge rfl rfl c49
    refine lv_lload hx hb dX1_worthOfRow_154 (lv_at hl 4 rfl) ?_
    exact W.lret (v := w45) hx hb hr (fun t ht hW => ⟨⟨w45, f46, rfl, ⟨hT, hR, trivial, trivial⟩, by rw [ht]; exact hP, va_K.moved hW.alike hK, hD⟩, hS.F ht⟩) hS.2.2 dX1_worthOfRow_156
  · have ic49 : w41.toInt < 3 := zi_gef rfl rfl c49
    refine lv_iload hx hb dX1_worthOfRow_33 (lv_at hl 0 rfl) ?_
    refine tp_join 54 (fun H locs ls stk => ∃ w50 : Int32, stk = [.int w50] ∧ va_P (dC, dI) vwCl (va_pl L f46) H ∧ va_D A (va_pl L f46) ∧ va_S A s.heap H locs ∧ lv_has ls 13 [(11, .int w41), (10, .int w42), (9, .int w43), (8, .int w44), (6, .long w45), (0, .ref h0), (1, .int v), (2, .int u), (3, .int a), (4, .int b), (5, .int a5)]) ?_ (fun hj51 => ?_)
    · intro H locs ls stk hI
      refine Exists.elim hI (fun w50 hE90 => tn_5 hE90 (fun e90 hP hD hS hl => ?_))
      clear hE90 hI; subst e90
      refine lv_istore (lv' := [(12, .int w50), (11, .int w41), (10, .int w42), (9, .int w43), (8, .int w44), (6, .long w45), (0, .ref h0), (1, .int v), (2, .int u), (3, .int a), (4, .int b), (5, .int a5)]) hx hb dX1_worthOfRow_54 hl (by decide) rfl (fun ls hl => ?_)
      refine lv_iload hx hb dX1_worthOfRow_56 (lv_at hl 0 rfl) ?_
      refine lv_iconst (v := (-1)) hx hb dX1_worthOfRow_58 (by decide) ?_
      refine lv_icmp_ne (tgt := 65) hx hb dX1_worthOfRow_59 (by decide) (fun c52 => ?_) (fun c52 => ?_)
      · have ic52 : w50.toInt ≠ (-1) := zi_ne rfl rfl c52
        refine lv_aload_n hx hb dX1_worthOfRow_65 rfl (lv_at hl 6 rfl) ?_
        refine tpk_2 hT ht_h0 (fun o53_x5 o53_x6 o53_x7 o53_x8 o53_x9 hf_o53 ro53_0 => ?_)
        refine tpk_pos (tp_in hG ht_h0 (by decide)) hf_o53 (fun q54 eq54 => ?_)
        refine va_get (D := (dC, dI)) (ci := 1) (v := .ref (ρ h0 0)) (C := RX1) (T := TX1) (N := 15) hx hb hts hfX1 hown hK hP q54 eq54 rfl 0 (by decide) (hts (.fieldLink RX1 40 "ColdShips$Planner" "world" "LColdShips$World;") wa_143) (fun _ h9 => h9) rfl dX1_worthOfRow_66 ?_
        refine tpk_11 hT y1 (fun o55_x0 o55_x1 o55_x2 o55_x3 o55_x4 o55_x5 o55_x6 hf_o55 ro55_0 ro55_1 ro55_2 ro55_3 => ?_)
        refine tpk_pos (tp_in hG y1 (by decide)) hf_o55 (fun q56 eq56 => ?_)
        refine va_getN (D := (dC, dI)) (ci := 10) (v := .ref (ρ (ρ h0 0) 18)) (C := RX10) (T := TX10) (N := 19) hx hb hts hfX10 hown hK hP q56 eq56 rfl 18 (by decide) (va_Nw.use rfl (hN.1 (.fieldLinkNest RX1 50 "ColdShips$World" "cargoes" "LColdShips$Rows;" "ColdShips") nzw_86)) (fun _ h9 => h9) rfl dX1_worthOfRow_69 ?_
        refine lv_iload hx hb dX1_worthOfRow_72 (lv_at hl 0 rfl) ?_
        refine tgk_5 hG y24 (fun y57 y57n y58a y58b y58c => ?_)
        refine tpk_5 hT y24 (fun o59_x0 o59_x2 hf_o59 ro59_0 ro59_1 => ?_)
        refine tpk_pos (tp_in hG y24 (by decide)) hf_o59 (fun q60 eq60 => ?_)
        have ro59_0 := tp_hu ro59_0; have ro59_1 := tp_hu ro59_1
        refine pz_calli (va_runV (As := [.int w50]) (rest := []) ⟨hx, hb, hml, hown, hts⟩ (t_X4_has l dC dI _ Ω κ τ ν ρ L f46 hG hT (ρ (ρ h0 0) 18) w50 y24 o59_x0 o59_x2 hf_o59) (cwV 1 hts gX1_worthOfRow_X4_has rfl rfl rfl ⟨rfl, pd_X4_has⟩ ⟨Nat.le_of_ble_eq_true rfl, Nat.le_of_ble_eq_true rfl⟩) ⟨pz_blind, va_recv hK hP (ci := 4) (q0 := q60) rfl eq60, pz_pre hP hK hD hN⟩ rfl rfl hl.1 rfl (lv_room (Nat.le_of_ble_eq_true rfl)) dX1_worthOfRow_74 ⟨Nat.le_of_ble_eq_true rfl, Nat.le_of_ble_eq_true rfl⟩) (fun r61 hw62 => ?_)
        obtain ⟨hw62r, hw62p⟩ := hw62
        refine lv_if_eq (tgt := 105) hx hb dX1_worthOfRow_77 (by decide) (fun c63 => ?_) (fun c63 => ?_)
        · have ic63 : r61.toInt = 0 := zi_eq rfl rfl c63
          clear hw62r ic63
          refine lv_ldc2 (own := RX1) (v := (-2000000000000000)) hx hb hown (hts (.constantLong RX1 66 (-2000000000000000)) wa_1349) dX1_worthOfRow_105 ?_
          exact W.lret (v := (-2000000000000000)) hx hb hr (fun t ht hW => ⟨⟨(-2000000000000000), f46, rfl, ⟨hT, hR, trivial, trivial⟩, by rw [ht]; exact hP, va_K.moved hW.alike hK, hD⟩, hS.F ht⟩) hS.2.2 dX1_worthOfRow_108
        · have ic63 : r61.toInt ≠ 0 := zi_eqf rfl rfl c63
          have p64 : 0 ≤ w50.toInt ∧ w50.toInt < o59_x2.toInt := (tp_cond.yes hw62p) (by omega)
          clear hw62r ic63
          refine lv_iload hx hb dX1_worthOfRow_80 (lv_at hl 4 rfl) ?_
          refine lv_iload hx hb dX1_worthOfRow_82 (lv_at hl 0 rfl) ?_
          refine lv_ishr hx hb dX1_worthOfRow_84 ?_
          refine lv_topi (fun z65 ez65 => ?_)
          refine lv_iconst (v := 1) hx hb dX1_worthOfRow_85 (by decide) ?_
          refine lv_iand hx hb dX1_worthOfRow_86 ?_
          refine lv_topi (fun z66 ez66 => ?_)
          have iz66 : 0 ≤ z66.toInt ∧ z66.toInt ≤ 1 := zb_mask ez66 (by decide)
          refine lv_iconst (v := 1) hx hb dX1_worthOfRow_87 (by decide) ?_
          refine lv_icmp_eq (tgt := 105) hx hb dX1_worthOfRow_88 (by decide) (fun c67 => ?_) (fun c67 => ?_)
          · have ic67 : z66.toInt = 1 := zi_eq rfl rfl c67
            refine lv_ldc2 (own := RX1) (v := (-2000000000000000)) hx hb hown (hts (.constantLong RX1 66 (-2000000000000000)) wa_1349) dX1_worthOfRow_105 ?_
            exact W.lret (v := (-2000000000000000)) hx hb hr (fun t ht hW => ⟨⟨(-2000000000000000), f46, rfl, ⟨hT, hR, trivial, trivial⟩, by rw [ht]; exact hP, va_K.moved hW.alike hK, hD⟩, hS.F ht⟩) hS.2.2 dX1_worthOfRow_108
          · have ic67 : z66.toInt ≠ 1 := zi_eqf rfl rfl c67
            refine lv_aload_n hx hb dX1_worthOfRow_91 rfl (lv_at hl 6 rfl) ?_
            refine lv_iload_n hx hb dX1_worthOfRow_92 rfl (lv_at hl 7 rfl) ?_
            refine lv_iload hx hb dX1_worthOfRow_93 (lv_at hl 0 rfl) ?_
            refine lv_iload hx hb dX1_worthOfRow_95 (lv_at hl 3 rfl) ?_
            refine lv_iload hx hb dX1_worthOfRow_97 (lv_at hl 2 rfl) ?_
            have hFc := tp_fr hD hS hA
            refine va_calli (va_runV (As := [.int v, .int w50, .int w43, .int w42]) (rest := []) ⟨hx, hb, hml, hown, hts⟩ (t_X1_reckon l dC dI _ Ω κ τ ν ρ L f46 hG hT h0 v w50 w43 w42 ht_h0 (by first | decide | omega)) (cwV 4 hts gX1_worthOfRow_X1_reckon rfl rfl rfl ⟨rfl, pd_X1_reckon⟩ ⟨Nat.le_of_ble_eq_true rfl, Nat.le_of_ble_eq_true rfl⟩) ⟨pz_blind, va_recv hK hP (ci := 1) (q0 := q54) rfl eq54, pz_pre hP hK hD hN⟩ rfl rfl hl.1 rfl (lv_room (Nat.le_of_ble_eq_true rfl)) dX1_worthOfRow_99 ⟨Nat.le_of_ble_eq_true rfl, Nat.le_of_ble_eq_true rfl⟩) hS (fun q _ h => hFc q h) hFc (fun r68 f70 t H1 locs ht hvm hw69 hB hz1 hk1 hS => ?_)
            refine tn_4 hw69 (fun hT hF71 hw69r hw69p => ?_); clear hw69
            have hR := hR.then hF71 (by decide)
            have hP := hB.1; rw [ht] at hP; have hD := tp_ad f70 hD; clear hB hFc hz1 hk1; subst ht; generalize t.heap = H at hP hS ⊢
            refine lv_if_ne (tgt := 109) hx hb dX1_worthOfRow_102 (by decide) (fun c72 => ?_) (fun c72 => ?_)
            · have ic72 : r68.toInt ≠ 0 := zi_ne rfl rfl c72
              refine lv_iload hx hb dX1_worthOfRow_109 (lv_at hl 4 rfl) ?_
              refine lv_iconst (v := 1) hx hb dX1_worthOfRow_111 (by decide) ?_
              refine lv_iload hx hb dX1_worthOfRow_112 (lv_at hl 0 rfl) ?_
              refine lv_ishl hx hb dX1_worthOfRow_114 ?_
              refine lv_topi (fun z73 ez73 => ?_)
              refine lv_ior hx hb dX1_worthOfRow_115 ?_
              refine lv_topi (fun z74 ez74 => ?_)
              refine lv_istore (lv' := [(8, .int z74), (12, .int w50), (11, .int w41), (10, .int w42), (9, .int w43), (6, .long w45), (0, .ref h0), (1, .int v), (2, .int u), (3, .int a), (4, .int b), (5, .int a5)]) hx hb dX1_worthOfRow_116 hl (by decide) rfl (fun ls hl => ?_)
              refine lv_lload hx hb dX1_worthOfRow_118 (lv_at hl 5 rfl) ?_
              refine lv_aload_n hx hb dX1_worthOfRow_120 rfl (lv_at hl 6 rfl) ?_
              refine tpk_2 hT ht_h0 (fun o75_x5 o75_x6 o75_x7 o75_x8 o75_x9 hf_o75 ro75_0 => ?_)
              refine tpk_pos (tp_in hG ht_h0 (by decide)) hf_o75 (fun q76 eq76 => ?_)
              refine va_get (D := (dC, dI)) (ci := 1) (v := .long o75_x8) (C := RX1) (T := TX1) (N := 15) hx hb hts hfX1 hown hK hP q76 eq76 rfl 8 (by decide) (hts (.fieldLink RX1 108 "ColdShips$Planner" "worth" "J") wa_1356) (fun _ h9 => h9) rfl dX1_worthOfRow_121 ?_
              refine lv_ladd hx hb dX1_worthOfRow_124 ?_
              refine lv_topl (fun z77 ez77 => ?_)
              refine lv_lstore (lv' := [(6, .long z77), (8, .int z74), (12, .int w50), (11, .int w41), (10, .int w42), (9, .int w43), (0, .ref h0), (1, .int v), (2, .int u), (3, .int a), (4, .int b), (5, .int a5)]) hx hb dX1_worthOfRow_125 hl (by decide) rfl (fun ls hl => ?_)
              refine lv_aload_n hx hb dX1_worthOfRow_127 rfl (lv_at hl 6 rfl) ?_
              refine va_get (D := (dC, dI)) (ci := 1) (v := .ref (ρ h0 0)) (C := RX1) (T := TX1) (N := 15) hx hb hts hfX1 hown hK hP q76 eq76 rfl 0 (by decide) (hts (.fieldLink RX1 40 "ColdShips$Planner" "world" "LColdShips$World;") wa_143) (fun _ h9 => h9) rfl dX1_worthOfRow_128 ?_
              have hf_78 : f70 (ρ h0 0) = .inr (10, [.int o55_x0, .int o55_x1, .int o55_x2, .int o55_x3, .int o55_x4, .int o55_x5, .int o55_x6, .ref (ρ (ρ h0 0) 7), .ref (ρ (ρ h0 0) 8), .ref (ρ (ρ h0 0) 9), .ref (ρ (ρ h0 0) 10), .ref (ρ (ρ h0 0) 11), .ref (ρ (ρ h0 0) 12), .ref (ρ (ρ h0 0) 13), .ref (ρ (ρ h0 0) 14), .ref (ρ (ρ h0 0) 15), .ref (ρ (ρ h0 0) 16), .ref (ρ (ρ h0 0) 17), .ref (ρ (ρ h0 0) 18)]) := (hF71 _ (by rw [tp_iu y1]; decide)).trans hf_o55
              refine tpk_pos (tp_in hG y1 (by decide)) hf_78 (fun q79 eq79 => ?_)
              refine va_getN (D := (dC, dI)) (ci := 10) (v := .ref (ρ (ρ h0 0) 18)) (C := RX10) (T := TX10) (N := 19) hx hb hts hfX10 hown hK hP q79 eq79 rfl 18 (by decide) (va_Nw.use rfl (hN.1 (.fieldLinkNest RX1 50 "ColdShips$World" "cargoes" "LColdShips$Rows;" "ColdShips") nzw_86)) (fun _ h9 => h9) rfl dX1_worthOfRow_131 ?_
              refine lv_iload hx hb dX1_worthOfRow_134 (lv_at hl 2 rfl) ?_
              refine lv_iconst (v := 1) hx hb dX1_worthOfRow_136 (by decide) ?_
              have hf_80 : f70 (ρ (ρ h0 0) 18) = .inr (4, [.int o59_x0, .ref (ρ (ρ (ρ h0 0) 18) 1), .int o59_x2]) := (hF71 _ (by rw [tp_iu y24]; decide)).trans hf_o59
              refine tpk_pos (tp_in hG y24 (by decide)) hf_80 (fun q81 eq81 => ?_)
              refine pz_calli (va_runV (As := [.int w50, .int 1]) (rest := []) ⟨hx, hb, hml, hown, hts⟩ (t_X4_number l dC dI _ Ω κ τ ν ρ L f70 hG hT (ρ (ρ h0 0) 18) w50 (1) y24) (cwV 2 hts gX1_worthOfRow_X4_number rfl rfl rfl ⟨rfl, pd_X4_number⟩ ⟨Nat.le_of_ble_eq_true rfl, Nat.le_of_ble_eq_true rfl⟩) ⟨pz_blind, va_recv hK hP (ci := 4) (q0 := q81) rfl eq81, pz_pre hP hK hD hN⟩ rfl rfl hl.1 rfl (lv_room (Nat.le_of_ble_eq_true rfl)) dX1_worthOfRow_137 ⟨Nat.le_of_ble_eq_true rfl, Nat.le_of_ble_eq_true rfl⟩) (fun r82 hw83 => ?_)
              obtain ⟨hw83r, hw83p⟩ := hw83
              refine lv_istore (lv' := [(9, .int r82), (6, .long z77), (8, .int z74), (12, .int w50), (11, .int w41), (10, .int w42), (0, .ref h0), (1, .int v), (2, .int u), (3, .int a), (4, .int b), (5, .int a5)]) hx hb dX1_worthOfRow_140 hl (by decide) rfl (fun ls hl => ?_)
              refine lv_aload_n hx hb dX1_worthOfRow_142 rfl (lv_at hl 6 rfl) ?_
              refine va_get (D := (dC, dI)) (ci := 1) (v := .int o75_x7) (C := RX1) (T := TX1) (N := 15) hx hb hts hfX1 hown hK hP q76 eq76 rfl 7 (by decide) (hts (.fieldLink RX1 119 "ColdShips$Planner" "freeAt" "I") wa_1357) (fun _ h9 => h9) rfl dX1_worthOfRow_143 ?_
              refine lv_istore (lv' := [(10, .int o75_x7), (9, .int r82), (6, .long z77), (8, .int z74), (12, .int w50), (11, .int w41), (0, .ref h0), (1, .int v), (2, .int u), (3, .int a), (4, .int b), (5, .int a5)]) hx hb dX1_worthOfRow_146 hl (by decide) rfl (fun ls hl => ?_)
              obtain ⟨z84, ez84⟩ : ∃ y : Int32, y = w41 + 1 := ⟨_, rfl⟩
              refine lv_iinc (v := z84) (lv' := [(11, .int z84), (10, .int o75_x7), (9, .int r82), (6, .long z77), (8, .int z74), (12, .int w50), (0, .ref h0), (1, .int v), (2, .int u), (3, .int a), (4, .int b), (5, .int a5)]) hx hb dX1_worthOfRow_148 hl (k := 5) rfl (by rw [ez84]; rfl) (by decide) rfl (fun ls hl => ?_)
              have iz84 : z84.toInt = w41.toInt + 1 := zi_add ez84 rfl rfl (by omega) (by omega)
              refine lv_goto (tgt := 27) hx hb dX1_worthOfRow_151 (by decide) ?_
              exact ih47 _ _ _ _ (by rw [hn48]; omega) ⟨f70, z84, o75_x7, r82, z74, z77, rfl, hT, hR, (by omega), hP, hD, hS, lv_sub hl [0, 1, 2, 4, 3, 6, 7, 8, 9, 10, 11] rfl⟩
            · have ic72 : r68.toInt = 0 := zi_nef rfl rfl c72
              refine lv_ldc2 (own := RX1) (v := (-2000000000000000)) hx hb hown (hts (.constantLong RX1 66 (-2000000000000000)) wa_1349) dX1_worthOfRow_105 ?_
              exact W.lret (v := (-2000000000000000)) hx hb hr (fun t ht hW => ⟨⟨(-2000000000000000), f70, rfl, ⟨hT, hR, trivial, trivial⟩, by rw [ht]; exact hP, va_K.moved hW.alike hK, hD⟩, hS.F ht⟩) hS.2.2 dX1_worthOfRow_108
      · have ic52 : w50.toInt = (-1) := zi_nef rfl rfl c52
        refine lv_lload hx hb dX1_worthOfRow_62 (lv_at hl 5 rfl) ?_
        exact W.lret (v := w45) hx hb hr (fun t ht hW => ⟨⟨w45, f46, rfl, ⟨hT, hR, trivial, trivial⟩, by rw [ht]; exact hP, va_K.moved hW.alike hK, hD⟩, hS.F ht⟩) hS.2.2 dX1_worthOfRow_64
    · refine lv_if_ne (tgt := 42) hx hb dX1_worthOfRow_35 (by decide) (fun c85 => ?_) (fun c85 => ?_)
      · have ic85 : w41.toInt ≠ 0 := zi_ne rfl rfl c85
        refine lv_iload hx hb dX1_worthOfRow_42 (lv_at hl 0 rfl) ?_
        refine lv_iconst (v := 1) hx hb dX1_worthOfRow_44 (by decide) ?_
        refine lv_icmp_ne (tgt := 52) hx hb dX1_worthOfRow_45 (by decide) (fun c86 => ?_) (fun c86 => ?_)
        · have ic86 : w41.toInt ≠ 1 := zi_ne rfl rfl c86
          refine lv_iload hx hb dX1_worthOfRow_52 (lv_at hl 9 rfl) ?_
          exact hj51 _ _ _ _ ⟨b, rfl, hP, hD, hS, lv_sub hl [0, 1, 2, 3, 4, 5, 6, 7, 8, 9, 10] rfl⟩
        · have ic86 : w41.toInt = 1 := zi_nef rfl rfl c86
          refine lv_iload_n hx hb dX1_worthOfRow_48 rfl (lv_at hl 8 rfl) ?_
          refine lv_goto (tgt := 54) hx hb dX1_worthOfRow_49 (by decide) ?_
          exact hj51 _ _ _ _ ⟨a, rfl, hP, hD, hS, lv_sub hl [0, 1, 2, 3, 4, 5, 6, 7, 8, 9, 10] rfl⟩
      · have ic85 : w41.toInt = 0 := zi_nef rfl rfl c85
        refine lv_iload_n hx hb dX1_worthOfRow_38 rfl (lv_at hl 7 rfl) ?_
        refine lv_goto (tgt := 54) hx hb dX1_worthOfRow_39 (by decide) ?_
        exact hj51 _ _ _ _ ⟨u, rfl, hP, hD, hS, lv_sub hl [0, 1, 2, 3, 4, 5, 6, 7, 8, 9, 10] rfl⟩
end
section
def pw_Z (adK adV : Nat → Nat) (zv : Option Nat) (A : Nat → Prop) (U : State) (H : Heap) : Prop := vk_S 17 zs_len zs_byt adK adV A U H ∧ va_Z "java/lang/String" "COMPACT_STRINGS" "Z" (.int 1) A U H ∧ va_Z "jdk/internal/util/Preconditions" "SIOOBE_FORMATTER" "Ljava/util/function/BiFunction;" (va_rf zv) A U H ∧ ∀ i : Nat, i < 17 → vk_R RX2 (zs_ix.getD i (0, "")).1 (zs_ix.getD i (0, "")).2 (adK i) U
def pw_BZ (dC : Nat → ClassId) (dI : Nat → Nat → Nat) (tys : List (ClassId × FieldType)) (ws : va_W) (sz : Nat) (adK adV : Nat → Nat) (zv : Option Nat) (U : State) : Prop := pz_B dC dI tys ws sz U ∧ pw_Z adK adV zv (va_A ws sz) U U.heap
theorem pw_blindZ {dC : Nat → ClassId} {dI : Nat → Nat → Nat} {tys : List (ClassId × FieldType)} {ws : va_W} {sz : Nat} {zv : Option Nat} {adK adV : Nat → Nat} {av : List Value} : FrameBlind (va_Pc av (pw_BZ dC dI tys ws sz adK adV zv)) := by
  intro a U g mk q
  obtain ⟨q0, q1, z1, z2, z3, z4⟩ := q
  have k := pz_blind (av := av) a U g mk ⟨q0, q1⟩
  exact ⟨k.1, k.2, vk_S.moved (u := U) (U := U.calling g mk a) (Vm.Alike.refl U.vm) z1, va_Z.moved (u := U) (U := U.calling g mk a) (Vm.Alike.refl U.vm) z2, va_Z.moved (u := U) (U := U.calling g mk a) (Vm.Alike.refl U.vm) z3, fun i hi => vk_R.same (u := U) (U := U.calling g mk a) rfl (z4 i hi)⟩
theorem pw_preZ {dC : Nat → ClassId} {dI : Nat → Nat → Nat} {tys : List (ClassId × FieldType)} {ws : va_W} {A A1 : Nat → Prop} {s : State} {H : Heap} {locs : List Loc} {av : List Value} {adK adV : Nat → Nat} {zv : Option Nat} (hP : va_P (dC, dI) vwCl ws H) (hK : va_K (dC, dI) vwCl tys s) (hD : va_D A1 ws) (hN : nz_ok s) (hZ : pw_Z adK adV zv A s s.heap) (hS : va_S A s.heap H locs) (hA : ∀ q, va_A ws H.size q → A q) : ∀ U : State, U.heap = H → s.WarmedH U.vm → va_Pc av (pw_BZ dC dI tys ws H.size adK adV zv) av.toArray U := by
  intro U hU hW
  obtain ⟨z1, z2, z3, z4⟩ := hZ
  have k := pz_pre (av := av) hP hK hD hN U hU hW
  refine ⟨k.1, k.2, ?_⟩
  rw [hU]
  exact ⟨vk_S.moved hW.alike ((z1.kept hS.2.1).narrow hA), va_Z.moved hW.alike ((z2.kept hS.2.1).narrow hA), va_Z.moved hW.alike ((z3.kept hS.2.1).narrow hA), fun i hi => vk_R.warm hW (z4 i hi)⟩
end
section
theorem dX2_hasRoom_0 : decode cX2_hasRoom 0 = .ok (.aload_n 0, 1) := od_42  (by decide +kernel)
theorem dX2_hasRoom_1 : decode cX2_hasRoom 1 = .ok (.getfield 26, 3) := od_180 (a := 0) (b := 26) (by decide +kernel) (by decide)
theorem dX2_hasRoom_4 : decode cX2_hasRoom 4 = .ok (.bipush 20, 2) := od_16 (a := 20) (by decide +kernel) (by decide +kernel)
theorem dX2_hasRoom_6 : decode cX2_hasRoom 6 = .ok (.iadd, 1) := od_96  (by decide +kernel)
theorem dX2_hasRoom_7 : decode cX2_hasRoom 7 = .ok (.sipush 400, 3) := od_17 (a := 1) (b := 144) (by decide +kernel) (by decide +kernel)
theorem dX2_hasRoom_10 : decode cX2_hasRoom 10 = .ok (.if_icmp .gt 7, 3) := od_163 (a := 0) (b := 7) (by decide +kernel) (by decide +kernel)
theorem dX2_hasRoom_13 : decode cX2_hasRoom 13 = .ok (.iconst 1, 1) := od_4  (by decide +kernel)
theorem dX2_hasRoom_14 : decode cX2_hasRoom 14 = .ok (.goto 4, 3) := od_167 (a := 0) (b := 4) (by decide +kernel) (by decide +kernel)
theorem dX2_hasRoom_17 : decode cX2_hasRoom 17 = .ok (.iconst 0, 1) := od_3  (by decide +kernel)
theorem dX2_hasRoom_18 : decode cX2_hasRoom 18 = .ok (.ireturn, 1) := od_172  (by decide +kernel)
theorem dX2_addFour_0 : decode cX2_addFour 0 = .ok (.bipush 24, 2) := od_16 (a := 24) (by decide +kernel) (by decide +kernel)
theorem dX2_addFour_2 : decode cX2_addFour 2 = .ok (.istore_n 2, 1) := od_61  (by decide +kernel)
theorem dX2_addFour_3 : decode cX2_addFour 3 = .ok (.iload_n 2, 1) := od_28  (by decide +kernel)
theorem dX2_addFour_4 : decode cX2_addFour 4 = .ok (.ifCond .lt 46, 3) := od_155 (a := 0) (b := 46) (by decide +kernel) (by decide +kernel)
theorem dX2_addFour_7 : decode cX2_addFour 7 = .ok (.aload_n 0, 1) := od_42  (by decide +kernel)
theorem dX2_addFour_8 : decode cX2_addFour 8 = .ok (.getfield 26, 3) := od_180 (a := 0) (b := 26) (by decide +kernel) (by decide)
theorem dX2_addFour_11 : decode cX2_addFour 11 = .ok (.sipush 400, 3) := od_17 (a := 1) (b := 144) (by decide +kernel) (by decide +kernel)
theorem dX2_addFour_14 : decode cX2_addFour 14 = .ok (.if_icmp .ge 36, 3) := od_162 (a := 0) (b := 36) (by decide +kernel) (by decide +kernel)
theorem dX2_addFour_17 : decode cX2_addFour 17 = .ok (.aload_n 0, 1) := od_42  (by decide +kernel)
theorem dX2_addFour_18 : decode cX2_addFour 18 = .ok (.getfield 11, 3) := od_180 (a := 0) (b := 11) (by decide +kernel) (by decide)
theorem dX2_addFour_21 : decode cX2_addFour 21 = .ok (.aload_n 0, 1) := od_42  (by decide +kernel)
theorem dX2_addFour_22 : decode cX2_addFour 22 = .ok (.getfield 26, 3) := od_180 (a := 0) (b := 26) (by decide +kernel) (by decide)
theorem dX2_addFour_25 : decode cX2_addFour 25 = .ok (.iload_n 1, 1) := od_27  (by decide +kernel)
theorem dX2_addFour_26 : decode cX2_addFour 26 = .ok (.iload_n 2, 1) := od_28  (by decide +kernel)
theorem dX2_addFour_27 : decode cX2_addFour 27 = .ok (.iushr, 1) := od_124  (by decide +kernel)
theorem dX2_addFour_28 : decode cX2_addFour 28 = .ok (.sipush 255, 3) := od_17 (a := 0) (b := 255) (by decide +kernel) (by decide +kernel)
theorem dX2_addFour_31 : decode cX2_addFour 31 = .ok (.iand, 1) := od_126  (by decide +kernel)
theorem dX2_addFour_32 : decode cX2_addFour 32 = .ok (.i2c, 1) := od_146  (by decide +kernel)
theorem dX2_addFour_33 : decode cX2_addFour 33 = .ok (.castore, 1) := od_85  (by decide +kernel)
theorem dX2_addFour_34 : decode cX2_addFour 34 = .ok (.aload_n 0, 1) := od_42  (by decide +kernel)
theorem dX2_addFour_35 : decode cX2_addFour 35 = .ok (.dup, 1) := od_89  (by decide +kernel)
theorem dX2_addFour_36 : decode cX2_addFour 36 = .ok (.getfield 26, 3) := od_180 (a := 0) (b := 26) (by decide +kernel) (by decide)
theorem dX2_addFour_39 : decode cX2_addFour 39 = .ok (.iconst 1, 1) := od_4  (by decide +kernel)
theorem dX2_addFour_40 : decode cX2_addFour 40 = .ok (.iadd, 1) := od_96  (by decide +kernel)
theorem dX2_addFour_41 : decode cX2_addFour 41 = .ok (.putfield 26, 3) := od_181 (a := 0) (b := 26) (by decide +kernel) (by decide)
theorem dX2_addFour_44 : decode cX2_addFour 44 = .ok (.iinc 2 (-8), 3) := od_132 (a := 2) (b := 248) (by decide +kernel) (by decide +kernel)
theorem dX2_addFour_47 : decode cX2_addFour 47 = .ok (.goto (-44), 3) := od_167 (a := 255) (b := 212) (by decide +kernel) (by decide +kernel)
theorem dX2_addFour_50 : decode cX2_addFour 50 = .ok (.return_, 1) := od_177  (by decide +kernel)
theorem dX2_emptyTape_0 : decode cX2_emptyTape 0 = .ok (.aload_n 0, 1) := od_42  (by decide +kernel)
theorem dX2_emptyTape_1 : decode cX2_emptyTape 1 = .ok (.iconst 0, 1) := od_3  (by decide +kernel)
theorem dX2_emptyTape_2 : decode cX2_emptyTape 2 = .ok (.putfield 26, 3) := od_181 (a := 0) (b := 26) (by decide +kernel) (by decide)
theorem dX2_emptyTape_5 : decode cX2_emptyTape 5 = .ok (.return_, 1) := od_177  (by decide +kernel)
theorem gX2_leafHere_X2_factHere : GoodIn WALL (wsV RX2 164 RX2 yX2_factHere wqX2_factHere) := wg_V wa_943 wa_944 wa_945 wa_23 wa_946
theorem dX2_leafHere_0 : decode cX2_leafHere 0 = .ok (.aload_n 0, 1) := od_42  (by decide +kernel)
theorem dX2_leafHere_1 : decode cX2_leafHere 1 = .ok (.getfield 77, 3) := od_180 (a := 0) (b := 77) (by decide +kernel) (by decide)
theorem dX2_leafHere_4 : decode cX2_leafHere 4 = .ok (.iconst 2, 1) := od_5  (by decide +kernel)
theorem dX2_leafHere_5 : decode cX2_leafHere 5 = .ok (.if_icmp .ne 23, 3) := od_160 (a := 0) (b := 23) (by decide +kernel) (by decide +kernel)
theorem dX2_leafHere_8 : decode cX2_leafHere 8 = .ok (.aload_n 0, 1) := od_42  (by decide +kernel)
theorem dX2_leafHere_9 : decode cX2_leafHere 9 = .ok (.getfield 99, 3) := od_180 (a := 0) (b := 99) (by decide +kernel) (by decide)
theorem dX2_leafHere_12 : decode cX2_leafHere 12 = .ok (.ldc 163, 2) := od_18 (n := 163) (by decide +kernel)
theorem dX2_leafHere_14 : decode cX2_leafHere 14 = .ok (.if_icmp .gt 10, 3) := od_163 (a := 0) (b := 10) (by decide +kernel) (by decide +kernel)
theorem dX2_leafHere_17 : decode cX2_leafHere 17 = .ok (.aload_n 0, 1) := od_42  (by decide +kernel)
theorem dX2_leafHere_18 : decode cX2_leafHere 18 = .ok (.getfield 99, 3) := od_180 (a := 0) (b := 99) (by decide +kernel) (by decide)
theorem dX2_leafHere_21 : decode cX2_leafHere 21 = .ok (.goto 6, 3) := od_167 (a := 0) (b := 6) (by decide +kernel) (by decide +kernel)
theorem dX2_leafHere_24 : decode cX2_leafHere 24 = .ok (.sipush (-1000), 3) := od_17 (a := 252) (b := 24) (by decide +kernel) (by decide +kernel)
theorem dX2_leafHere_27 : decode cX2_leafHere 27 = .ok (.ireturn, 1) := od_172  (by decide +kernel)
theorem dX2_leafHere_28 : decode cX2_leafHere 28 = .ok (.aload_n 0, 1) := od_42  (by decide +kernel)
theorem dX2_leafHere_29 : decode cX2_leafHere 29 = .ok (.invokevirtual 164, 3) := od_182 (a := 0) (b := 164) (by decide +kernel) (by decide)
theorem dX2_leafHere_32 : decode cX2_leafHere 32 = .ok (.istore_n 1, 1) := od_60  (by decide +kernel)
theorem dX2_leafHere_33 : decode cX2_leafHere 33 = .ok (.iload_n 1, 1) := od_27  (by decide +kernel)
theorem dX2_leafHere_34 : decode cX2_leafHere 34 = .ok (.iconst (-1), 1) := od_2  (by decide +kernel)
theorem dX2_leafHere_35 : decode cX2_leafHere 35 = .ok (.if_icmp .ne 9, 3) := od_160 (a := 0) (b := 9) (by decide +kernel) (by decide +kernel)
theorem dX2_leafHere_38 : decode cX2_leafHere 38 = .ok (.sipush (-1000), 3) := od_17 (a := 252) (b := 24) (by decide +kernel) (by decide +kernel)
theorem dX2_leafHere_41 : decode cX2_leafHere 41 = .ok (.goto 6, 3) := od_167 (a := 0) (b := 6) (by decide +kernel) (by decide +kernel)
theorem dX2_leafHere_44 : decode cX2_leafHere 44 = .ok (.iconst (-1), 1) := od_2  (by decide +kernel)
theorem dX2_leafHere_45 : decode cX2_leafHere 45 = .ok (.iload_n 1, 1) := od_27  (by decide +kernel)
theorem dX2_leafHere_46 : decode cX2_leafHere 46 = .ok (.isub, 1) := od_100  (by decide +kernel)
theorem dX2_leafHere_47 : decode cX2_leafHere 47 = .ok (.ireturn, 1) := od_172  (by decide +kernel)
theorem gX2_factHere_X2_isWord : GoodIn WALL (wsV RX2 169 RX2 yX2_isWord wqX2_isWord) := wg_V wa_833 wa_834 wa_835 wa_23 wa_836
theorem dX2_factHere_0 : decode cX2_factHere 0 = .ok (.aload_n 0, 1) := od_42  (by decide +kernel)
theorem dX2_factHere_1 : decode cX2_factHere 1 = .ok (.ldc 167, 2) := od_18 (n := 167) (by decide +kernel)
theorem dX2_factHere_3 : decode cX2_factHere 3 = .ok (.invokevirtual 169, 3) := od_182 (a := 0) (b := 169) (by decide +kernel) (by decide)
theorem dX2_factHere_6 : decode cX2_factHere 6 = .ok (.ifCond .eq 5, 3) := od_153 (a := 0) (b := 5) (by decide +kernel) (by decide +kernel)
theorem dX2_factHere_9 : decode cX2_factHere 9 = .ok (.iconst 0, 1) := od_3  (by decide +kernel)
theorem dX2_factHere_10 : decode cX2_factHere 10 = .ok (.ireturn, 1) := od_172  (by decide +kernel)
theorem dX2_factHere_11 : decode cX2_factHere 11 = .ok (.aload_n 0, 1) := od_42  (by decide +kernel)
theorem dX2_factHere_12 : decode cX2_factHere 12 = .ok (.ldc 172, 2) := od_18 (n := 172) (by decide +kernel)
theorem dX2_factHere_14 : decode cX2_factHere 14 = .ok (.invokevirtual 169, 3) := od_182 (a := 0) (b := 169) (by decide +kernel) (by decide)
theorem dX2_factHere_17 : decode cX2_factHere 17 = .ok (.ifCond .eq 5, 3) := od_153 (a := 0) (b := 5) (by decide +kernel) (by decide +kernel)
theorem dX2_factHere_20 : decode cX2_factHere 20 = .ok (.iconst 1, 1) := od_4  (by decide +kernel)
theorem dX2_factHere_21 : decode cX2_factHere 21 = .ok (.ireturn, 1) := od_172  (by decide +kernel)
theorem dX2_factHere_22 : decode cX2_factHere 22 = .ok (.aload_n 0, 1) := od_42  (by decide +kernel)
theorem dX2_factHere_23 : decode cX2_factHere 23 = .ok (.ldc 174, 2) := od_18 (n := 174) (by decide +kernel)
theorem dX2_factHere_25 : decode cX2_factHere 25 = .ok (.invokevirtual 169, 3) := od_182 (a := 0) (b := 169) (by decide +kernel) (by decide)
theorem dX2_factHere_28 : decode cX2_factHere 28 = .ok (.ifCond .eq 5, 3) := od_153 (a := 0) (b := 5) (by decide +kernel) (by decide +kernel)
theorem dX2_factHere_31 : decode cX2_factHere 31 = .ok (.iconst 2, 1) := od_5  (by decide +kernel)
theorem dX2_factHere_32 : decode cX2_factHere 32 = .ok (.ireturn, 1) := od_172  (by decide +kernel)
theorem dX2_factHere_33 : decode cX2_factHere 33 = .ok (.aload_n 0, 1) := od_42  (by decide +kernel)
theorem dX2_factHere_34 : decode cX2_factHere 34 = .ok (.ldc 176, 2) := od_18 (n := 176) (by decide +kernel)
theorem dX2_factHere_36 : decode cX2_factHere 36 = .ok (.invokevirtual 169, 3) := od_182 (a := 0) (b := 169) (by decide +kernel) (by decide)
theorem dX2_factHere_39 : decode cX2_factHere 39 = .ok (.ifCond .eq 5, 3) := od_153 (a := 0) (b := 5) (by decide +kernel) (by decide +kernel)
theorem dX2_factHere_42 : decode cX2_factHere 42 = .ok (.iconst 3, 1) := od_6  (by decide +kernel)
theorem dX2_factHere_43 : decode cX2_factHere 43 = .ok (.ireturn, 1) := od_172  (by decide +kernel)
theorem dX2_factHere_44 : decode cX2_factHere 44 = .ok (.aload_n 0, 1) := od_42  (by decide +kernel)
theorem dX2_factHere_45 : decode cX2_factHere 45 = .ok (.ldc 178, 2) := od_18 (n := 178) (by decide +kernel)
theorem dX2_factHere_47 : decode cX2_factHere 47 = .ok (.invokevirtual 169, 3) := od_182 (a := 0) (b := 169) (by decide +kernel) (by decide)
theorem dX2_factHere_50 : decode cX2_factHere 50 = .ok (.ifCond .eq 5, 3) := od_153 (a := 0) (b := 5) (by decide +kernel) (by decide +kernel)
theorem dX2_factHere_53 : decode cX2_factHere 53 = .ok (.iconst 4, 1) := od_7  (by decide +kernel)
theorem dX2_factHere_54 : decode cX2_factHere 54 = .ok (.ireturn, 1) := od_172  (by decide +kernel)
theorem dX2_factHere_55 : decode cX2_factHere 55 = .ok (.aload_n 0, 1) := od_42  (by decide +kernel)
theorem dX2_factHere_56 : decode cX2_factHere 56 = .ok (.ldc 180, 2) := od_18 (n := 180) (by decide +kernel)
theorem dX2_factHere_58 : decode cX2_factHere 58 = .ok (.invokevirtual 169, 3) := od_182 (a := 0) (b := 169) (by decide +kernel) (by decide)
theorem dX2_factHere_61 : decode cX2_factHere 61 = .ok (.ifCond .eq 5, 3) := od_153 (a := 0) (b := 5) (by decide +kernel) (by decide +kernel)
theorem dX2_factHere_64 : decode cX2_factHere 64 = .ok (.iconst 5, 1) := od_8  (by decide +kernel)
theorem dX2_factHere_65 : decode cX2_factHere 65 = .ok (.ireturn, 1) := od_172  (by decide +kernel)
theorem dX2_factHere_66 : decode cX2_factHere 66 = .ok (.aload_n 0, 1) := od_42  (by decide +kernel)
theorem dX2_factHere_67 : decode cX2_factHere 67 = .ok (.ldc 182, 2) := od_18 (n := 182) (by decide +kernel)
theorem dX2_factHere_69 : decode cX2_factHere 69 = .ok (.invokevirtual 169, 3) := od_182 (a := 0) (b := 169) (by decide +kernel) (by decide)
theorem dX2_factHere_72 : decode cX2_factHere 72 = .ok (.ifCond .eq 6, 3) := od_153 (a := 0) (b := 6) (by decide +kernel) (by decide +kernel)
theorem dX2_factHere_75 : decode cX2_factHere 75 = .ok (.bipush 6, 2) := od_16 (a := 6) (by decide +kernel) (by decide +kernel)
theorem dX2_factHere_77 : decode cX2_factHere 77 = .ok (.ireturn, 1) := od_172  (by decide +kernel)
theorem dX2_factHere_78 : decode cX2_factHere 78 = .ok (.aload_n 0, 1) := od_42  (by decide +kernel)
theorem dX2_factHere_79 : decode cX2_factHere 79 = .ok (.ldc 184, 2) := od_18 (n := 184) (by decide +kernel)
theorem dX2_factHere_81 : decode cX2_factHere 81 = .ok (.invokevirtual 169, 3) := od_182 (a := 0) (b := 169) (by decide +kernel) (by decide)
theorem dX2_factHere_84 : decode cX2_factHere 84 = .ok (.ifCond .eq 8, 3) := od_153 (a := 0) (b := 8) (by decide +kernel) (by decide +kernel)
theorem dX2_factHere_87 : decode cX2_factHere 87 = .ok (.bipush 7, 2) := od_16 (a := 7) (by decide +kernel) (by decide +kernel)
theorem dX2_factHere_89 : decode cX2_factHere 89 = .ok (.goto 4, 3) := od_167 (a := 0) (b := 4) (by decide +kernel) (by decide +kernel)
theorem dX2_factHere_92 : decode cX2_factHere 92 = .ok (.iconst (-1), 1) := od_2  (by decide +kernel)
theorem dX2_factHere_93 : decode cX2_factHere 93 = .ok (.ireturn, 1) := od_172  (by decide +kernel)
theorem ggX2_isNumber_X11_within : GoodIn WALL wqX11_within := wg_c wa_182
theorem dX2_isNumber_0 : decode cX2_isNumber 0 = .ok (.aload_n 0, 1) := od_42  (by decide +kernel)
theorem dX2_isNumber_1 : decode cX2_isNumber 1 = .ok (.getfield 77, 3) := od_180 (a := 0) (b := 77) (by decide +kernel) (by decide)
theorem dX2_isNumber_4 : decode cX2_isNumber 4 = .ok (.iconst 2, 1) := od_5  (by decide +kernel)
theorem dX2_isNumber_5 : decode cX2_isNumber 5 = .ok (.if_icmp .ne 19, 3) := od_160 (a := 0) (b := 19) (by decide +kernel) (by decide +kernel)
theorem dX2_isNumber_8 : decode cX2_isNumber 8 = .ok (.aload_n 0, 1) := od_42  (by decide +kernel)
theorem dX2_isNumber_9 : decode cX2_isNumber 9 = .ok (.getfield 99, 3) := od_180 (a := 0) (b := 99) (by decide +kernel) (by decide)
theorem dX2_isNumber_12 : decode cX2_isNumber 12 = .ok (.iload_n 1, 1) := od_27  (by decide +kernel)
theorem dX2_isNumber_13 : decode cX2_isNumber 13 = .ok (.iload_n 2, 1) := od_28  (by decide +kernel)
theorem dX2_isNumber_14 : decode cX2_isNumber 14 = .ok (.invokestatic 186, 3) := od_184 (a := 0) (b := 186) (by decide +kernel) (by decide)
theorem dX2_isNumber_17 : decode cX2_isNumber 17 = .ok (.ifCond .eq 7, 3) := od_153 (a := 0) (b := 7) (by decide +kernel) (by decide +kernel)
theorem dX2_isNumber_20 : decode cX2_isNumber 20 = .ok (.iconst 1, 1) := od_4  (by decide +kernel)
theorem dX2_isNumber_21 : decode cX2_isNumber 21 = .ok (.goto 4, 3) := od_167 (a := 0) (b := 4) (by decide +kernel) (by decide +kernel)
theorem dX2_isNumber_24 : decode cX2_isNumber 24 = .ok (.iconst 0, 1) := od_3  (by decide +kernel)
theorem dX2_isNumber_25 : decode cX2_isNumber 25 = .ok (.ireturn, 1) := od_172  (by decide +kernel)
theorem gX2_passWord_X2_isWord : GoodIn WALL (wsV RX2 169 RX2 yX2_isWord wqX2_isWord) := wg_V wa_833 wa_834 wa_835 wa_23 wa_836
theorem gX2_passWord_X2_advance : GoodIn WALL (wsV RX2 53 RX2 yX2_advance wqX2_advance) := wg_V wa_807 wa_808 wa_809 wa_23 wa_810
theorem dX2_passWord_0 : decode cX2_passWord 0 = .ok (.aload_n 0, 1) := od_42  (by decide +kernel)
theorem dX2_passWord_1 : decode cX2_passWord 1 = .ok (.aload_n 1, 1) := od_43  (by decide +kernel)
theorem dX2_passWord_2 : decode cX2_passWord 2 = .ok (.invokevirtual 169, 3) := od_182 (a := 0) (b := 169) (by decide +kernel) (by decide)
theorem dX2_passWord_5 : decode cX2_passWord 5 = .ok (.istore_n 2, 1) := od_61  (by decide +kernel)
theorem dX2_passWord_6 : decode cX2_passWord 6 = .ok (.iload_n 2, 1) := od_28  (by decide +kernel)
theorem dX2_passWord_7 : decode cX2_passWord 7 = .ok (.ifCond .eq 7, 3) := od_153 (a := 0) (b := 7) (by decide +kernel) (by decide +kernel)
theorem dX2_passWord_10 : decode cX2_passWord 10 = .ok (.aload_n 0, 1) := od_42  (by decide +kernel)
theorem dX2_passWord_11 : decode cX2_passWord 11 = .ok (.invokevirtual 53, 3) := od_182 (a := 0) (b := 53) (by decide +kernel) (by decide)
theorem dX2_passWord_14 : decode cX2_passWord 14 = .ok (.iload_n 2, 1) := od_28  (by decide +kernel)
theorem dX2_passWord_15 : decode cX2_passWord 15 = .ok (.ireturn, 1) := od_172  (by decide +kernel)
theorem gX2_passSign_X2_isSign : GoodIn WALL (wsV RX2 143 RX2 yX2_isSign wqX2_isSign) := wg_V wa_905 wa_906 wa_907 wa_23 wa_908
theorem gX2_passSign_X2_advance : GoodIn WALL (wsV RX2 53 RX2 yX2_advance wqX2_advance) := wg_V wa_807 wa_808 wa_809 wa_23 wa_810
theorem dX2_passSign_0 : decode cX2_passSign 0 = .ok (.aload_n 0, 1) := od_42  (by decide +kernel)
theorem dX2_passSign_1 : decode cX2_passSign 1 = .ok (.iload_n 1, 1) := od_27  (by decide +kernel)
theorem dX2_passSign_2 : decode cX2_passSign 2 = .ok (.invokevirtual 143, 3) := od_182 (a := 0) (b := 143) (by decide +kernel) (by decide)
theorem dX2_passSign_5 : decode cX2_passSign 5 = .ok (.istore_n 2, 1) := od_61  (by decide +kernel)
theorem dX2_passSign_6 : decode cX2_passSign 6 = .ok (.iload_n 2, 1) := od_28  (by decide +kernel)
theorem dX2_passSign_7 : decode cX2_passSign 7 = .ok (.ifCond .eq 7, 3) := od_153 (a := 0) (b := 7) (by decide +kernel) (by decide +kernel)
theorem dX2_passSign_10 : decode cX2_passSign 10 = .ok (.aload_n 0, 1) := od_42  (by decide +kernel)
theorem dX2_passSign_11 : decode cX2_passSign 11 = .ok (.invokevirtual 53, 3) := od_182 (a := 0) (b := 53) (by decide +kernel) (by decide)
theorem dX2_passSign_14 : decode cX2_passSign 14 = .ok (.iload_n 2, 1) := od_28  (by decide +kernel)
theorem dX2_passSign_15 : decode cX2_passSign 15 = .ok (.ireturn, 1) := od_172  (by decide +kernel)
theorem dX2_isSign_0 : decode cX2_isSign 0 = .ok (.aload_n 0, 1) := od_42  (by decide +kernel)
theorem dX2_isSign_1 : decode cX2_isSign 1 = .ok (.getfield 77, 3) := od_180 (a := 0) (b := 77) (by decide +kernel) (by decide)
theorem dX2_isSign_4 : decode cX2_isSign 4 = .ok (.iconst 3, 1) := od_6  (by decide +kernel)
theorem dX2_isSign_5 : decode cX2_isSign 5 = .ok (.if_icmp .ne 20, 3) := od_160 (a := 0) (b := 20) (by decide +kernel) (by decide +kernel)
theorem dX2_isSign_8 : decode cX2_isSign 8 = .ok (.aload_n 0, 1) := od_42  (by decide +kernel)
theorem dX2_isSign_9 : decode cX2_isSign 9 = .ok (.getfield 11, 3) := od_180 (a := 0) (b := 11) (by decide +kernel) (by decide)
theorem dX2_isSign_12 : decode cX2_isSign 12 = .ok (.aload_n 0, 1) := od_42  (by decide +kernel)
theorem dX2_isSign_13 : decode cX2_isSign 13 = .ok (.getfield 60, 3) := od_180 (a := 0) (b := 60) (by decide +kernel) (by decide)
theorem dX2_isSign_16 : decode cX2_isSign 16 = .ok (.caload, 1) := od_52  (by decide +kernel)
theorem dX2_isSign_17 : decode cX2_isSign 17 = .ok (.iload_n 1, 1) := od_27  (by decide +kernel)
theorem dX2_isSign_18 : decode cX2_isSign 18 = .ok (.if_icmp .ne 7, 3) := od_160 (a := 0) (b := 7) (by decide +kernel) (by decide +kernel)
theorem dX2_isSign_21 : decode cX2_isSign 21 = .ok (.iconst 1, 1) := od_4  (by decide +kernel)
theorem dX2_isSign_22 : decode cX2_isSign 22 = .ok (.goto 4, 3) := od_167 (a := 0) (b := 4) (by decide +kernel) (by decide +kernel)
theorem dX2_isSign_25 : decode cX2_isSign 25 = .ok (.iconst 0, 1) := od_3  (by decide +kernel)
theorem dX2_isSign_26 : decode cX2_isSign 26 = .ok (.ireturn, 1) := od_172  (by decide +kernel)
theorem gX2_isWord_J0_length_8abf5 : GoodIn WALL (wsV RX2 190 RJ0 yJ0_length_8abf5 wqJ0_length_8abf5) := wg_V wa_837 wa_838 wa_839 wa_840 wa_841
theorem gX2_isWord_J0_charAt_5068e : GoodIn WALL (wsV RX2 195 RJ0 yJ0_charAt_5068e wqJ0_charAt_5068e) := wg_V wa_849 wa_850 wa_851 wa_840 wa_852
theorem dX2_isWord_0 : decode cX2_isWord 0 = .ok (.aload_n 0, 1) := od_42  (by decide +kernel)
theorem dX2_isWord_1 : decode cX2_isWord 1 = .ok (.getfield 77, 3) := od_180 (a := 0) (b := 77) (by decide +kernel) (by decide)
theorem dX2_isWord_4 : decode cX2_isWord 4 = .ok (.iconst 1, 1) := od_4  (by decide +kernel)
theorem dX2_isWord_5 : decode cX2_isWord 5 = .ok (.if_icmp .ne 19, 3) := od_160 (a := 0) (b := 19) (by decide +kernel) (by decide +kernel)
theorem dX2_isWord_8 : decode cX2_isWord 8 = .ok (.aload_n 0, 1) := od_42  (by decide +kernel)
theorem dX2_isWord_9 : decode cX2_isWord 9 = .ok (.getfield 29, 3) := od_180 (a := 0) (b := 29) (by decide +kernel) (by decide)
theorem dX2_isWord_12 : decode cX2_isWord 12 = .ok (.aload_n 0, 1) := od_42  (by decide +kernel)
theorem dX2_isWord_13 : decode cX2_isWord 13 = .ok (.getfield 60, 3) := od_180 (a := 0) (b := 60) (by decide +kernel) (by decide)
theorem dX2_isWord_16 : decode cX2_isWord 16 = .ok (.isub, 1) := od_100  (by decide +kernel)
theorem dX2_isWord_17 : decode cX2_isWord 17 = .ok (.aload_n 1, 1) := od_43  (by decide +kernel)
theorem dX2_isWord_18 : decode cX2_isWord 18 = .ok (.invokevirtual 190, 3) := od_182 (a := 0) (b := 190) (by decide +kernel) (by decide)
theorem dX2_isWord_21 : decode cX2_isWord 21 = .ok (.if_icmp .eq 5, 3) := od_159 (a := 0) (b := 5) (by decide +kernel) (by decide +kernel)
theorem dX2_isWord_24 : decode cX2_isWord 24 = .ok (.iconst 0, 1) := od_3  (by decide +kernel)
theorem dX2_isWord_25 : decode cX2_isWord 25 = .ok (.ireturn, 1) := od_172  (by decide +kernel)
theorem dX2_isWord_26 : decode cX2_isWord 26 = .ok (.iconst 0, 1) := od_3  (by decide +kernel)
theorem dX2_isWord_27 : decode cX2_isWord 27 = .ok (.istore_n 2, 1) := od_61  (by decide +kernel)
theorem dX2_isWord_28 : decode cX2_isWord 28 = .ok (.iload_n 2, 1) := od_28  (by decide +kernel)
theorem dX2_isWord_29 : decode cX2_isWord 29 = .ok (.aload_n 1, 1) := od_43  (by decide +kernel)
theorem dX2_isWord_30 : decode cX2_isWord 30 = .ok (.invokevirtual 190, 3) := od_182 (a := 0) (b := 190) (by decide +kernel) (by decide)
theorem dX2_isWord_33 : decode cX2_isWord 33 = .ok (.if_icmp .ge 30, 3) := od_162 (a := 0) (b := 30) (by decide +kernel) (by decide +kernel)
theorem dX2_isWord_36 : decode cX2_isWord 36 = .ok (.aload_n 0, 1) := od_42  (by decide +kernel)
theorem dX2_isWord_37 : decode cX2_isWord 37 = .ok (.getfield 11, 3) := od_180 (a := 0) (b := 11) (by decide +kernel) (by decide)
theorem dX2_isWord_40 : decode cX2_isWord 40 = .ok (.aload_n 0, 1) := od_42  (by decide +kernel)
theorem dX2_isWord_41 : decode cX2_isWord 41 = .ok (.getfield 60, 3) := od_180 (a := 0) (b := 60) (by decide +kernel) (by decide)
theorem dX2_isWord_44 : decode cX2_isWord 44 = .ok (.iload_n 2, 1) := od_28  (by decide +kernel)
theorem dX2_isWord_45 : decode cX2_isWord 45 = .ok (.iadd, 1) := od_96  (by decide +kernel)
theorem dX2_isWord_46 : decode cX2_isWord 46 = .ok (.caload, 1) := od_52  (by decide +kernel)
theorem dX2_isWord_47 : decode cX2_isWord 47 = .ok (.aload_n 1, 1) := od_43  (by decide +kernel)
theorem dX2_isWord_48 : decode cX2_isWord 48 = .ok (.iload_n 2, 1) := od_28  (by decide +kernel)
theorem dX2_isWord_49 : decode cX2_isWord 49 = .ok (.invokevirtual 195, 3) := od_182 (a := 0) (b := 195) (by decide +kernel) (by decide)
theorem dX2_isWord_52 : decode cX2_isWord 52 = .ok (.if_icmp .eq 5, 3) := od_159 (a := 0) (b := 5) (by decide +kernel) (by decide +kernel)
theorem dX2_isWord_55 : decode cX2_isWord 55 = .ok (.iconst 0, 1) := od_3  (by decide +kernel)
theorem dX2_isWord_56 : decode cX2_isWord 56 = .ok (.ireturn, 1) := od_172  (by decide +kernel)
theorem dX2_isWord_57 : decode cX2_isWord 57 = .ok (.iinc 2 1, 3) := od_132 (a := 2) (b := 1) (by decide +kernel) (by decide +kernel)
theorem dX2_isWord_60 : decode cX2_isWord 60 = .ok (.goto (-32), 3) := od_167 (a := 255) (b := 224) (by decide +kernel) (by decide +kernel)
theorem dX2_isWord_63 : decode cX2_isWord 63 = .ok (.iconst 1, 1) := od_4  (by decide +kernel)
theorem dX2_isWord_64 : decode cX2_isWord 64 = .ok (.ireturn, 1) := od_172  (by decide +kernel)
theorem gX2_advance_X2_isLetter : GoodIn WALL (va_wsS RX2 199 yX2_isLetter wqX2_isLetter) := wg_S wa_815 wa_816 wa_23 wa_817
theorem gX2_advance_X2_isDigit : GoodIn WALL (va_wsS RX2 202 yX2_isDigit wqX2_isDigit) := wg_S wa_818 wa_819 wa_23 wa_820
theorem dX2_advance_0 : decode cX2_advance 0 = .ok (.aload_n 0, 1) := od_42  (by decide +kernel)
theorem dX2_advance_1 : decode cX2_advance 1 = .ok (.aload_n 0, 1) := od_42  (by decide +kernel)
theorem dX2_advance_2 : decode cX2_advance 2 = .ok (.getfield 29, 3) := od_180 (a := 0) (b := 29) (by decide +kernel) (by decide)
theorem dX2_advance_5 : decode cX2_advance 5 = .ok (.putfield 60, 3) := od_181 (a := 0) (b := 60) (by decide +kernel) (by decide)
theorem dX2_advance_8 : decode cX2_advance 8 = .ok (.aload_n 0, 1) := od_42  (by decide +kernel)
theorem dX2_advance_9 : decode cX2_advance 9 = .ok (.getfield 60, 3) := od_180 (a := 0) (b := 60) (by decide +kernel) (by decide)
theorem dX2_advance_12 : decode cX2_advance 12 = .ok (.aload_n 0, 1) := od_42  (by decide +kernel)
theorem dX2_advance_13 : decode cX2_advance 13 = .ok (.getfield 26, 3) := od_180 (a := 0) (b := 26) (by decide +kernel) (by decide)
theorem dX2_advance_16 : decode cX2_advance 16 = .ok (.if_icmp .ge 30, 3) := od_162 (a := 0) (b := 30) (by decide +kernel) (by decide +kernel)
theorem dX2_advance_19 : decode cX2_advance 19 = .ok (.aload_n 0, 1) := od_42  (by decide +kernel)
theorem dX2_advance_20 : decode cX2_advance 20 = .ok (.getfield 11, 3) := od_180 (a := 0) (b := 11) (by decide +kernel) (by decide)
theorem dX2_advance_23 : decode cX2_advance 23 = .ok (.aload_n 0, 1) := od_42  (by decide +kernel)
theorem dX2_advance_24 : decode cX2_advance 24 = .ok (.getfield 60, 3) := od_180 (a := 0) (b := 60) (by decide +kernel) (by decide)
theorem dX2_advance_27 : decode cX2_advance 27 = .ok (.caload, 1) := od_52  (by decide +kernel)
theorem dX2_advance_28 : decode cX2_advance 28 = .ok (.bipush 32, 2) := od_16 (a := 32) (by decide +kernel) (by decide +kernel)
theorem dX2_advance_30 : decode cX2_advance 30 = .ok (.if_icmp .ne 16, 3) := od_160 (a := 0) (b := 16) (by decide +kernel) (by decide +kernel)
theorem dX2_advance_33 : decode cX2_advance 33 = .ok (.aload_n 0, 1) := od_42  (by decide +kernel)
theorem dX2_advance_34 : decode cX2_advance 34 = .ok (.dup, 1) := od_89  (by decide +kernel)
theorem dX2_advance_35 : decode cX2_advance 35 = .ok (.getfield 60, 3) := od_180 (a := 0) (b := 60) (by decide +kernel) (by decide)
theorem dX2_advance_38 : decode cX2_advance 38 = .ok (.iconst 1, 1) := od_4  (by decide +kernel)
theorem dX2_advance_39 : decode cX2_advance 39 = .ok (.iadd, 1) := od_96  (by decide +kernel)
theorem dX2_advance_40 : decode cX2_advance 40 = .ok (.putfield 60, 3) := od_181 (a := 0) (b := 60) (by decide +kernel) (by decide)
theorem dX2_advance_43 : decode cX2_advance 43 = .ok (.goto (-35), 3) := od_167 (a := 255) (b := 221) (by decide +kernel) (by decide +kernel)
theorem dX2_advance_46 : decode cX2_advance 46 = .ok (.aload_n 0, 1) := od_42  (by decide +kernel)
theorem dX2_advance_47 : decode cX2_advance 47 = .ok (.aload_n 0, 1) := od_42  (by decide +kernel)
theorem dX2_advance_48 : decode cX2_advance 48 = .ok (.getfield 60, 3) := od_180 (a := 0) (b := 60) (by decide +kernel) (by decide)
theorem dX2_advance_51 : decode cX2_advance 51 = .ok (.putfield 29, 3) := od_181 (a := 0) (b := 29) (by decide +kernel) (by decide)
theorem dX2_advance_54 : decode cX2_advance 54 = .ok (.aload_n 0, 1) := od_42  (by decide +kernel)
theorem dX2_advance_55 : decode cX2_advance 55 = .ok (.getfield 60, 3) := od_180 (a := 0) (b := 60) (by decide +kernel) (by decide)
theorem dX2_advance_58 : decode cX2_advance 58 = .ok (.aload_n 0, 1) := od_42  (by decide +kernel)
theorem dX2_advance_59 : decode cX2_advance 59 = .ok (.getfield 26, 3) := od_180 (a := 0) (b := 26) (by decide +kernel) (by decide)
theorem dX2_advance_62 : decode cX2_advance 62 = .ok (.if_icmp .lt 11, 3) := od_161 (a := 0) (b := 11) (by decide +kernel) (by decide +kernel)
theorem dX2_advance_65 : decode cX2_advance 65 = .ok (.aload_n 0, 1) := od_42  (by decide +kernel)
theorem dX2_advance_66 : decode cX2_advance 66 = .ok (.iconst 0, 1) := od_3  (by decide +kernel)
theorem dX2_advance_67 : decode cX2_advance 67 = .ok (.putfield 77, 3) := od_181 (a := 0) (b := 77) (by decide +kernel) (by decide)
theorem dX2_advance_70 : decode cX2_advance 70 = .ok (.goto 170, 3) := od_167 (a := 0) (b := 170) (by decide +kernel) (by decide +kernel)
theorem dX2_advance_73 : decode cX2_advance 73 = .ok (.aload_n 0, 1) := od_42  (by decide +kernel)
theorem dX2_advance_74 : decode cX2_advance 74 = .ok (.getfield 11, 3) := od_180 (a := 0) (b := 11) (by decide +kernel) (by decide)
theorem dX2_advance_77 : decode cX2_advance 77 = .ok (.aload_n 0, 1) := od_42  (by decide +kernel)
theorem dX2_advance_78 : decode cX2_advance 78 = .ok (.getfield 60, 3) := od_180 (a := 0) (b := 60) (by decide +kernel) (by decide)
theorem dX2_advance_81 : decode cX2_advance 81 = .ok (.caload, 1) := od_52  (by decide +kernel)
theorem dX2_advance_82 : decode cX2_advance 82 = .ok (.invokestatic 199, 3) := od_184 (a := 0) (b := 199) (by decide +kernel) (by decide)
theorem dX2_advance_85 : decode cX2_advance 85 = .ok (.ifCond .eq 47, 3) := od_153 (a := 0) (b := 47) (by decide +kernel) (by decide +kernel)
theorem dX2_advance_88 : decode cX2_advance 88 = .ok (.aload_n 0, 1) := od_42  (by decide +kernel)
theorem dX2_advance_89 : decode cX2_advance 89 = .ok (.iconst 1, 1) := od_4  (by decide +kernel)
theorem dX2_advance_90 : decode cX2_advance 90 = .ok (.putfield 77, 3) := od_181 (a := 0) (b := 77) (by decide +kernel) (by decide)
theorem dX2_advance_93 : decode cX2_advance 93 = .ok (.aload_n 0, 1) := od_42  (by decide +kernel)
theorem dX2_advance_94 : decode cX2_advance 94 = .ok (.getfield 29, 3) := od_180 (a := 0) (b := 29) (by decide +kernel) (by decide)
theorem dX2_advance_97 : decode cX2_advance 97 = .ok (.aload_n 0, 1) := od_42  (by decide +kernel)
theorem dX2_advance_98 : decode cX2_advance 98 = .ok (.getfield 26, 3) := od_180 (a := 0) (b := 26) (by decide +kernel) (by decide)
theorem dX2_advance_101 : decode cX2_advance 101 = .ok (.if_icmp .ge 139, 3) := od_162 (a := 0) (b := 139) (by decide +kernel) (by decide +kernel)
theorem dX2_advance_104 : decode cX2_advance 104 = .ok (.aload_n 0, 1) := od_42  (by decide +kernel)
theorem dX2_advance_105 : decode cX2_advance 105 = .ok (.getfield 11, 3) := od_180 (a := 0) (b := 11) (by decide +kernel) (by decide)
theorem dX2_advance_108 : decode cX2_advance 108 = .ok (.aload_n 0, 1) := od_42  (by decide +kernel)
theorem dX2_advance_109 : decode cX2_advance 109 = .ok (.getfield 29, 3) := od_180 (a := 0) (b := 29) (by decide +kernel) (by decide)
theorem dX2_advance_112 : decode cX2_advance 112 = .ok (.caload, 1) := od_52  (by decide +kernel)
theorem dX2_advance_113 : decode cX2_advance 113 = .ok (.invokestatic 199, 3) := od_184 (a := 0) (b := 199) (by decide +kernel) (by decide)
theorem dX2_advance_116 : decode cX2_advance 116 = .ok (.ifCond .eq 124, 3) := od_153 (a := 0) (b := 124) (by decide +kernel) (by decide +kernel)
theorem dX2_advance_119 : decode cX2_advance 119 = .ok (.aload_n 0, 1) := od_42  (by decide +kernel)
theorem dX2_advance_120 : decode cX2_advance 120 = .ok (.dup, 1) := od_89  (by decide +kernel)
theorem dX2_advance_121 : decode cX2_advance 121 = .ok (.getfield 29, 3) := od_180 (a := 0) (b := 29) (by decide +kernel) (by decide)
theorem dX2_advance_124 : decode cX2_advance 124 = .ok (.iconst 1, 1) := od_4  (by decide +kernel)
theorem dX2_advance_125 : decode cX2_advance 125 = .ok (.iadd, 1) := od_96  (by decide +kernel)
theorem dX2_advance_126 : decode cX2_advance 126 = .ok (.putfield 29, 3) := od_181 (a := 0) (b := 29) (by decide +kernel) (by decide)
theorem dX2_advance_129 : decode cX2_advance 129 = .ok (.goto (-36), 3) := od_167 (a := 255) (b := 220) (by decide +kernel) (by decide +kernel)
theorem dX2_advance_132 : decode cX2_advance 132 = .ok (.aload_n 0, 1) := od_42  (by decide +kernel)
theorem dX2_advance_133 : decode cX2_advance 133 = .ok (.getfield 11, 3) := od_180 (a := 0) (b := 11) (by decide +kernel) (by decide)
theorem dX2_advance_136 : decode cX2_advance 136 = .ok (.aload_n 0, 1) := od_42  (by decide +kernel)
theorem dX2_advance_137 : decode cX2_advance 137 = .ok (.getfield 60, 3) := od_180 (a := 0) (b := 60) (by decide +kernel) (by decide)
theorem dX2_advance_140 : decode cX2_advance 140 = .ok (.caload, 1) := od_52  (by decide +kernel)
theorem dX2_advance_141 : decode cX2_advance 141 = .ok (.invokestatic 202, 3) := od_184 (a := 0) (b := 202) (by decide +kernel) (by decide)
theorem dX2_advance_144 : decode cX2_advance 144 = .ok (.ifCond .eq 81, 3) := od_153 (a := 0) (b := 81) (by decide +kernel) (by decide +kernel)
theorem dX2_advance_147 : decode cX2_advance 147 = .ok (.aload_n 0, 1) := od_42  (by decide +kernel)
theorem dX2_advance_148 : decode cX2_advance 148 = .ok (.iconst 2, 1) := od_5  (by decide +kernel)
theorem dX2_advance_149 : decode cX2_advance 149 = .ok (.putfield 77, 3) := od_181 (a := 0) (b := 77) (by decide +kernel) (by decide)
theorem dX2_advance_152 : decode cX2_advance 152 = .ok (.aload_n 0, 1) := od_42  (by decide +kernel)
theorem dX2_advance_153 : decode cX2_advance 153 = .ok (.iconst 0, 1) := od_3  (by decide +kernel)
theorem dX2_advance_154 : decode cX2_advance 154 = .ok (.putfield 99, 3) := od_181 (a := 0) (b := 99) (by decide +kernel) (by decide)
theorem dX2_advance_157 : decode cX2_advance 157 = .ok (.aload_n 0, 1) := od_42  (by decide +kernel)
theorem dX2_advance_158 : decode cX2_advance 158 = .ok (.getfield 29, 3) := od_180 (a := 0) (b := 29) (by decide +kernel) (by decide)
theorem dX2_advance_161 : decode cX2_advance 161 = .ok (.aload_n 0, 1) := od_42  (by decide +kernel)
theorem dX2_advance_162 : decode cX2_advance 162 = .ok (.getfield 26, 3) := od_180 (a := 0) (b := 26) (by decide +kernel) (by decide)
theorem dX2_advance_165 : decode cX2_advance 165 = .ok (.if_icmp .ge 75, 3) := od_162 (a := 0) (b := 75) (by decide +kernel) (by decide +kernel)
theorem dX2_advance_168 : decode cX2_advance 168 = .ok (.aload_n 0, 1) := od_42  (by decide +kernel)
theorem dX2_advance_169 : decode cX2_advance 169 = .ok (.getfield 11, 3) := od_180 (a := 0) (b := 11) (by decide +kernel) (by decide)
theorem dX2_advance_172 : decode cX2_advance 172 = .ok (.aload_n 0, 1) := od_42  (by decide +kernel)
theorem dX2_advance_173 : decode cX2_advance 173 = .ok (.getfield 29, 3) := od_180 (a := 0) (b := 29) (by decide +kernel) (by decide)
theorem dX2_advance_176 : decode cX2_advance 176 = .ok (.caload, 1) := od_52  (by decide +kernel)
theorem dX2_advance_177 : decode cX2_advance 177 = .ok (.invokestatic 202, 3) := od_184 (a := 0) (b := 202) (by decide +kernel) (by decide)
theorem dX2_advance_180 : decode cX2_advance 180 = .ok (.ifCond .eq 60, 3) := od_153 (a := 0) (b := 60) (by decide +kernel) (by decide +kernel)
theorem dX2_advance_183 : decode cX2_advance 183 = .ok (.aload_n 0, 1) := od_42  (by decide +kernel)
theorem dX2_advance_184 : decode cX2_advance 184 = .ok (.ldc 205, 2) := od_18 (n := 205) (by decide +kernel)
theorem dX2_advance_186 : decode cX2_advance 186 = .ok (.aload_n 0, 1) := od_42  (by decide +kernel)
theorem dX2_advance_187 : decode cX2_advance 187 = .ok (.getfield 99, 3) := od_180 (a := 0) (b := 99) (by decide +kernel) (by decide)
theorem dX2_advance_190 : decode cX2_advance 190 = .ok (.bipush 10, 2) := od_16 (a := 10) (by decide +kernel) (by decide +kernel)
theorem dX2_advance_192 : decode cX2_advance 192 = .ok (.imul, 1) := od_104  (by decide +kernel)
theorem dX2_advance_193 : decode cX2_advance 193 = .ok (.aload_n 0, 1) := od_42  (by decide +kernel)
theorem dX2_advance_194 : decode cX2_advance 194 = .ok (.getfield 11, 3) := od_180 (a := 0) (b := 11) (by decide +kernel) (by decide)
theorem dX2_advance_197 : decode cX2_advance 197 = .ok (.aload_n 0, 1) := od_42  (by decide +kernel)
theorem dX2_advance_198 : decode cX2_advance 198 = .ok (.getfield 29, 3) := od_180 (a := 0) (b := 29) (by decide +kernel) (by decide)
theorem dX2_advance_201 : decode cX2_advance 201 = .ok (.caload, 1) := od_52  (by decide +kernel)
theorem dX2_advance_202 : decode cX2_advance 202 = .ok (.iadd, 1) := od_96  (by decide +kernel)
theorem dX2_advance_203 : decode cX2_advance 203 = .ok (.bipush 48, 2) := od_16 (a := 48) (by decide +kernel) (by decide +kernel)
theorem dX2_advance_205 : decode cX2_advance 205 = .ok (.isub, 1) := od_100  (by decide +kernel)
theorem dX2_advance_206 : decode cX2_advance 206 = .ok (.invokestatic 206, 3) := od_184 (a := 0) (b := 206) (by decide +kernel) (by decide)
theorem dX2_advance_209 : decode cX2_advance 209 = .ok (.putfield 99, 3) := od_181 (a := 0) (b := 99) (by decide +kernel) (by decide)
theorem dX2_advance_212 : decode cX2_advance 212 = .ok (.aload_n 0, 1) := od_42  (by decide +kernel)
theorem dX2_advance_213 : decode cX2_advance 213 = .ok (.dup, 1) := od_89  (by decide +kernel)
theorem dX2_advance_214 : decode cX2_advance 214 = .ok (.getfield 29, 3) := od_180 (a := 0) (b := 29) (by decide +kernel) (by decide)
theorem dX2_advance_217 : decode cX2_advance 217 = .ok (.iconst 1, 1) := od_4  (by decide +kernel)
theorem dX2_advance_218 : decode cX2_advance 218 = .ok (.iadd, 1) := od_96  (by decide +kernel)
theorem dX2_advance_219 : decode cX2_advance 219 = .ok (.putfield 29, 3) := od_181 (a := 0) (b := 29) (by decide +kernel) (by decide)
theorem dX2_advance_222 : decode cX2_advance 222 = .ok (.goto (-65), 3) := od_167 (a := 255) (b := 191) (by decide +kernel) (by decide +kernel)
theorem dX2_advance_225 : decode cX2_advance 225 = .ok (.aload_n 0, 1) := od_42  (by decide +kernel)
theorem dX2_advance_226 : decode cX2_advance 226 = .ok (.iconst 3, 1) := od_6  (by decide +kernel)
theorem dX2_advance_227 : decode cX2_advance 227 = .ok (.putfield 77, 3) := od_181 (a := 0) (b := 77) (by decide +kernel) (by decide)
theorem dX2_advance_230 : decode cX2_advance 230 = .ok (.aload_n 0, 1) := od_42  (by decide +kernel)
theorem dX2_advance_231 : decode cX2_advance 231 = .ok (.dup, 1) := od_89  (by decide +kernel)
theorem dX2_advance_232 : decode cX2_advance 232 = .ok (.getfield 29, 3) := od_180 (a := 0) (b := 29) (by decide +kernel) (by decide)
theorem dX2_advance_235 : decode cX2_advance 235 = .ok (.iconst 1, 1) := od_4  (by decide +kernel)
theorem dX2_advance_236 : decode cX2_advance 236 = .ok (.iadd, 1) := od_96  (by decide +kernel)
theorem dX2_advance_237 : decode cX2_advance 237 = .ok (.putfield 29, 3) := od_181 (a := 0) (b := 29) (by decide +kernel) (by decide)
theorem dX2_advance_240 : decode cX2_advance 240 = .ok (.return_, 1) := od_177  (by decide +kernel)
theorem dX2_isLetter_0 : decode cX2_isLetter 0 = .ok (.iload_n 0, 1) := od_26  (by decide +kernel)
theorem dX2_isLetter_1 : decode cX2_isLetter 1 = .ok (.bipush 97, 2) := od_16 (a := 97) (by decide +kernel) (by decide +kernel)
theorem dX2_isLetter_3 : decode cX2_isLetter 3 = .ok (.if_icmp .lt 13, 3) := od_161 (a := 0) (b := 13) (by decide +kernel) (by decide +kernel)
theorem dX2_isLetter_6 : decode cX2_isLetter 6 = .ok (.iload_n 0, 1) := od_26  (by decide +kernel)
theorem dX2_isLetter_7 : decode cX2_isLetter 7 = .ok (.bipush 122, 2) := od_16 (a := 122) (by decide +kernel) (by decide +kernel)
theorem dX2_isLetter_9 : decode cX2_isLetter 9 = .ok (.if_icmp .gt 7, 3) := od_163 (a := 0) (b := 7) (by decide +kernel) (by decide +kernel)
theorem dX2_isLetter_12 : decode cX2_isLetter 12 = .ok (.iconst 1, 1) := od_4  (by decide +kernel)
theorem dX2_isLetter_13 : decode cX2_isLetter 13 = .ok (.goto 4, 3) := od_167 (a := 0) (b := 4) (by decide +kernel) (by decide +kernel)
theorem dX2_isLetter_16 : decode cX2_isLetter 16 = .ok (.iconst 0, 1) := od_3  (by decide +kernel)
theorem dX2_isLetter_17 : decode cX2_isLetter 17 = .ok (.ireturn, 1) := od_172  (by decide +kernel)
theorem dX2_isDigit_0 : decode cX2_isDigit 0 = .ok (.iload_n 0, 1) := od_26  (by decide +kernel)
theorem dX2_isDigit_1 : decode cX2_isDigit 1 = .ok (.bipush 48, 2) := od_16 (a := 48) (by decide +kernel) (by decide +kernel)
theorem dX2_isDigit_3 : decode cX2_isDigit 3 = .ok (.if_icmp .lt 13, 3) := od_161 (a := 0) (b := 13) (by decide +kernel) (by decide +kernel)
theorem dX2_isDigit_6 : decode cX2_isDigit 6 = .ok (.iload_n 0, 1) := od_26  (by decide +kernel)
theorem dX2_isDigit_7 : decode cX2_isDigit 7 = .ok (.bipush 57, 2) := od_16 (a := 57) (by decide +kernel) (by decide +kernel)
theorem dX2_isDigit_9 : decode cX2_isDigit 9 = .ok (.if_icmp .gt 7, 3) := od_163 (a := 0) (b := 7) (by decide +kernel) (by decide +kernel)
theorem dX2_isDigit_12 : decode cX2_isDigit 12 = .ok (.iconst 1, 1) := od_4  (by decide +kernel)
theorem dX2_isDigit_13 : decode cX2_isDigit 13 = .ok (.goto 4, 3) := od_167 (a := 0) (b := 4) (by decide +kernel) (by decide +kernel)
theorem dX2_isDigit_16 : decode cX2_isDigit 16 = .ok (.iconst 0, 1) := od_3  (by decide +kernel)
theorem dX2_isDigit_17 : decode cX2_isDigit 17 = .ok (.ireturn, 1) := od_172  (by decide +kernel)
theorem dX2_emit_0 : decode cX2_emit 0 = .ok (.aload_n 0, 1) := od_42  (by decide +kernel)
theorem dX2_emit_1 : decode cX2_emit 1 = .ok (.getfield 32, 3) := od_180 (a := 0) (b := 32) (by decide +kernel) (by decide)
theorem dX2_emit_4 : decode cX2_emit 4 = .ok (.aload_n 0, 1) := od_42  (by decide +kernel)
theorem dX2_emit_5 : decode cX2_emit 5 = .ok (.getfield 19, 3) := od_180 (a := 0) (b := 19) (by decide +kernel) (by decide)
theorem dX2_emit_8 : decode cX2_emit 8 = .ok (.arraylength, 1) := od_190  (by decide +kernel)
theorem dX2_emit_9 : decode cX2_emit 9 = .ok (.if_icmp .ge 23, 3) := od_162 (a := 0) (b := 23) (by decide +kernel) (by decide +kernel)
theorem dX2_emit_12 : decode cX2_emit 12 = .ok (.aload_n 0, 1) := od_42  (by decide +kernel)
theorem dX2_emit_13 : decode cX2_emit 13 = .ok (.getfield 19, 3) := od_180 (a := 0) (b := 19) (by decide +kernel) (by decide)
theorem dX2_emit_16 : decode cX2_emit 16 = .ok (.aload_n 0, 1) := od_42  (by decide +kernel)
theorem dX2_emit_17 : decode cX2_emit 17 = .ok (.getfield 32, 3) := od_180 (a := 0) (b := 32) (by decide +kernel) (by decide)
theorem dX2_emit_20 : decode cX2_emit 20 = .ok (.iload_n 1, 1) := od_27  (by decide +kernel)
theorem dX2_emit_21 : decode cX2_emit 21 = .ok (.iastore, 1) := od_79  (by decide +kernel)
theorem dX2_emit_22 : decode cX2_emit 22 = .ok (.aload_n 0, 1) := od_42  (by decide +kernel)
theorem dX2_emit_23 : decode cX2_emit 23 = .ok (.dup, 1) := od_89  (by decide +kernel)
theorem dX2_emit_24 : decode cX2_emit 24 = .ok (.getfield 32, 3) := od_180 (a := 0) (b := 32) (by decide +kernel) (by decide)
theorem dX2_emit_27 : decode cX2_emit 27 = .ok (.iconst 1, 1) := od_4  (by decide +kernel)
theorem dX2_emit_28 : decode cX2_emit 28 = .ok (.iadd, 1) := od_96  (by decide +kernel)
theorem dX2_emit_29 : decode cX2_emit 29 = .ok (.putfield 32, 3) := od_181 (a := 0) (b := 32) (by decide +kernel) (by decide)
theorem dX2_emit_32 : decode cX2_emit 32 = .ok (.return_, 1) := od_177  (by decide +kernel)
theorem gX2_emitJump_X2_emit : GoodIn WALL (wsV RX2 120 RX2 yX2_emit wqX2_emit) := wg_V wa_909 wa_910 wa_911 wa_23 wa_912
theorem dX2_emitJump_0 : decode cX2_emitJump 0 = .ok (.aload_n 0, 1) := od_42  (by decide +kernel)
theorem dX2_emitJump_1 : decode cX2_emitJump 1 = .ok (.iload_n 1, 1) := od_27  (by decide +kernel)
theorem dX2_emitJump_2 : decode cX2_emitJump 2 = .ok (.invokevirtual 120, 3) := od_182 (a := 0) (b := 120) (by decide +kernel) (by decide)
theorem dX2_emitJump_5 : decode cX2_emitJump 5 = .ok (.aload_n 0, 1) := od_42  (by decide +kernel)
theorem dX2_emitJump_6 : decode cX2_emitJump 6 = .ok (.iconst 0, 1) := od_3  (by decide +kernel)
theorem dX2_emitJump_7 : decode cX2_emitJump 7 = .ok (.invokevirtual 120, 3) := od_182 (a := 0) (b := 120) (by decide +kernel) (by decide)
theorem dX2_emitJump_10 : decode cX2_emitJump 10 = .ok (.aload_n 0, 1) := od_42  (by decide +kernel)
theorem dX2_emitJump_11 : decode cX2_emitJump 11 = .ok (.getfield 32, 3) := od_180 (a := 0) (b := 32) (by decide +kernel) (by decide)
theorem dX2_emitJump_14 : decode cX2_emitJump 14 = .ok (.iconst 1, 1) := od_4  (by decide +kernel)
theorem dX2_emitJump_15 : decode cX2_emitJump 15 = .ok (.isub, 1) := od_100  (by decide +kernel)
theorem dX2_emitJump_16 : decode cX2_emitJump 16 = .ok (.ireturn, 1) := od_172  (by decide +kernel)
theorem dX2_land_0 : decode cX2_land 0 = .ok (.iload_n 1, 1) := od_27  (by decide +kernel)
theorem dX2_land_1 : decode cX2_land 1 = .ok (.ifCond .lt 22, 3) := od_155 (a := 0) (b := 22) (by decide +kernel) (by decide +kernel)
theorem dX2_land_4 : decode cX2_land 4 = .ok (.iload_n 1, 1) := od_27  (by decide +kernel)
theorem dX2_land_5 : decode cX2_land 5 = .ok (.aload_n 0, 1) := od_42  (by decide +kernel)
theorem dX2_land_6 : decode cX2_land 6 = .ok (.getfield 19, 3) := od_180 (a := 0) (b := 19) (by decide +kernel) (by decide)
theorem dX2_land_9 : decode cX2_land 9 = .ok (.arraylength, 1) := od_190  (by decide +kernel)
theorem dX2_land_10 : decode cX2_land 10 = .ok (.if_icmp .ge 13, 3) := od_162 (a := 0) (b := 13) (by decide +kernel) (by decide +kernel)
theorem dX2_land_13 : decode cX2_land 13 = .ok (.aload_n 0, 1) := od_42  (by decide +kernel)
theorem dX2_land_14 : decode cX2_land 14 = .ok (.getfield 19, 3) := od_180 (a := 0) (b := 19) (by decide +kernel) (by decide)
theorem dX2_land_17 : decode cX2_land 17 = .ok (.iload_n 1, 1) := od_27  (by decide +kernel)
theorem dX2_land_18 : decode cX2_land 18 = .ok (.aload_n 0, 1) := od_42  (by decide +kernel)
theorem dX2_land_19 : decode cX2_land 19 = .ok (.getfield 32, 3) := od_180 (a := 0) (b := 32) (by decide +kernel) (by decide)
theorem dX2_land_22 : decode cX2_land 22 = .ok (.iastore, 1) := od_79  (by decide +kernel)
theorem dX2_land_23 : decode cX2_land 23 = .ok (.return_, 1) := od_177  (by decide +kernel)
theorem gJ0_length_8abf5_J0_coder_7d493 : GoodIn WALL (wsV RJ0 335 RJ0 yJ0_coder_7d493 wqJ0_coder_7d493) := wg_V wa_843 wa_844 wa_845 wa_840 wa_846
theorem dJ0_length_8abf5_0 : decode cJ0_length_8abf5 0 = .ok (.aload_n 0, 1) := od_42  (by decide +kernel)
theorem dJ0_length_8abf5_1 : decode cJ0_length_8abf5 1 = .ok (.getfield 9, 3) := od_180 (a := 0) (b := 9) (by decide +kernel) (by decide)
theorem dJ0_length_8abf5_4 : decode cJ0_length_8abf5 4 = .ok (.arraylength, 1) := od_190  (by decide +kernel)
theorem dJ0_length_8abf5_5 : decode cJ0_length_8abf5 5 = .ok (.aload_n 0, 1) := od_42  (by decide +kernel)
theorem dJ0_length_8abf5_6 : decode cJ0_length_8abf5 6 = .ok (.invokevirtual 335, 3) := od_182 (a := 1) (b := 79) (by decide +kernel) (by decide)
theorem dJ0_length_8abf5_9 : decode cJ0_length_8abf5 9 = .ok (.ishr, 1) := od_122  (by decide +kernel)
theorem dJ0_length_8abf5_10 : decode cJ0_length_8abf5 10 = .ok (.ireturn, 1) := od_172  (by decide +kernel)
theorem gJ0_charAt_5068e_J0_isLatin1_aae02 : GoodIn WALL (wsV RJ0 492 RJ0 yJ0_isLatin1_aae02 wqJ0_isLatin1_aae02) := wg_V wa_853 wa_854 wa_855 wa_840 wa_856
theorem gJ0_charAt_5068e_J1_charAt_3b067 : GoodIn WALL (va_wsS RJ0 495 yJ1_charAt_3b067 wqJ1_charAt_3b067) := wg_S wa_857 wa_858 wa_859 wa_860
theorem dJ0_charAt_5068e_0 : decode cJ0_charAt_5068e 0 = .ok (.aload_n 0, 1) := od_42  (by decide +kernel)
theorem dJ0_charAt_5068e_1 : decode cJ0_charAt_5068e 1 = .ok (.invokevirtual 492, 3) := od_182 (a := 1) (b := 236) (by decide +kernel) (by decide)
theorem dJ0_charAt_5068e_4 : decode cJ0_charAt_5068e 4 = .ok (.ifCond .eq 12, 3) := od_153 (a := 0) (b := 12) (by decide +kernel) (by decide +kernel)
theorem dJ0_charAt_5068e_7 : decode cJ0_charAt_5068e 7 = .ok (.aload_n 0, 1) := od_42  (by decide +kernel)
theorem dJ0_charAt_5068e_8 : decode cJ0_charAt_5068e 8 = .ok (.getfield 9, 3) := od_180 (a := 0) (b := 9) (by decide +kernel) (by decide)
theorem dJ0_charAt_5068e_11 : decode cJ0_charAt_5068e 11 = .ok (.iload_n 1, 1) := od_27  (by decide +kernel)
theorem dJ0_charAt_5068e_12 : decode cJ0_charAt_5068e 12 = .ok (.invokestatic 495, 3) := od_184 (a := 1) (b := 239) (by decide +kernel) (by decide)
theorem dJ0_charAt_5068e_15 : decode cJ0_charAt_5068e 15 = .ok (.ireturn, 1) := od_172  (by decide +kernel)
theorem dJ0_coder_7d493_0 : decode cJ0_coder_7d493 0 = .ok (.getstatic 38, 3) := od_178 (a := 0) (b := 38) (by decide +kernel) (by decide)
theorem dJ0_coder_7d493_3 : decode cJ0_coder_7d493 3 = .ok (.ifCond .eq 10, 3) := od_153 (a := 0) (b := 10) (by decide +kernel) (by decide +kernel)
theorem dJ0_coder_7d493_6 : decode cJ0_coder_7d493 6 = .ok (.aload_n 0, 1) := od_42  (by decide +kernel)
theorem dJ0_coder_7d493_7 : decode cJ0_coder_7d493 7 = .ok (.getfield 15, 3) := od_180 (a := 0) (b := 15) (by decide +kernel) (by decide)
theorem dJ0_coder_7d493_10 : decode cJ0_coder_7d493 10 = .ok (.goto 4, 3) := od_167 (a := 0) (b := 4) (by decide +kernel) (by decide +kernel)
theorem dJ0_coder_7d493_14 : decode cJ0_coder_7d493 14 = .ok (.ireturn, 1) := od_172  (by decide +kernel)
theorem dJ0_isLatin1_aae02_0 : decode cJ0_isLatin1_aae02 0 = .ok (.getstatic 38, 3) := od_178 (a := 0) (b := 38) (by decide +kernel) (by decide)
theorem dJ0_isLatin1_aae02_3 : decode cJ0_isLatin1_aae02 3 = .ok (.ifCond .eq 14, 3) := od_153 (a := 0) (b := 14) (by decide +kernel) (by decide +kernel)
theorem dJ0_isLatin1_aae02_6 : decode cJ0_isLatin1_aae02 6 = .ok (.aload_n 0, 1) := od_42  (by decide +kernel)
theorem dJ0_isLatin1_aae02_7 : decode cJ0_isLatin1_aae02 7 = .ok (.getfield 15, 3) := od_180 (a := 0) (b := 15) (by decide +kernel) (by decide)
theorem dJ0_isLatin1_aae02_10 : decode cJ0_isLatin1_aae02 10 = .ok (.ifCond .ne 7, 3) := od_154 (a := 0) (b := 7) (by decide +kernel) (by decide +kernel)
theorem dJ0_isLatin1_aae02_13 : decode cJ0_isLatin1_aae02 13 = .ok (.iconst 1, 1) := od_4  (by decide +kernel)
theorem dJ0_isLatin1_aae02_14 : decode cJ0_isLatin1_aae02 14 = .ok (.goto 4, 3) := od_167 (a := 0) (b := 4) (by decide +kernel) (by decide +kernel)
theorem dJ0_isLatin1_aae02_18 : decode cJ0_isLatin1_aae02 18 = .ok (.ireturn, 1) := od_172  (by decide +kernel)
theorem gJ0_checkIndex_df160_J3_checkIndex_8e157 : GoodIn WALL (va_wsS RJ0 1059 yJ3_checkIndex_8e157 wqJ3_checkIndex_8e157) := wg_S wa_865 wa_866 wa_867 wa_868
theorem dJ0_checkIndex_df160_0 : decode cJ0_checkIndex_df160 0 = .ok (.iload_n 0, 1) := od_26  (by decide +kernel)
theorem dJ0_checkIndex_df160_1 : decode cJ0_checkIndex_df160 1 = .ok (.iload_n 1, 1) := od_27  (by decide +kernel)
theorem dJ0_checkIndex_df160_2 : decode cJ0_checkIndex_df160 2 = .ok (.getstatic 1053, 3) := od_178 (a := 4) (b := 29) (by decide +kernel) (by decide)
theorem dJ0_checkIndex_df160_5 : decode cJ0_checkIndex_df160 5 = .ok (.invokestatic 1059, 3) := od_184 (a := 4) (b := 35) (by decide +kernel) (by decide)
theorem dJ0_checkIndex_df160_8 : decode cJ0_checkIndex_df160 8 = .ok (.pop, 1) := od_87  (by decide +kernel)
theorem dJ0_checkIndex_df160_9 : decode cJ0_checkIndex_df160 9 = .ok (.return_, 1) := od_177  (by decide +kernel)
theorem gJ1_charAt_3b067_J0_checkIndex_df160 : GoodIn WALL (va_wsS RJ1 9 yJ0_checkIndex_df160 wqJ0_checkIndex_df160) := wg_S wa_861 wa_862 wa_840 wa_863
theorem dJ1_charAt_3b067_0 : decode cJ1_charAt_3b067 0 = .ok (.iload_n 1, 1) := od_27  (by decide +kernel)
theorem dJ1_charAt_3b067_1 : decode cJ1_charAt_3b067 1 = .ok (.aload_n 0, 1) := od_42  (by decide +kernel)
theorem dJ1_charAt_3b067_2 : decode cJ1_charAt_3b067 2 = .ok (.arraylength, 1) := od_190  (by decide +kernel)
theorem dJ1_charAt_3b067_3 : decode cJ1_charAt_3b067 3 = .ok (.invokestatic 9, 3) := od_184 (a := 0) (b := 9) (by decide +kernel) (by decide)
theorem dJ1_charAt_3b067_6 : decode cJ1_charAt_3b067 6 = .ok (.aload_n 0, 1) := od_42  (by decide +kernel)
theorem dJ1_charAt_3b067_7 : decode cJ1_charAt_3b067 7 = .ok (.iload_n 1, 1) := od_27  (by decide +kernel)
theorem dJ1_charAt_3b067_8 : decode cJ1_charAt_3b067 8 = .ok (.baload, 1) := od_51  (by decide +kernel)
theorem dJ1_charAt_3b067_9 : decode cJ1_charAt_3b067 9 = .ok (.sipush 255, 3) := od_17 (a := 0) (b := 255) (by decide +kernel) (by decide +kernel)
theorem dJ1_charAt_3b067_12 : decode cJ1_charAt_3b067 12 = .ok (.iand, 1) := od_126  (by decide +kernel)
theorem dJ1_charAt_3b067_13 : decode cJ1_charAt_3b067 13 = .ok (.i2c, 1) := od_146  (by decide +kernel)
theorem dJ1_charAt_3b067_14 : decode cJ1_charAt_3b067 14 = .ok (.ireturn, 1) := od_172  (by decide +kernel)
theorem dJ3_checkIndex_8e157_0 : decode cJ3_checkIndex_8e157 0 = .ok (.iload_n 0, 1) := od_26  (by decide +kernel)
theorem dJ3_checkIndex_8e157_1 : decode cJ3_checkIndex_8e157 1 = .ok (.ifCond .lt 8, 3) := od_155 (a := 0) (b := 8) (by decide +kernel) (by decide +kernel)
theorem dJ3_checkIndex_8e157_4 : decode cJ3_checkIndex_8e157 4 = .ok (.iload_n 0, 1) := od_26  (by decide +kernel)
theorem dJ3_checkIndex_8e157_5 : decode cJ3_checkIndex_8e157 5 = .ok (.iload_n 1, 1) := od_27  (by decide +kernel)
theorem dJ3_checkIndex_8e157_6 : decode cJ3_checkIndex_8e157 6 = .ok (.if_icmp .lt 10, 3) := od_161 (a := 0) (b := 10) (by decide +kernel) (by decide +kernel)
theorem dJ3_checkIndex_8e157_16 : decode cJ3_checkIndex_8e157 16 = .ok (.iload_n 0, 1) := od_26  (by decide +kernel)
theorem dJ3_checkIndex_8e157_17 : decode cJ3_checkIndex_8e157 17 = .ok (.ireturn, 1) := od_172  (by decide +kernel)
end
section
set_option maxHeartbeats 4000000 in
set_option maxRecDepth 100000 in
theorem t_X2_hasRoom (l : Launch) (dC : Nat → ClassId) (dI : Nat → Nat → Nat) (sz : Nat) (Ω : Nat → Nat → (Nat → Nat) → va_E → Prop) (κ : Nat → ClassId) (τ ν : Nat → Nat) (ρ : Nat → Nat → Nat) (L : List Nat) (f : Nat → va_E) (hG : tp_G τ ν ρ L) (hT : tp_T Ω κ τ ν ρ f) (h0 : Nat) (ht_h0 : τ h0 = 3) (h0_x1 : Int32) (h0_x2 : Int32) (h0_x3 : Int32) (h0_x4 : Int32) (h0_x5 : Int32) (h0_x6 : Int32) (h0_x8 : Int32) (h0_x10 : Int32) (h0_x11 : Int32) (h0_x12 : Int32) (h0_x13 : Int32) (h0_x14 : Int32) (h0_x15 : Int32) (hf_h0 : f h0 = .inr (2, [.ref (ρ h0 0), .int h0_x1, .int h0_x2, .int h0_x3, .int h0_x4, .int h0_x5, .int h0_x6, .ref (ρ h0 7), .int h0_x8, .ref (ρ h0 9), .int h0_x10, .int h0_x11, .int h0_x12, .int h0_x13, .int h0_x14, .int h0_x15])) : Met l yX2_hasRoom wqX2_hasRoom ({ frames := 2, cells := 0, slots := 0, locals := 400 }) (va_Pc [.ref h0] (pz_B dC dI (tp_K κ) (va_pl L f) sz)) (vp_Si (fun r => (0 ≤ r.toInt ∧ r.toInt ≤ 1) ∧ tp_cond r (h0_x1.toInt + 20 ≤ 400))) 0 0 (fun _ => False) := by
  refine Met.ofW (cc := cX2_hasRoom) (maxL := 1) (ret := some .boolean) (by decide) rfl ?_
  intro p e s m args below meth c s₁ B hml hv
  obtain ⟨rfl, hsz, hP, hK, hD0, hN⟩ := hv
  have hx := B.exec
  have hb := B.bytes
  have hr := B.returns
  have hts := fun (w : Cond) (h : w ∈ WALL) => atoms_spec (ws := wqX2_hasRoom) B.pre w (List.mem_cons_of_mem _ h)
  have hown : s.vm.findClass RX2 = some m.cls := findClass_of_methodNamed B.named
  have hlocks := B.notSynchronized
  subst hsz
  have hD := hD0
  have hS : va_S (fun _ => True) s.heap s.heap [] := va_S.rf
  have hl := lv_entry ([.ref h0]) (n := 1) (Nat.le_of_ble_eq_true rfl)
  rw [lg_entry_eq]
  generalize (lg_sl ([.ref h0]) ++ List.replicate (1 - (lg_sl ([.ref h0])).length) Slot.unset).toArray = ls at hl ⊢
  have hl : lv_has ls 1 [(0, .ref h0)] := hl
  refine tpk_3 hT ht_h0 (fun h0z_x1 h0z_x2 h0z_x3 h0z_x4 h0z_x5 h0z_x6 h0z_x8 h0z_x10 h0z_x11 h0z_x12 h0z_x13 h0z_x14 h0z_x15 hfz_h0 rzh0_0 rzh0_1 rzh0_2 rzh0_3 rzh0_4 rzh0_5 rzh0_6 => ?_)
  obtain ⟨rfl, rfl, rfl, rfl, rfl, rfl, rfl, rfl, rfl, rfl, rfl, rfl, rfl⟩ := tp_same3 hf_h0 hfz_h0
  refine lv_aload_n hx hb dX2_hasRoom_0 rfl (lv_at hl 0 rfl) ?_
  refine tpk_pos (tp_in hG ht_h0 (by decide)) hf_h0 (fun q1 eq1 => ?_)
  have rzh0_0 := tp_hu rzh0_0
  refine va_get (D := (dC, dI)) (ci := 2) (v := .int h0_x1) (C := RX2) (T := TX2) (N := 16) hx hb hts hfX2 hown hK hP q1 eq1 rfl 1 (by decide) (hts (.fieldLink RX2 26 "ColdShips$Reader" "size" "I") wa_765) (fun _ h9 => h9) rfl dX2_hasRoom_1 ?_
  refine lv_bipush (v := 20) hx hb dX2_hasRoom_4 (by decide) ?_
  refine lv_iadd hx hb dX2_hasRoom_6 ?_
  refine lv_topi (fun z2 ez2 => ?_)
  have iz2 : z2.toInt = h0_x1.toInt + 20 := zi_add ez2 rfl rfl (by omega) (by omega)
  refine lv_sipush (v := 400) hx hb dX2_hasRoom_7 (by decide) ?_
  refine lv_icmp_gt (tgt := 17) hx hb dX2_hasRoom_10 (by decide) (fun c3 => ?_) (fun c3 => ?_)
  · have ic3 : z2.toInt > 400 := zi_gt rfl rfl c3
    refine lv_iconst (v := 0) hx hb dX2_hasRoom_17 (by decide) ?_
    exact W.zret (v := 0) hx hb hr rfl (fun t ht hW => ⟨0, rfl, ⟨(by first | decide | omega), (Or.inr ⟨rfl, by omega⟩)⟩, ht⟩) (fun _ h => by cases h) dX2_hasRoom_18
  · have ic3 : z2.toInt ≤ 400 := zi_gtf rfl rfl c3
    refine lv_iconst (v := 1) hx hb dX2_hasRoom_13 (by decide) ?_
    refine lv_goto (tgt := 18) hx hb dX2_hasRoom_14 (by decide) ?_
    exact W.zret (v := 1) hx hb hr rfl (fun t ht hW => ⟨1, rfl, ⟨(by first | decide | omega), (Or.inl ⟨rfl, by omega⟩)⟩, ht⟩) (fun _ h => by cases h) dX2_hasRoom_18
set_option maxHeartbeats 4000000 in
set_option maxRecDepth 100000 in
theorem t_X2_addFour (l : Launch) (dC : Nat → ClassId) (dI : Nat → Nat → Nat) (sz : Nat) (Ω : Nat → Nat → (Nat → Nat) → va_E → Prop) (κ : Nat → ClassId) (τ ν : Nat → Nat) (ρ : Nat → Nat → Nat) (L : List Nat) (f : Nat → va_E) (hG : tp_G τ ν ρ L) (hT : tp_T Ω κ τ ν ρ f) (h0 : Nat) (v : Int32) (ht_h0 : τ h0 = 3) (h0_x1 : Int32) (h0_x2 : Int32) (h0_x3 : Int32) (h0_x4 : Int32) (h0_x5 : Int32) (h0_x6 : Int32) (h0_x8 : Int32) (h0_x10 : Int32) (h0_x11 : Int32) (h0_x12 : Int32) (h0_x13 : Int32) (h0_x14 : Int32) (h0_x15 : Int32) (hf_h0 : f h0 = .inr (2, [.ref (ρ h0 0), .int h0_x1, .int h0_x2, .int h0_x3, .int h0_x4, .int h0_x5, .int h0_x6, .ref (ρ h0 7), .int h0_x8, .ref (ρ h0 9), .int h0_x10, .int h0_x11, .int h0_x12, .int h0_x13, .int h0_x14, .int h0_x15])) (h9 : h0_x1.toInt ≤ 396) : Met l yX2_addFour wqX2_addFour ({ frames := 2, cells := 0, slots := 0, locals := 400 }) (va_Pc [.ref h0, .int v] (pz_B dC dI (tp_K κ) (va_pl L f) sz)) (va_Qv (fun (f1 : Nat → va_E) => tp_T Ω κ τ ν ρ f1 ∧ tp_F τ [3, 22] f f1 ∧ ((tp_fld (f1 h0) 1) = h0_x1.toInt + 4)) (fun (f1 : Nat → va_E) (t : State) => pz_E dC dI (tp_K κ) (va_A (va_pl L f) sz) (va_pl L f1) t) (va_A (va_pl L f) sz)) 0 0 (va_A (va_pl L f) sz) := by
  refine Met.ofW (cc := cX2_addFour) (maxL := 3) (ret := none) (by decide) rfl ?_
  intro p e s m args below meth c s₁ B hml hv
  obtain ⟨rfl, hsz, hP, hK, hD0, hN⟩ := hv
  have hx := B.exec
  have hb := B.bytes
  have hr := B.returns
  have hts := fun (w : Cond) (h : w ∈ WALL) => atoms_spec (ws := wqX2_addFour) B.pre w (List.mem_cons_of_mem _ h)
  have hown : s.vm.findClass RX2 = some m.cls := findClass_of_methodNamed B.named
  have hlocks := B.notSynchronized
  subst hsz
  have hD := hD0.self (sz := s.heap.size)
  generalize hAe : va_A (va_pl L f) s.heap.size = A at hD ⊢
  have hA : ∀ q : Nat, s.heap.size ≤ q → A q := fun q h => by rw [← hAe]; exact Or.inr h
  have hS : va_S A s.heap s.heap [] := va_S.rf
  have hR : tp_F τ [3, 22] f f := tp_F.rf
  have hl := lv_entry ([.ref h0, .int v]) (n := 3) (Nat.le_of_ble_eq_true rfl)
  rw [lg_entry_eq]
  generalize (lg_sl ([.ref h0, .int v]) ++ List.replicate (3 - (lg_sl ([.ref h0, .int v])).length) Slot.unset).toArray = ls at hl ⊢
  have hl : lv_has ls 3 [(0, .ref h0), (1, .int v)] := hl
  refine tpk_3 hT ht_h0 (fun h0z_x1 h0z_x2 h0z_x3 h0z_x4 h0z_x5 h0z_x6 h0z_x8 h0z_x10 h0z_x11 h0z_x12 h0z_x13 h0z_x14 h0z_x15 hfz_h0 rzh0_0 rzh0_1 rzh0_2 rzh0_3 rzh0_4 rzh0_5 rzh0_6 => ?_)
  obtain ⟨rfl, rfl, rfl, rfl, rfl, rfl, rfl, rfl, rfl, rfl, rfl, rfl, rfl⟩ := tp_same3 hf_h0 hfz_h0
  refine lv_bipush (v := 24) hx hb dX2_addFour_0 (by decide) ?_
  refine lv_istore_n (lv' := [(2, .int 24), (0, .ref h0), (1, .int v)]) hx hb dX2_addFour_2 rfl hl (by decide) rfl (fun ls hl => ?_)
  have rzh0_0 := tp_hu rzh0_0
  refine pz_loop (fun n0 H locs ls => ∃ f5 : Nat → va_E, ∃ w1 : Int32, ∃ w2 : Int32, n0 = ((w2.toInt) + 8).toNat ∧ tp_T Ω κ τ ν ρ f5 ∧ tp_F τ [3, 22] f f5 ∧ f5 h0 = .inr (2, [.ref (ρ h0 0), .int w1, .int h0_x2, .int h0_x3, .int h0_x4, .int h0_x5, .int h0_x6, .ref (ρ h0 7), .int h0_x8, .ref (ρ h0 9), .int h0_x10, .int h0_x11, .int h0_x12, .int h0_x13, .int h0_x14, .int h0_x15]) ∧ (0 ≤ w1.toInt ∧ w1.toInt ≤ 400) ∧ ((-8) ≤ w2.toInt ∧ w2.toInt ≤ 24) ∧ (8 * (w1.toInt) = 8 * h0_x1.toInt + 24 - (w2.toInt)) ∧ va_P (dC, dI) vwCl (va_pl L f5) H ∧ va_D A (va_pl L f5) ∧ va_S A s.heap H locs ∧ lv_has ls 3 [(2, .int w2), (0, .ref h0), (1, .int v)]) ?_ _ _ _ _ ⟨f, h0_x1, 24, rfl, hT, hR, hf_h0, (by have : (24 : Int32).toInt = 24 := rfl; omega), (by have : (24 : Int32).toInt = 24 := rfl; omega), (by have : (24 : Int32).toInt = 24 := rfl; omega), hP, hD, hS, lv_sub hl [0, 1, 2] rfl⟩
  intro n0 H locs ls hI ih6
  refine Exists.elim hI (fun f5 hE90 => Exists.elim hE90 (fun w1 hE91 => Exists.elim hE91 (fun w2 hE92 => tn_11 hE92 (fun hn7 hT hR hk4k rw1 rw2 k3 hP hD hS hl => ?_))))
  clear hE92 hE91 hE90 hI
  refine lv_iload_n hx hb dX2_addFour_3 rfl (lv_at hl 0 rfl) ?_
  refine lv_if_lt (tgt := 50) hx hb dX2_addFour_4 (by decide) (fun c8 => ?_) (fun c8 => ?_)
  · have ic8 : w2.toInt < 0 := zi_lt rfl rfl c8
    have tv9 : tp_fld (f5 h0) 1 = w1.toInt := by rw [hk4k]; rfl
    exact W.vret hx hb hr (fun t ht hW => ⟨⟨f5, rfl, ⟨hT, hR, (by first | (rw [tv9]; done) | (rw [tv9]; exact (by omega)))⟩, by rw [ht]; exact hP, va_K.moved hW.alike hK, hD⟩, hS.F ht⟩) hS.2.2 dX2_addFour_50
  · have ic8 : w2.toInt ≥ 0 := zi_ltf rfl rfl c8
    refine lv_aload_n hx hb dX2_addFour_7 rfl (lv_at hl 1 rfl) ?_
    refine tpk_pos (tp_in hG ht_h0 (by decide)) hk4k (fun q10 eq10 => ?_)
    refine va_get (D := (dC, dI)) (ci := 2) (v := .int w1) (C := RX2) (T := TX2) (N := 16) hx hb hts hfX2 hown hK hP q10 eq10 rfl 1 (by decide) (hts (.fieldLink RX2 26 "ColdShips$Reader" "size" "I") wa_765) (fun _ h9 => h9) rfl dX2_addFour_8 ?_
    refine lv_sipush (v := 400) hx hb dX2_addFour_11 (by decide) ?_
    refine lv_icmp_ge (tgt := 50) hx hb dX2_addFour_14 (by decide) (fun c11 => ?_) (fun c11 => ?_)
    · have ic11 : w1.toInt ≥ 400 := zi_ge rfl rfl c11
      have tv12 : tp_fld (f5 h0) 1 = w1.toInt := by rw [hk4k]; rfl
      exact W.vret hx hb hr (fun t ht hW => ⟨⟨f5, rfl, ⟨hT, hR, (by first | (rw [tv12]; done) | (rw [tv12]; exact (by omega)))⟩, by rw [ht]; exact hP, va_K.moved hW.alike hK, hD⟩, hS.F ht⟩) hS.2.2 dX2_addFour_50
    · have ic11 : w1.toInt < 400 := zi_gef rfl rfl c11
      refine lv_aload_n hx hb dX2_addFour_17 rfl (lv_at hl 1 rfl) ?_
      refine va_get (D := (dC, dI)) (ci := 2) (v := .ref (ρ h0 0)) (C := RX2) (T := TX2) (N := 16) hx hb hts hfX2 hown hK hP q10 eq10 rfl 0 (by decide) (hts (.fieldLink RX2 11 "ColdShips$Reader" "tape" "[C") wa_119) (fun _ h9 => h9) rfl dX2_addFour_18 ?_
      refine lv_aload_n hx hb dX2_addFour_21 rfl (lv_at hl 1 rfl) ?_
      refine va_get (D := (dC, dI)) (ci := 2) (v := .int w1) (C := RX2) (T := TX2) (N := 16) hx hb hts hfX2 hown hK hP q10 eq10 rfl 1 (by decide) (hts (.fieldLink RX2 26 "ColdShips$Reader" "size" "I") wa_765) (fun _ h9 => h9) rfl dX2_addFour_22 ?_
      refine lv_iload_n hx hb dX2_addFour_25 rfl (lv_at hl 2 rfl) ?_
      refine lv_iload_n hx hb dX2_addFour_26 rfl (lv_at hl 0 rfl) ?_
      refine lv_iushr hx hb dX2_addFour_27 rfl ?_
      refine lv_topi (fun z13 ez13 => ?_)
      refine lv_sipush (v := 255) hx hb dX2_addFour_28 (by decide) ?_
      refine lv_iand hx hb dX2_addFour_31 ?_
      refine lv_topi (fun z14 ez14 => ?_)
      have iz14 : 0 ≤ z14.toInt ∧ z14.toInt ≤ 255 := zb_mask ez14 (by decide)
      refine lv_i2c hx hb dX2_addFour_32 rfl ?_
      refine lv_topi (fun z15 ez15 => ?_)
      have iz15 : z15.toInt = z14.toInt := zi_i2c ez15 rfl (by omega) (by omega)
      refine tgk_3 hG ht_h0 (fun y16 y16n y17 y17n y18 y18n => ?_)
      refine tpk_22 hT y16 y16n (fun g20 hf_o19 => ?_)
      refine tpk_pos (tp_in hG y16 (by decide)) hf_o19 (fun q21 eq21 => ?_)
      refine va_cast hx hb hK hP hD hS q21 2 eq21 rfl (vp_in_iff.mpr ⟨by omega, by omega⟩) dX2_addFour_33 (tp_k (.inl (κ 2, 400, .inl (upd g20 w1.toNatClampNeg (vp_nar .char z15)))) hD (tp_in hG y16 (by decide)) eq21 (fun f22 H locs hP hD hS g24 k23 => ?_))
      have hT := hT.up y16 g24 k23 (tp_o22 y16n)
      have hR := hR.up y16 (by decide) k23
      generalize (upd g20 w1.toNatClampNeg (vp_nar .char z15)) = g25 at g24
      refine lv_aload_n hx hb dX2_addFour_34 rfl (lv_at hl 1 rfl) ?_
      refine lv_dup hx hb dX2_addFour_35 rfl ?_
      have hf_26 : f22 h0 = .inr (2, [.ref (ρ h0 0), .int w1, .int h0_x2, .int h0_x3, .int h0_x4, .int h0_x5, .int h0_x6, .ref (ρ h0 7), .int h0_x8, .ref (ρ h0 9), .int h0_x10, .int h0_x11, .int h0_x12, .int h0_x13, .int h0_x14, .int h0_x15]) := (k23 _ (tp_ne ht_h0 y16 (by decide))).trans hk4k
      refine tpk_pos (tp_in hG ht_h0 (by decide)) hf_26 (fun q27 eq27 => ?_)
      refine va_get (D := (dC, dI)) (ci := 2) (v := .int w1) (C := RX2) (T := TX2) (N := 16) hx hb hts hfX2 hown hK hP q27 eq27 rfl 1 (by decide) (hts (.fieldLink RX2 26 "ColdShips$Reader" "size" "I") wa_765) (fun _ h9 => h9) rfl dX2_addFour_36 ?_
      refine lv_iconst (v := 1) hx hb dX2_addFour_39 (by decide) ?_
      refine lv_iadd hx hb dX2_addFour_40 ?_
      refine lv_topi (fun z28 ez28 => ?_)
      have iz28 : z28.toInt = w1.toInt + 1 := zi_add ez28 rfl rfl (by omega) (by omega)
      refine va_put (D := (dC, dI)) (ci := 2) (v := .int z28) (ty := .int) (C := RX2) (T := TX2) (N := 16) hx hb hts hfX2 tyX2 tyX2_ok nmX2 hown hK hP hD hS q27 eq27 rfl 1 (by decide) (hts (.fieldLink RX2 26 "ColdShips$Reader" "size" "I") wa_765) (fun _ h9 => h9) rfl (tyX2_ok 1 (by decide)) rfl rfl (Nat.le_of_ble_eq_true rfl) dX2_addFour_41 (tp_k (.inr (2, [.ref (ρ h0 0), .int z28, .int h0_x2, .int h0_x3, .int h0_x4, .int h0_x5, .int h0_x6, .ref (ρ h0 7), .int h0_x8, .ref (ρ h0 9), .int h0_x10, .int h0_x11, .int h0_x12, .int h0_x13, .int h0_x14, .int h0_x15])) hD (tp_in hG ht_h0 (by decide)) eq27 (fun f29 H locs hP hD hS g31 k30 => ?_))
      have hT := hT.up ht_h0 g31 k30 ⟨_, _, _, _, _, _, _, _, _, _, _, _, _, rfl, (by first | decide | omega | (omega)), rzh0_1, rzh0_2, rzh0_3, rzh0_4, rzh0_5, rzh0_6⟩
      have hR := hR.up ht_h0 (by decide) k30
      obtain ⟨z32, ez32⟩ : ∃ y : Int32, y = w2 + (-8) := ⟨_, rfl⟩
      refine lv_iinc (v := z32) (lv' := [(2, .int z32), (0, .ref h0), (1, .int v)]) hx hb dX2_addFour_44 hl (k := 0) rfl (by rw [ez32]; rfl) (by decide) rfl (fun ls hl => ?_)
      have iz32 : z32.toInt = w2.toInt + (-8) := zi_add ez32 rfl rfl (by omega) (by omega)
      refine lv_goto (tgt := 3) hx hb dX2_addFour_47 (by decide) ?_
      exact ih6 _ _ _ _ (by rw [hn7]; omega) ⟨f29, z28, z32, rfl, hT, hR, g31, (by omega), (by omega), (by omega), hP, hD, hS, lv_sub hl [0, 1, 2] rfl⟩
set_option maxHeartbeats 4000000 in
set_option maxRecDepth 100000 in
theorem t_X2_emptyTape (l : Launch) (dC : Nat → ClassId) (dI : Nat → Nat → Nat) (sz : Nat) (Ω : Nat → Nat → (Nat → Nat) → va_E → Prop) (κ : Nat → ClassId) (τ ν : Nat → Nat) (ρ : Nat → Nat → Nat) (L : List Nat) (f : Nat → va_E) (hG : tp_G τ ν ρ L) (hT : tp_T Ω κ τ ν ρ f) (h0 : Nat) (ht_h0 : τ h0 = 3) : Met l yX2_emptyTape wqX2_emptyTape ({ frames := 2, cells := 0, slots := 0, locals := 400 }) (va_Pc [.ref h0] (pz_B dC dI (tp_K κ) (va_pl L f) sz)) (va_Qv (fun (f1 : Nat → va_E) => tp_T Ω κ τ ν ρ f1 ∧ tp_F τ [3] f f1 ∧ ((tp_fld (f1 h0) 1) = 0)) (fun (f1 : Nat → va_E) (t : State) => pz_E dC dI (tp_K κ) (va_A (va_pl L f) sz) (va_pl L f1) t) (va_A (va_pl L f) sz)) 0 0 (va_A (va_pl L f) sz) := by
  refine Met.ofW (cc := cX2_emptyTape) (maxL := 1) (ret := none) (by decide) rfl ?_
  intro p e s m args below meth c s₁ B hml hv
  obtain ⟨rfl, hsz, hP, hK, hD0, hN⟩ := hv
  have hx := B.exec
  have hb := B.bytes
  have hr := B.returns
  have hts := fun (w : Cond) (h : w ∈ WALL) => atoms_spec (ws := wqX2_emptyTape) B.pre w (List.mem_cons_of_mem _ h)
  have hown : s.vm.findClass RX2 = some m.cls := findClass_of_methodNamed B.named
  have hlocks := B.notSynchronized
  subst hsz
  have hD := hD0.self (sz := s.heap.size)
  generalize hAe : va_A (va_pl L f) s.heap.size = A at hD ⊢
  have hA : ∀ q : Nat, s.heap.size ≤ q → A q := fun q h => by rw [← hAe]; exact Or.inr h
  have hS : va_S A s.heap s.heap [] := va_S.rf
  have hR : tp_F τ [3] f f := tp_F.rf
  have hl := lv_entry ([.ref h0]) (n := 1) (Nat.le_of_ble_eq_true rfl)
  rw [lg_entry_eq]
  generalize (lg_sl ([.ref h0]) ++ List.replicate (1 - (lg_sl ([.ref h0])).length) Slot.unset).toArray = ls at hl ⊢
  have hl : lv_has ls 1 [(0, .ref h0)] := hl
  refine lv_aload_n hx hb dX2_emptyTape_0 rfl (lv_at hl 0 rfl) ?_
  refine lv_iconst (v := 0) hx hb dX2_emptyTape_1 (by decide) ?_
  refine tgk_3 hG ht_h0 (fun y1 y1n y2 y2n y3 y3n => ?_)
  refine tpk_3 hT ht_h0 (fun o4_x1 o4_x2 o4_x3 o4_x4 o4_x5 o4_x6 o4_x8 o4_x10 o4_x11 o4_x12 o4_x13 o4_x14 o4_x15 hf_o4 ro4_0 ro4_1 ro4_2 ro4_3 ro4_4 ro4_5 ro4_6 => ?_)
  refine tpk_pos (tp_in hG ht_h0 (by decide)) hf_o4 (fun q5 eq5 => ?_)
  refine va_put (D := (dC, dI)) (ci := 2) (v := .int 0) (ty := .int) (C := RX2) (T := TX2) (N := 16) hx hb hts hfX2 tyX2 tyX2_ok nmX2 hown hK hP hD hS q5 eq5 rfl 1 (by decide) (hts (.fieldLink RX2 26 "ColdShips$Reader" "size" "I") wa_765) (fun _ h9 => h9) rfl (tyX2_ok 1 (by decide)) rfl rfl (Nat.le_of_ble_eq_true rfl) dX2_emptyTape_2 (tp_k (.inr (2, [.ref (ρ h0 0), .int 0, .int o4_x2, .int o4_x3, .int o4_x4, .int o4_x5, .int o4_x6, .ref (ρ h0 7), .int o4_x8, .ref (ρ h0 9), .int o4_x10, .int o4_x11, .int o4_x12, .int o4_x13, .int o4_x14, .int o4_x15])) hD (tp_in hG ht_h0 (by decide)) eq5 (fun f6 H locs hP hD hS g8 k7 => ?_))
  have hT := hT.up ht_h0 g8 k7 ⟨_, _, _, _, _, _, _, _, _, _, _, _, _, rfl, (by first | decide | omega | (have : (0 : Int32).toInt = 0 := rfl; omega)), ro4_1, ro4_2, ro4_3, ro4_4, ro4_5, ro4_6⟩
  have hR := hR.up ht_h0 (by decide) k7
  have tv9 : tp_fld (f6 h0) 1 = (0 : Int32).toInt := by rw [g8]; rfl
  have tv9l : (0 : Int32).toInt = 0 := rfl
  exact W.vret hx hb hr (fun t ht hW => ⟨⟨f6, rfl, ⟨hT, hR, (by first | (rw [tv9]; done) | (rw [tv9]; exact (by omega)))⟩, by rw [ht]; exact hP, va_K.moved hW.alike hK, hD⟩, hS.F ht⟩) hS.2.2 dX2_emptyTape_5
set_option maxHeartbeats 4000000 in
set_option maxRecDepth 100000 in
theorem t_X2_isLetter (l : Launch) (dC : Nat → ClassId) (dI : Nat → Nat → Nat) (sz : Nat) (v : Int32) : Met l yX2_isLetter wqX2_isLetter ({ frames := 2, cells := 0, slots := 0, locals := 400 }) (va_Pc [.int v] (pz_B dC dI [] [] sz)) (vp_Si (fun r => (0 ≤ r.toInt ∧ r.toInt ≤ 1) ∧ True)) 0 0 (fun _ => False) := by
  refine Met.ofW (cc := cX2_isLetter) (maxL := 1) (ret := some .boolean) (by decide) rfl ?_
  intro p e s m args below meth c s₁ B hml hv
  obtain ⟨rfl, hsz, hP, hK, hD0, hN⟩ := hv
  have hx := B.exec
  have hb := B.bytes
  have hr := B.returns
  have hts := fun (w : Cond) (h : w ∈ WALL) => atoms_spec (ws := wqX2_isLetter) B.pre w (List.mem_cons_of_mem _ h)
  have hown : s.vm.findClass RX2 = some m.cls := findClass_of_methodNamed B.named
  have hlocks := B.notSynchronized
  subst hsz
  have hD := hD0
  have hS : va_S (fun _ => True) s.heap s.heap [] := va_S.rf
  have hl := lv_entry ([.int v]) (n := 1) (Nat.le_of_ble_eq_true rfl)
  rw [lg_entry_eq]
  generalize (lg_sl ([.int v]) ++ List.replicate (1 - (lg_sl ([.int v])).length) Slot.unset).toArray = ls at hl ⊢
  have hl : lv_has ls 1 [(0, .int v)] := hl
  refine lv_iload_n hx hb dX2_isLetter_0 rfl (lv_at hl 0 rfl) ?_
  refine lv_bipush (v := 97) hx hb dX2_isLetter_1 (by decide) ?_
  refine lv_icmp_lt (tgt := 16) hx hb dX2_isLetter_3 (by decide) (fun c1 => ?_) (fun c1 => ?_)
  · have ic1 : v.toInt < 97 := zi_lt rfl rfl c1
    refine lv_iconst (v := 0) hx hb dX2_isLetter_16 (by decide) ?_
    exact W.zret (v := 0) hx hb hr rfl (fun t ht hW => ⟨0, rfl, ⟨(by first | decide | omega), trivial⟩, ht⟩) (fun _ h => by cases h) dX2_isLetter_17
  · have ic1 : v.toInt ≥ 97 := zi_ltf rfl rfl c1
    refine lv_iload_n hx hb dX2_isLetter_6 rfl (lv_at hl 0 rfl) ?_
    refine lv_bipush (v := 122) hx hb dX2_isLetter_7 (by decide) ?_
    refine lv_icmp_gt (tgt := 16) hx hb dX2_isLetter_9 (by decide) (fun c2 => ?_) (fun c2 => ?_)
    · have ic2 : v.toInt > 122 := zi_gt rfl rfl c2
      refine lv_iconst (v := 0) hx hb dX2_isLetter_16 (by decide) ?_
      exact W.zret (v := 0) hx hb hr rfl (fun t ht hW => ⟨0, rfl, ⟨(by first | decide | omega), trivial⟩, ht⟩) (fun _ h => by cases h) dX2_isLetter_17
    · have ic2 : v.toInt ≤ 122 := zi_gtf rfl rfl c2
      refine lv_iconst (v := 1) hx hb dX2_isLetter_12 (by decide) ?_
      refine lv_goto (tgt := 17) hx hb dX2_isLetter_13 (by decide) ?_
      exact W.zret (v := 1) hx hb hr rfl (fun t ht hW => ⟨1, rfl, ⟨(by first | decide | omega), trivial⟩, ht⟩) (fun _ h => by cases h) dX2_isLetter_17
set_option maxHeartbeats 4000000 in
set_option maxRecDepth 100000 in
theorem t_X2_isDigit (l : Launch) (dC : Nat → ClassId) (dI : Nat → Nat → Nat) (sz : Nat) (v : Int32) (Z_v : Int) (hZ_v : v.toInt = Z_v) : Met l yX2_isDigit wqX2_isDigit ({ frames := 2, cells := 0, slots := 0, locals := 400 }) (va_Pc [.int v] (pz_B dC dI [] [] sz)) (vp_Si (fun r => (0 ≤ r.toInt ∧ r.toInt ≤ 1) ∧ tp_cond r (48 ≤ Z_v ∧ Z_v ≤ 57))) 0 0 (fun _ => False) := by
  refine Met.ofW (cc := cX2_isDigit) (maxL := 1) (ret := some .boolean) (by decide) rfl ?_
  intro p e s m args below meth c s₁ B hml hv
  obtain ⟨rfl, hsz, hP, hK, hD0, hN⟩ := hv
  have hx := B.exec
  have hb := B.bytes
  have hr := B.returns
  have hts := fun (w : Cond) (h : w ∈ WALL) => atoms_spec (ws := wqX2_isDigit) B.pre w (List.mem_cons_of_mem _ h)
  have hown : s.vm.findClass RX2 = some m.cls := findClass_of_methodNamed B.named
  have hlocks := B.notSynchronized
  subst hsz
  have hD := hD0
  have hS : va_S (fun _ => True) s.heap s.heap [] := va_S.rf
  have hl := lv_entry ([.int v]) (n := 1) (Nat.le_of_ble_eq_true rfl)
  rw [lg_entry_eq]
  generalize (lg_sl ([.int v]) ++ List.replicate (1 - (lg_sl ([.int v])).length) Slot.unset).toArray = ls at hl ⊢
  have hl : lv_has ls 1 [(0, .int v)] := hl
  refine lv_iload_n hx hb dX2_isDigit_0 rfl (lv_at hl 0 rfl) ?_
  refine lv_bipush (v := 48) hx hb dX2_isDigit_1 (by decide) ?_
  refine lv_icmp_lt (tgt := 16) hx hb dX2_isDigit_3 (by decide) (fun c1 => ?_) (fun c1 => ?_)
  · have ic1 : Z_v < 48 := zi_lt hZ_v rfl c1
    refine lv_iconst (v := 0) hx hb dX2_isDigit_16 (by decide) ?_
    exact W.zret (v := 0) hx hb hr rfl (fun t ht hW => ⟨0, rfl, ⟨(by first | decide | omega), (Or.inr ⟨rfl, by omega⟩)⟩, ht⟩) (fun _ h => by cases h) dX2_isDigit_17
  · have ic1 : Z_v ≥ 48 := zi_ltf hZ_v rfl c1
    refine lv_iload_n hx hb dX2_isDigit_6 rfl (lv_at hl 0 rfl) ?_
    refine lv_bipush (v := 57) hx hb dX2_isDigit_7 (by decide) ?_
    refine lv_icmp_gt (tgt := 16) hx hb dX2_isDigit_9 (by decide) (fun c2 => ?_) (fun c2 => ?_)
    · have ic2 : Z_v > 57 := zi_gt hZ_v rfl c2
      refine lv_iconst (v := 0) hx hb dX2_isDigit_16 (by decide) ?_
      exact W.zret (v := 0) hx hb hr rfl (fun t ht hW => ⟨0, rfl, ⟨(by first | decide | omega), (Or.inr ⟨rfl, by omega⟩)⟩, ht⟩) (fun _ h => by cases h) dX2_isDigit_17
    · have ic2 : Z_v ≤ 57 := zi_gtf hZ_v rfl c2
      refine lv_iconst (v := 1) hx hb dX2_isDigit_12 (by decide) ?_
      refine lv_goto (tgt := 17) hx hb dX2_isDigit_13 (by decide) ?_
      exact W.zret (v := 1) hx hb hr rfl (fun t ht hW => ⟨1, rfl, ⟨(by first | decide | omega), (Or.inl ⟨rfl, by omega⟩)⟩, ht⟩) (fun _ h => by cases h) dX2_isDigit_17
set_option maxHeartbeats 4000000 in
set_option maxRecDepth 100000 in
theorem t_J0_coder_7d493 (l : Launch) (dC : Nat → ClassId) (dI : Nat → Nat → Nat) (sz : Nat) (adK adV : Nat → Nat) (zv : Option Nat) (k : Nat) (hk_k : k < 17) : Met l yJ0_coder_7d493 wqJ0_coder_7d493 ({ frames := 2, cells := 0, slots := 0, locals := 400 }) (va_Pc [.ref (adK k)] (pw_BZ dC dI [] [] sz adK adV zv)) (vp_Si (fun r => (0 ≤ r.toInt ∧ r.toInt ≤ 0) ∧ True)) 0 0 (fun _ => False) := by
  refine Met.ofW (cc := cJ0_coder_7d493) (maxL := 1) (ret := some .byte) (by decide) rfl ?_
  intro p e s m args below meth c s₁ B hml hv
  obtain ⟨rfl, ⟨hsz, hP, hK, hD0, hN⟩, hZ⟩ := hv
  have hx := B.exec
  have hb := B.bytes
  have hr := B.returns
  have hts := fun (w : Cond) (h : w ∈ WALL) => atoms_spec (ws := wqJ0_coder_7d493) B.pre w (List.mem_cons_of_mem _ h)
  have hown : s.vm.findClass RJ0 = some m.cls := findClass_of_methodNamed B.named
  have hlocks := B.notSynchronized
  subst hsz
  have hD := hD0
  have hS : va_S (fun _ => True) s.heap s.heap [] := va_S.rf
  have hSZ : va_S (va_A ([]) s.heap.size) s.heap s.heap [] := va_S.rf
  have hl := lv_entry ([.ref (adK k)]) (n := 1) (Nat.le_of_ble_eq_true rfl)
  rw [lg_entry_eq]
  generalize (lg_sl ([.ref (adK k)]) ++ List.replicate (1 - (lg_sl ([.ref (adK k)])).length) Slot.unset).toArray = ls at hl ⊢
  have hl : lv_has ls 1 [(0, .ref (adK k))] := hl
  refine va_gets hx hb hZ.2.1 hSZ hown (hts (.fieldLink RJ0 38 "java/lang/String" "COMPACT_STRINGS" "Z") wa_847) (fun _ h9 => h9) dJ0_coder_7d493_0 ?_
  refine lv_if_eq (tgt := 13) hx hb dJ0_coder_7d493_3 (by decide) (fun c9 => absurd c9 (by decide)) (fun _ => ?_)
  refine lv_aload_n hx hb dJ0_coder_7d493_6 rfl (lv_at hl 0 rfl) ?_
  refine vk_getf hx hb (hZ.1.1 k hk_k).2.1 hSZ hown (hts (.fieldLink RJ0 15 "java/lang/String" "coder" "B") wa_848) (fun _ h9 => h9) dJ0_coder_7d493_7 ?_
  refine lv_goto (tgt := 14) hx hb dJ0_coder_7d493_10 (by decide) ?_
  exact W.zret (v := 0) hx hb hr rfl (fun t ht hW => ⟨0, rfl, ⟨(by first | decide | omega), trivial⟩, ht⟩) (fun _ h => by cases h) dJ0_coder_7d493_14
set_option maxHeartbeats 4000000 in
set_option maxRecDepth 100000 in
theorem t_J0_length_8abf5 (l : Launch) (dC : Nat → ClassId) (dI : Nat → Nat → Nat) (sz : Nat) (adK adV : Nat → Nat) (zv : Option Nat) (k : Nat) (hk_k : k < 17) : Met l yJ0_length_8abf5 wqJ0_length_8abf5 ({ frames := 3, cells := 0, slots := 0, locals := 800 }) (va_Pc [.ref (adK k)] (pw_BZ dC dI [] [] sz adK adV zv)) (vp_Si (fun r => (0 ≤ r.toInt ∧ r.toInt ≤ 9) ∧ r.toInt = (zs_len.getD k 0 : Int))) 0 0 (fun _ => False) := by
  refine Met.ofW (cc := cJ0_length_8abf5) (maxL := 1) (ret := some .int) (by decide) rfl ?_
  intro p e s m args below meth c s₁ B hml hv
  obtain ⟨rfl, ⟨hsz, hP, hK, hD0, hN⟩, hZ⟩ := hv
  have hx := B.exec
  have hb := B.bytes
  have hr := B.returns
  have hts := fun (w : Cond) (h : w ∈ WALL) => atoms_spec (ws := wqJ0_length_8abf5) B.pre w (List.mem_cons_of_mem _ h)
  have hown : s.vm.findClass RJ0 = some m.cls := findClass_of_methodNamed B.named
  have hlocks := B.notSynchronized
  subst hsz
  have hD := hD0
  have hS : va_S (fun _ => True) s.heap s.heap [] := va_S.rf
  have hSZ : va_S (va_A ([]) s.heap.size) s.heap s.heap [] := va_S.rf
  have hl := lv_entry ([.ref (adK k)]) (n := 1) (Nat.le_of_ble_eq_true rfl)
  rw [lg_entry_eq]
  generalize (lg_sl ([.ref (adK k)]) ++ List.replicate (1 - (lg_sl ([.ref (adK k)])).length) Slot.unset).toArray = ls at hl ⊢
  have hl : lv_has ls 1 [(0, .ref (adK k))] := hl
  refine lv_aload_n hx hb dJ0_length_8abf5_0 rfl (lv_at hl 0 rfl) ?_
  refine vk_getf hx hb (hZ.1.1 k hk_k).2.2.1 hSZ hown (hts (.fieldLink RJ0 9 "java/lang/String" "value" "[B") wa_842) (fun _ h9 => h9) dJ0_length_8abf5_1 ?_
  obtain ⟨z1, ez1⟩ : ∃ y : Int32, y = Int32.ofNat (zs_len.getD k 0) := ⟨_, rfl⟩
  have lz1 := zs_le k hk_k
  have iz1 : z1.toInt = (zs_len.getD k 0 : Int) := zi_ofNat ez1 (by omega)
  refine va_tlen hx hb (hZ.1.1 k hk_k).2.2.2 hSZ ez1.symm dJ0_length_8abf5_4 ?_
  refine lv_aload_n hx hb dJ0_length_8abf5_5 rfl (lv_at hl 0 rfl) ?_
  refine pz_calli (va_runV (As := []) (rest := [.int z1]) ⟨hx, hb, hml, hown, hts⟩ (t_J0_coder_7d493 l dC dI _ adK adV zv k hk_k) (cwV 0 hts gJ0_length_8abf5_J0_coder_7d493 rfl rfl rfl ⟨rfl, pd_J0_coder_7d493⟩ ⟨Nat.le_of_ble_eq_true rfl, Nat.le_of_ble_eq_true rfl⟩) ⟨pw_blindZ, vk_recv hZ.1 hk_k hSZ, pw_preZ pz_P0 (hK.sub (tys' := []) [] rfl) (pz_D0 (A := fun _ => True)) hN hZ hSZ (fun _ h9 => h9)⟩ rfl rfl hl.1 rfl (lv_room (Nat.le_of_ble_eq_true rfl)) dJ0_length_8abf5_6 ⟨Nat.le_of_ble_eq_true rfl, Nat.le_of_ble_eq_true rfl⟩) (fun r2 hw3 => ?_)
  obtain ⟨hw3r, hw3p⟩ := hw3
  obtain rfl : r2 = 0 := Int32.toInt_inj.mp (show r2.toInt = (0 : Int32).toInt by have q9 : (0 : Int32).toInt = 0 := rfl; omega)
  refine lv_ishr hx hb dJ0_length_8abf5_9 ?_
  refine lv_topi (fun z4 ez4 => ?_)
  have iz4 : z4.toInt = z1.toInt := zi_shr0 ez4 rfl
  exact W.iret (v := z4) hx hb hr (fun t ht hW => ⟨z4, rfl, ⟨(by first | decide | omega), (by omega)⟩, ht⟩) (fun _ h => by cases h) dJ0_length_8abf5_10
set_option maxHeartbeats 4000000 in
set_option maxRecDepth 100000 in
theorem t_J0_isLatin1_aae02 (l : Launch) (dC : Nat → ClassId) (dI : Nat → Nat → Nat) (sz : Nat) (adK adV : Nat → Nat) (zv : Option Nat) (k : Nat) (hk_k : k < 17) : Met l yJ0_isLatin1_aae02 wqJ0_isLatin1_aae02 ({ frames := 2, cells := 0, slots := 0, locals := 400 }) (va_Pc [.ref (adK k)] (pw_BZ dC dI [] [] sz adK adV zv)) (vp_Si (fun r => (1 ≤ r.toInt ∧ r.toInt ≤ 1) ∧ True)) 0 0 (fun _ => False) := by
  refine Met.ofW (cc := cJ0_isLatin1_aae02) (maxL := 1) (ret := some .boolean) (by decide) rfl ?_
  intro p e s m args below meth c s₁ B hml hv
  obtain ⟨rfl, ⟨hsz, hP, hK, hD0, hN⟩, hZ⟩ := hv
  have hx := B.exec
  have hb := B.bytes
  have hr := B.returns
  have hts := fun (w : Cond) (h : w ∈ WALL) => atoms_spec (ws := wqJ0_isLatin1_aae02) B.pre w (List.mem_cons_of_mem _ h)
  have hown : s.vm.findClass RJ0 = some m.cls := findClass_of_methodNamed B.named
  have hlocks := B.notSynchronized
  subst hsz
  have hD := hD0
  have hS : va_S (fun _ => True) s.heap s.heap [] := va_S.rf
  have hSZ : va_S (va_A ([]) s.heap.size) s.heap s.heap [] := va_S.rf
  have hl := lv_entry ([.ref (adK k)]) (n := 1) (Nat.le_of_ble_eq_true rfl)
  rw [lg_entry_eq]
  generalize (lg_sl ([.ref (adK k)]) ++ List.replicate (1 - (lg_sl ([.ref (adK k)])).length) Slot.unset).toArray = ls at hl ⊢
  have hl : lv_has ls 1 [(0, .ref (adK k))] := hl
  refine va_gets hx hb hZ.2.1 hSZ hown (hts (.fieldLink RJ0 38 "java/lang/String" "COMPACT_STRINGS" "Z") wa_847) (fun _ h9 => h9) dJ0_isLatin1_aae02_0 ?_
  refine lv_if_eq (tgt := 17) hx hb dJ0_isLatin1_aae02_3 (by decide) (fun c9 => absurd c9 (by decide)) (fun _ => ?_)
  refine lv_aload_n hx hb dJ0_isLatin1_aae02_6 rfl (lv_at hl 0 rfl) ?_
  refine vk_getf hx hb (hZ.1.1 k hk_k).2.1 hSZ hown (hts (.fieldLink RJ0 15 "java/lang/String" "coder" "B") wa_848) (fun _ h9 => h9) dJ0_isLatin1_aae02_7 ?_
  refine lv_if_ne (tgt := 17) hx hb dJ0_isLatin1_aae02_10 (by decide) (fun c9 => absurd c9 (by decide)) (fun _ => ?_)
  refine lv_iconst (v := 1) hx hb dJ0_isLatin1_aae02_13 (by decide) ?_
  refine lv_goto (tgt := 18) hx hb dJ0_isLatin1_aae02_14 (by decide) ?_
  exact W.zret (v := 1) hx hb hr rfl (fun t ht hW => ⟨1, rfl, ⟨(by first | decide | omega), trivial⟩, ht⟩) (fun _ h => by cases h) dJ0_isLatin1_aae02_18
set_option maxHeartbeats 4000000 in
set_option maxRecDepth 100000 in
theorem t_J3_checkIndex_8e157 (l : Launch) (dC : Nat → ClassId) (dI : Nat → Nat → Nat) (sz : Nat) (adK adV : Nat → Nat) (zv : Option Nat) (v : Int32) (u : Int32) (Z_v : Int) (Z_u : Int) (h1 : 0 ≤ Z_v ∧ Z_v < Z_u) (hZ_v : v.toInt = Z_v) (hZ_u : u.toInt = Z_u) : Met l yJ3_checkIndex_8e157 wqJ3_checkIndex_8e157 ({ frames := 2, cells := 0, slots := 0, locals := 400 }) (va_Pc [.int v, .int u, va_rf zv] (pw_BZ dC dI [] [] sz adK adV zv)) (vp_Si (fun r => True ∧ True)) 0 0 (fun _ => False) := by
  rcases zv with _ | zv
  · show Met l yJ3_checkIndex_8e157 wqJ3_checkIndex_8e157 ({ frames := 2, cells := 0, slots := 0, locals := 400 }) (va_Pc [.int v, .int u, .null] (pw_BZ dC dI [] [] sz adK adV none)) (vp_Si (fun r => True ∧ True)) 0 0 (fun _ => False)
    refine Met.ofW (cc := cJ3_checkIndex_8e157) (maxL := 3) (ret := some .int) (by decide) rfl ?_
    intro p e s m args below meth c s₁ B hml hv
    obtain ⟨rfl, ⟨hsz, hP, hK, hD0, hN⟩, hZ⟩ := hv
    have hx := B.exec
    have hb := B.bytes
    have hr := B.returns
    have hts := fun (w : Cond) (h : w ∈ WALL) => atoms_spec (ws := wqJ3_checkIndex_8e157) B.pre w (List.mem_cons_of_mem _ h)
    have hown : s.vm.findClass RJ3 = some m.cls := findClass_of_methodNamed B.named
    have hlocks := B.notSynchronized
    subst hsz
    have hD := hD0
    have hS : va_S (fun _ => True) s.heap s.heap [] := va_S.rf
    have hSZ : va_S (va_A ([]) s.heap.size) s.heap s.heap [] := va_S.rf
    have hl := lv_entry ([.int v, .int u, .null]) (n := 3) (Nat.le_of_ble_eq_true rfl)
    rw [lg_entry_eq]
    generalize (lg_sl ([.int v, .int u, .null]) ++ List.replicate (3 - (lg_sl ([.int v, .int u, .null])).length) Slot.unset).toArray = ls at hl ⊢
    have hl : lv_has ls 3 [(0, .int v), (1, .int u), (2, .null)] := hl
    refine lv_iload_n hx hb dJ3_checkIndex_8e157_0 rfl (lv_at hl 0 rfl) ?_
    refine lv_if_lt (tgt := 9) hx hb dJ3_checkIndex_8e157_1 (by decide) (fun c1 => ?_) (fun c1 => ?_)
    · have ic1 : Z_v < 0 := zi_lt hZ_v rfl c1
      exfalso; omega
    · have ic1 : Z_v ≥ 0 := zi_ltf hZ_v rfl c1
      refine lv_iload_n hx hb dJ3_checkIndex_8e157_4 rfl (lv_at hl 0 rfl) ?_
      refine lv_iload_n hx hb dJ3_checkIndex_8e157_5 rfl (lv_at hl 1 rfl) ?_
      refine lv_icmp_lt (tgt := 16) hx hb dJ3_checkIndex_8e157_6 (by decide) (fun c2 => ?_) (fun c2 => ?_)
      · have ic2 : Z_v < Z_u := zi_lt hZ_v hZ_u c2
        refine lv_iload_n hx hb dJ3_checkIndex_8e157_16 rfl (lv_at hl 0 rfl) ?_
        exact W.iret (v := v) hx hb hr (fun t ht hW => ⟨v, rfl, ⟨trivial, trivial⟩, ht⟩) (fun _ h => by cases h) dJ3_checkIndex_8e157_17
      · have ic2 : Z_v ≥ Z_u := zi_ltf hZ_v hZ_u c2
        exfalso; omega
  · show Met l yJ3_checkIndex_8e157 wqJ3_checkIndex_8e157 ({ frames := 2, cells := 0, slots := 0, locals := 400 }) (va_Pc [.int v, .int u, .ref zv] (pw_BZ dC dI [] [] sz adK adV (some zv))) (vp_Si (fun r => True ∧ True)) 0 0 (fun _ => False)
    refine Met.ofW (cc := cJ3_checkIndex_8e157) (maxL := 3) (ret := some .int) (by decide) rfl ?_
    intro p e s m args below meth c s₁ B hml hv
    obtain ⟨rfl, ⟨hsz, hP, hK, hD0, hN⟩, hZ⟩ := hv
    have hx := B.exec
    have hb := B.bytes
    have hr := B.returns
    have hts := fun (w : Cond) (h : w ∈ WALL) => atoms_spec (ws := wqJ3_checkIndex_8e157) B.pre w (List.mem_cons_of_mem _ h)
    have hown : s.vm.findClass RJ3 = some m.cls := findClass_of_methodNamed B.named
    have hlocks := B.notSynchronized
    subst hsz
    have hD := hD0
    have hS : va_S (fun _ => True) s.heap s.heap [] := va_S.rf
    have hSZ : va_S (va_A ([]) s.heap.size) s.heap s.heap [] := va_S.rf
    have hl := lv_entry ([.int v, .int u, .ref zv]) (n := 3) (Nat.le_of_ble_eq_true rfl)
    rw [lg_entry_eq]
    generalize (lg_sl ([.int v, .int u, .ref zv]) ++ List.replicate (3 - (lg_sl ([.int v, .int u, .ref zv])).length) Slot.unset).toArray = ls at hl ⊢
    have hl : lv_has ls 3 [(0, .int v), (1, .int u), (2, .ref zv)] := hl
    refine lv_iload_n hx hb dJ3_checkIndex_8e157_0 rfl (lv_at hl 0 rfl) ?_
    refine lv_if_lt (tgt := 9) hx hb dJ3_checkIndex_8e157_1 (by decide) (fun c1 => ?_) (fun c1 => ?_)
    · have ic1 : Z_v < 0 := zi_lt hZ_v rfl c1
      exfalso; omega
    · have ic1 : Z_v ≥ 0 := zi_ltf hZ_v rfl c1
      refine lv_iload_n hx hb dJ3_checkIndex_8e157_4 rfl (lv_at hl 0 rfl) ?_
      refine lv_iload_n hx hb dJ3_checkIndex_8e157_5 rfl (lv_at hl 1 rfl) ?_
      refine lv_icmp_lt (tgt := 16) hx hb dJ3_checkIndex_8e157_6 (by decide) (fun c2 => ?_) (fun c2 => ?_)
      · have ic2 : Z_v < Z_u := zi_lt hZ_v hZ_u c2
        refine lv_iload_n hx hb dJ3_checkIndex_8e157_16 rfl (lv_at hl 0 rfl) ?_
        exact W.iret (v := v) hx hb hr (fun t ht hW => ⟨v, rfl, ⟨trivial, trivial⟩, ht⟩) (fun _ h => by cases h) dJ3_checkIndex_8e157_17
      · have ic2 : Z_v ≥ Z_u := zi_ltf hZ_v hZ_u c2
        exfalso; omega
set_option maxHeartbeats 4000000 in
set_option maxRecDepth 100000 in
theorem t_J0_checkIndex_df160 (l : Launch) (dC : Nat → ClassId) (dI : Nat → Nat → Nat) (sz : Nat) (adK adV : Nat → Nat) (zv : Option Nat) (v : Int32) (u : Int32) (Z_v : Int) (Z_u : Int) (h1 : 0 ≤ Z_v ∧ Z_v < Z_u) (hZ_v : v.toInt = Z_v) (hZ_u : u.toInt = Z_u) : Met l yJ0_checkIndex_df160 wqJ0_checkIndex_df160 ({ frames := 3, cells := 0, slots := 0, locals := 800 }) (va_Pc [.int v, .int u] (pw_BZ dC dI [] [] sz adK adV zv)) (va_Sv (fun _ => True)) 0 0 (fun _ => False) := by
  refine Met.ofW (cc := cJ0_checkIndex_df160) (maxL := 2) (ret := none) (by decide) rfl ?_
  intro p e s m args below meth c s₁ B hml hv
  obtain ⟨rfl, ⟨hsz, hP, hK, hD0, hN⟩, hZ⟩ := hv
  have hx := B.exec
  have hb := B.bytes
  have hr := B.returns
  have hts := fun (w : Cond) (h : w ∈ WALL) => atoms_spec (ws := wqJ0_checkIndex_df160) B.pre w (List.mem_cons_of_mem _ h)
  have hown : s.vm.findClass RJ0 = some m.cls := findClass_of_methodNamed B.named
  have hlocks := B.notSynchronized
  subst hsz
  have hD := hD0
  have hS : va_S (fun _ => True) s.heap s.heap [] := va_S.rf
  have hSZ : va_S (va_A ([]) s.heap.size) s.heap s.heap [] := va_S.rf
  have hl := lv_entry ([.int v, .int u]) (n := 2) (Nat.le_of_ble_eq_true rfl)
  rw [lg_entry_eq]
  generalize (lg_sl ([.int v, .int u]) ++ List.replicate (2 - (lg_sl ([.int v, .int u])).length) Slot.unset).toArray = ls at hl ⊢
  have hl : lv_has ls 2 [(0, .int v), (1, .int u)] := hl
  refine lv_iload_n hx hb dJ0_checkIndex_df160_0 rfl (lv_at hl 0 rfl) ?_
  refine lv_iload_n hx hb dJ0_checkIndex_df160_1 rfl (lv_at hl 1 rfl) ?_
  refine va_gets hx hb hZ.2.2.1 hSZ hown (hts (.fieldLink RJ0 1053 "jdk/internal/util/Preconditions" "SIOOBE_FORMATTER" "Ljava/util/function/BiFunction;") wa_864) (fun _ h9 => h9) dJ0_checkIndex_df160_2 ?_
  refine pz_calli (va_runS (As := [.int v, .int u, va_rf zv]) (rest := []) ⟨hx, hb, hml, hown, hts⟩ (t_J3_checkIndex_8e157 l dC dI _ adK adV zv v u (Z_v) (Z_u) (by omega) hZ_v hZ_u) (va_cwS 3 hts gJ0_checkIndex_df160_J3_checkIndex_8e157 rfl rfl rfl pd_J3_checkIndex_8e157 ⟨Nat.le_of_ble_eq_true rfl, Nat.le_of_ble_eq_true rfl⟩) ⟨pw_blindZ, pw_preZ pz_P0 (hK.sub (tys' := []) [] rfl) (pz_D0 (A := fun _ => True)) hN hZ hSZ (fun _ h9 => h9)⟩ rfl rfl hl.1 rfl (lv_room (Nat.le_of_ble_eq_true rfl)) dJ0_checkIndex_df160_5 ⟨Nat.le_of_ble_eq_true rfl, Nat.le_of_ble_eq_true rfl⟩) (fun r1 hw2 => ?_)
  obtain ⟨hw2r, hw2p⟩ := hw2
  refine lv_pop hx hb dJ0_checkIndex_df160_8 rfl ?_
  exact W.vret hx hb hr (fun t ht hW => ⟨rfl, trivial, ht⟩) (fun _ h => by cases h) dJ0_checkIndex_df160_9
set_option maxHeartbeats 4000000 in
set_option maxRecDepth 100000 in
theorem t_J1_charAt_3b067 (l : Launch) (dC : Nat → ClassId) (dI : Nat → Nat → Nat) (sz : Nat) (adK adV : Nat → Nat) (zv : Option Nat) (k : Nat) (v : Int32) (hk_k : k < 17) (h1 : 0 ≤ v.toInt ∧ v.toInt < (zs_len.getD k 0 : Int)) : Met l yJ1_charAt_3b067 wqJ1_charAt_3b067 ({ frames := 4, cells := 0, slots := 0, locals := 1200 }) (va_Pc [.ref (adV k), .int v] (pw_BZ dC dI [] [] sz adK adV zv)) (vp_Si (fun r => (0 ≤ r.toInt ∧ r.toInt ≤ 255) ∧ True)) 0 0 (fun _ => False) := by
  refine Met.ofW (cc := cJ1_charAt_3b067) (maxL := 2) (ret := some .char) (by decide) rfl ?_
  intro p e s m args below meth c s₁ B hml hv
  obtain ⟨rfl, ⟨hsz, hP, hK, hD0, hN⟩, hZ⟩ := hv
  have hx := B.exec
  have hb := B.bytes
  have hr := B.returns
  have hts := fun (w : Cond) (h : w ∈ WALL) => atoms_spec (ws := wqJ1_charAt_3b067) B.pre w (List.mem_cons_of_mem _ h)
  have hown : s.vm.findClass RJ1 = some m.cls := findClass_of_methodNamed B.named
  have hlocks := B.notSynchronized
  subst hsz
  have hD := hD0
  have hS : va_S (fun _ => True) s.heap s.heap [] := va_S.rf
  have hSZ : va_S (va_A ([]) s.heap.size) s.heap s.heap [] := va_S.rf
  have hl := lv_entry ([.ref (adV k), .int v]) (n := 2) (Nat.le_of_ble_eq_true rfl)
  rw [lg_entry_eq]
  generalize (lg_sl ([.ref (adV k), .int v]) ++ List.replicate (2 - (lg_sl ([.ref (adV k), .int v])).length) Slot.unset).toArray = ls at hl ⊢
  have hl : lv_has ls 2 [(0, .ref (adV k)), (1, .int v)] := hl
  refine lv_iload_n hx hb dJ1_charAt_3b067_0 rfl (lv_at hl 1 rfl) ?_
  refine lv_aload_n hx hb dJ1_charAt_3b067_1 rfl (lv_at hl 0 rfl) ?_
  obtain ⟨z1, ez1⟩ : ∃ y : Int32, y = Int32.ofNat (zs_len.getD k 0) := ⟨_, rfl⟩
  have lz1 := zs_le k hk_k
  have iz1 : z1.toInt = (zs_len.getD k 0 : Int) := zi_ofNat ez1 (by omega)
  refine va_tlen hx hb (hZ.1.1 k hk_k).2.2.2 hSZ ez1.symm dJ1_charAt_3b067_2 ?_
  refine tp_callv0 (va_runS (As := [.int v, .int z1]) (rest := []) ⟨hx, hb, hml, hown, hts⟩ (t_J0_checkIndex_df160 l dC dI _ adK adV zv v z1 (v.toInt) (z1.toInt) (by omega) rfl rfl) (va_cwS 2 hts gJ1_charAt_3b067_J0_checkIndex_df160 rfl rfl rfl pd_J0_checkIndex_df160 ⟨Nat.le_of_ble_eq_true rfl, Nat.le_of_ble_eq_true rfl⟩) ⟨pw_blindZ, pw_preZ pz_P0 (hK.sub (tys' := []) [] rfl) (pz_D0 (A := fun _ => True)) hN hZ hSZ (fun _ h9 => h9)⟩ rfl rfl hl.1 rfl (lv_room (Nat.le_of_ble_eq_true rfl)) dJ1_charAt_3b067_3 ⟨Nat.le_of_ble_eq_true rfl, Nat.le_of_ble_eq_true rfl⟩) ?_
  refine lv_aload_n hx hb dJ1_charAt_3b067_6 rfl (lv_at hl 0 rfl) ?_
  refine lv_iload_n hx hb dJ1_charAt_3b067_7 rfl (lv_at hl 1 rfl) ?_
  refine va_tb hx hb (hZ.1.1 k hk_k).2.2.2 hSZ (zi_inl (by omega) (by omega)) rfl dJ1_charAt_3b067_8 ?_
  refine lv_topi (fun z4 ez4 => ?_)
  refine lv_sipush (v := 255) hx hb dJ1_charAt_3b067_9 (by decide) ?_
  refine lv_iand hx hb dJ1_charAt_3b067_12 ?_
  refine lv_topi (fun z5 ez5 => ?_)
  have iz5 : 0 ≤ z5.toInt ∧ z5.toInt ≤ 255 := zb_mask ez5 (by decide)
  refine lv_i2c hx hb dJ1_charAt_3b067_13 rfl ?_
  refine lv_topi (fun z6 ez6 => ?_)
  have iz6 : z6.toInt = z5.toInt := zi_i2c ez6 rfl (by omega) (by omega)
  exact W.zret (v := z6) hx hb hr (zi_narC (by omega) (by omega)) (fun t ht hW => ⟨z6, rfl, ⟨(by first | decide | omega), trivial⟩, ht⟩) (fun _ h => by cases h) dJ1_charAt_3b067_14
set_option maxHeartbeats 4000000 in
set_option maxRecDepth 100000 in
theorem t_J0_charAt_5068e (l : Launch) (dC : Nat → ClassId) (dI : Nat → Nat → Nat) (sz : Nat) (adK adV : Nat → Nat) (zv : Option Nat) (k : Nat) (v : Int32) (hk_k : k < 17) (h1 : 0 ≤ v.toInt ∧ v.toInt < (zs_len.getD k 0 : Int)) : Met l yJ0_charAt_5068e wqJ0_charAt_5068e ({ frames := 5, cells := 0, slots := 0, locals := 1600 }) (va_Pc [.ref (adK k), .int v] (pw_BZ dC dI [] [] sz adK adV zv)) (vp_Si (fun r => True ∧ True)) 0 0 (fun _ => False) := by
  refine Met.ofW (cc := cJ0_charAt_5068e) (maxL := 2) (ret := some .char) (by decide) rfl ?_
  intro p e s m args below meth c s₁ B hml hv
  obtain ⟨rfl, ⟨hsz, hP, hK, hD0, hN⟩, hZ⟩ := hv
  have hx := B.exec
  have hb := B.bytes
  have hr := B.returns
  have hts := fun (w : Cond) (h : w ∈ WALL) => atoms_spec (ws := wqJ0_charAt_5068e) B.pre w (List.mem_cons_of_mem _ h)
  have hown : s.vm.findClass RJ0 = some m.cls := findClass_of_methodNamed B.named
  have hlocks := B.notSynchronized
  subst hsz
  have hD := hD0
  have hS : va_S (fun _ => True) s.heap s.heap [] := va_S.rf
  have hSZ : va_S (va_A ([]) s.heap.size) s.heap s.heap [] := va_S.rf
  have hl := lv_entry ([.ref (adK k), .int v]) (n := 2) (Nat.le_of_ble_eq_true rfl)
  rw [lg_entry_eq]
  generalize (lg_sl ([.ref (adK k), .int v]) ++ List.replicate (2 - (lg_sl ([.ref (adK k), .int v])).length) Slot.unset).toArray = ls at hl ⊢
  have hl : lv_has ls 2 [(0, .ref (adK k)), (1, .int v)] := hl
  refine lv_aload_n hx hb dJ0_charAt_5068e_0 rfl (lv_at hl 0 rfl) ?_
  refine pz_calli (va_runV (As := []) (rest := []) ⟨hx, hb, hml, hown, hts⟩ (t_J0_isLatin1_aae02 l dC dI _ adK adV zv k hk_k) (cwV 0 hts gJ0_charAt_5068e_J0_isLatin1_aae02 rfl rfl rfl ⟨rfl, pd_J0_isLatin1_aae02⟩ ⟨Nat.le_of_ble_eq_true rfl, Nat.le_of_ble_eq_true rfl⟩) ⟨pw_blindZ, vk_recv hZ.1 hk_k hSZ, pw_preZ pz_P0 (hK.sub (tys' := []) [] rfl) (pz_D0 (A := fun _ => True)) hN hZ hSZ (fun _ h9 => h9)⟩ rfl rfl hl.1 rfl (lv_room (Nat.le_of_ble_eq_true rfl)) dJ0_charAt_5068e_1 ⟨Nat.le_of_ble_eq_true rfl, Nat.le_of_ble_eq_true rfl⟩) (fun r1 hw2 => ?_)
  obtain ⟨hw2r, hw2p⟩ := hw2
  obtain rfl : r1 = 1 := Int32.toInt_inj.mp (show r1.toInt = (1 : Int32).toInt by have q9 : (1 : Int32).toInt = 1 := rfl; omega)
  refine lv_if_eq (tgt := 16) hx hb dJ0_charAt_5068e_4 (by decide) (fun c9 => absurd c9 (by decide)) (fun _ => ?_)
  refine lv_aload_n hx hb dJ0_charAt_5068e_7 rfl (lv_at hl 0 rfl) ?_
  refine vk_getf hx hb (hZ.1.1 k hk_k).2.2.1 hSZ hown (hts (.fieldLink RJ0 9 "java/lang/String" "value" "[B") wa_842) (fun _ h9 => h9) dJ0_charAt_5068e_8 ?_
  refine lv_iload_n hx hb dJ0_charAt_5068e_11 rfl (lv_at hl 1 rfl) ?_
  refine pz_calli (va_runS (As := [.ref (adV k), .int v]) (rest := []) ⟨hx, hb, hml, hown, hts⟩ (t_J1_charAt_3b067 l dC dI _ adK adV zv k v hk_k (by omega)) (va_cwS 2 hts gJ0_charAt_5068e_J1_charAt_3b067 rfl rfl rfl pd_J1_charAt_3b067 ⟨Nat.le_of_ble_eq_true rfl, Nat.le_of_ble_eq_true rfl⟩) ⟨pw_blindZ, pw_preZ pz_P0 (hK.sub (tys' := []) [] rfl) (pz_D0 (A := fun _ => True)) hN hZ hSZ (fun _ h9 => h9)⟩ rfl rfl hl.1 rfl (lv_room (Nat.le_of_ble_eq_true rfl)) dJ0_charAt_5068e_12 ⟨Nat.le_of_ble_eq_true rfl, Nat.le_of_ble_eq_true rfl⟩) (fun r3 hw4 => ?_)
  obtain ⟨hw4r, hw4p⟩ := hw4
  exact W.zret (v := r3) hx hb hr (zi_narC (by omega) (by omega)) (fun t ht hW => ⟨r3, rfl, ⟨trivial, trivial⟩, ht⟩) (fun _ h => by cases h) dJ0_charAt_5068e_15
set_option maxHeartbeats 4000000 in
set_option maxRecDepth 100000 in
theorem t_X2_advance (l : Launch) (dC : Nat → ClassId) (dI : Nat → Nat → Nat) (sz : Nat) (Ω : Nat → Nat → (Nat → Nat) → va_E → Prop) (κ : Nat → ClassId) (τ ν : Nat → Nat) (ρ : Nat → Nat → Nat) (L : List Nat) (f : Nat → va_E) (hG : tp_G τ ν ρ L) (hT : tp_T Ω κ τ ν ρ f) (h0 : Nat) (B0 : Int) (ht_h0 : τ h0 = 3) (hB : tp_fld (f h0) 12 = B0) : Met l yX2_advance wqX2_advance ({ frames := 3, cells := 0, slots := 0, locals := 800 }) (va_Pc [.ref h0] (pz_B dC dI (tp_K κ) (va_pl L f) sz)) (va_Qv (fun (f1 : Nat → va_E) => tp_T Ω κ τ ν ρ f1 ∧ tp_F τ [3] f f1 ∧ tp_fld (f1 h0) 12 = B0) (fun (f1 : Nat → va_E) (t : State) => pz_E dC dI (tp_K κ) (va_A (va_pl L f) sz) (va_pl L f1) t) (va_A (va_pl L f) sz)) 0 0 (va_A (va_pl L f) sz) := by
  refine Met.ofW (cc := cX2_advance) (maxL := 1) (ret := none) (by decide) rfl ?_
  intro p e s m args below meth c s₁ B hml hv
  obtain ⟨rfl, hsz, hP, hK, hD0, hN⟩ := hv
  have hx := B.exec
  have hb := B.bytes
  have hr := B.returns
  have hts := fun (w : Cond) (h : w ∈ WALL) => atoms_spec (ws := wqX2_advance) B.pre w (List.mem_cons_of_mem _ h)
  have hown : s.vm.findClass RX2 = some m.cls := findClass_of_methodNamed B.named
  have hlocks := B.notSynchronized
  subst hsz
  have hD := hD0.self (sz := s.heap.size)
  generalize hAe : va_A (va_pl L f) s.heap.size = A at hD ⊢
  have hA : ∀ q : Nat, s.heap.size ≤ q → A q := fun q h => by rw [← hAe]; exact Or.inr h
  have hS : va_S A s.heap s.heap [] := va_S.rf
  have hR : tp_F τ [3] f f := tp_F.rf
  have hl := lv_entry ([.ref h0]) (n := 1) (Nat.le_of_ble_eq_true rfl)
  rw [lg_entry_eq]
  generalize (lg_sl ([.ref h0]) ++ List.replicate (1 - (lg_sl ([.ref h0])).length) Slot.unset).toArray = ls at hl ⊢
  have hl : lv_has ls 1 [(0, .ref h0)] := hl
  refine tgk_3 hG ht_h0 (fun y1 y1n y2 y2n y3 y3n => ?_)
  refine tpk_3 hT ht_h0 (fun o4_x1 o4_x2 o4_x3 o4_x4 o4_x5 o4_x6 o4_x8 o4_x10 o4_x11 o4_x12 o4_x13 o4_x14 o4_x15 hf_o4 ro4_0 ro4_1 ro4_2 ro4_3 ro4_4 ro4_5 ro4_6 => ?_)
  have bo4 : o4_x12.toInt = B0 := by have q9 := hB; rw [hf_o4] at q9; exact q9
  have hT := hT.opn h0
  refine lv_aload_n hx hb dX2_advance_0 rfl (lv_at hl 0 rfl) ?_
  refine lv_aload_n hx hb dX2_advance_1 rfl (lv_at hl 0 rfl) ?_
  refine tpk_pos (tp_in hG ht_h0 (by decide)) hf_o4 (fun q5 eq5 => ?_)
  have ro4_2 := tp_hu ro4_2
  refine va_get (D := (dC, dI)) (ci := 2) (v := .int o4_x5) (C := RX2) (T := TX2) (N := 16) hx hb hts hfX2 hown hK hP q5 eq5 rfl 5 (by decide) (hts (.fieldLink RX2 29 "ColdShips$Reader" "behind" "I") wa_795) (fun _ h9 => h9) rfl dX2_advance_2 ?_
  refine va_put (D := (dC, dI)) (ci := 2) (v := .int o4_x5) (ty := .int) (C := RX2) (T := TX2) (N := 16) hx hb hts hfX2 tyX2 tyX2_ok nmX2 hown hK hP hD hS q5 eq5 rfl 3 (by decide) (hts (.fieldLink RX2 60 "ColdShips$Reader" "place" "I") wa_803) (fun _ h9 => h9) rfl (tyX2_ok 3 (by decide)) rfl rfl (Nat.le_of_ble_eq_true rfl) dX2_advance_5 (tp_k (.inr (2, [.ref (ρ h0 0), .int o4_x1, .int o4_x2, .int o4_x5, .int o4_x4, .int o4_x5, .int o4_x6, .ref (ρ h0 7), .int o4_x8, .ref (ρ h0 9), .int o4_x10, .int o4_x11, .int o4_x12, .int o4_x13, .int o4_x14, .int o4_x15])) hD (tp_in hG ht_h0 (by decide)) eq5 (fun f6 H locs hP hD hS g8 k7 => ?_))
  have hT := hT.up k7
  have hR := hR.up ht_h0 (by decide) k7
  have hB : tp_fld (f6 h0) 12 = B0 := by rw [g8]; show (o4_x12).toInt = B0; omega
  have ro4_0 := tp_hu ro4_0
  refine pz_loop (fun n0 H locs ls => ∃ f11 : Nat → va_E, ∃ w9 : Int32, n0 = ((o4_x1.toInt) - (w9.toInt)).toNat ∧ tp_O Ω κ τ ν ρ h0 f11 ∧ tp_F τ [3] f f11 ∧ tp_fld (f11 h0) 12 = B0 ∧ f11 h0 = .inr (2, [.ref (ρ h0 0), .int o4_x1, .int o4_x2, .int w9, .int o4_x4, .int o4_x5, .int o4_x6, .ref (ρ h0 7), .int o4_x8, .ref (ρ h0 9), .int o4_x10, .int o4_x11, .int o4_x12, .int o4_x13, .int o4_x14, .int o4_x15]) ∧ (0 ≤ w9.toInt ∧ w9.toInt ≤ 400) ∧ va_P (dC, dI) vwCl (va_pl L f11) H ∧ va_D A (va_pl L f11) ∧ va_S A s.heap H locs ∧ lv_has ls 1 [(0, .ref h0)]) ?_ _ _ _ _ ⟨f6, o4_x5, rfl, hT, hR, hB, g8, (by omega), hP, hD, hS, lv_sub hl [0] rfl⟩
  intro n0 H locs ls hI ih12
  refine Exists.elim hI (fun f11 hE90 => Exists.elim hE90 (fun w9 hE91 => tn_10 hE91 (fun hn13 hT hR hB hk10k rw9 hP hD hS hl => ?_)))
  clear hE91 hE90 hI
  refine lv_aload_n hx hb dX2_advance_8 rfl (lv_at hl 0 rfl) ?_
  refine tpk_pos (tp_in hG ht_h0 (by decide)) hk10k (fun q14 eq14 => ?_)
  refine va_get (D := (dC, dI)) (ci := 2) (v := .int w9) (C := RX2) (T := TX2) (N := 16) hx hb hts hfX2 hown hK hP q14 eq14 rfl 3 (by decide) (hts (.fieldLink RX2 60 "ColdShips$Reader" "place" "I") wa_803) (fun _ h9 => h9) rfl dX2_advance_9 ?_
  refine lv_aload_n hx hb dX2_advance_12 rfl (lv_at hl 0 rfl) ?_
  refine va_get (D := (dC, dI)) (ci := 2) (v := .int o4_x1) (C := RX2) (T := TX2) (N := 16) hx hb hts hfX2 hown hK hP q14 eq14 rfl 1 (by decide) (hts (.fieldLink RX2 26 "ColdShips$Reader" "size" "I") wa_765) (fun _ h9 => h9) rfl dX2_advance_13 ?_
  refine tp_join 46 (fun H locs ls stk => stk = [] ∧ va_P (dC, dI) vwCl (va_pl L f11) H ∧ va_D A (va_pl L f11) ∧ va_S A s.heap H locs ∧ lv_has ls 1 [(0, .ref h0)]) ?_ (fun hj15 => ?_)
  · intro H locs ls stk hI
    refine tn_5 hI (fun e90 hP hD hS hl => ?_)
    clear hI; subst e90
    refine lv_aload_n hx hb dX2_advance_46 rfl (lv_at hl 0 rfl) ?_
    refine lv_aload_n hx hb dX2_advance_47 rfl (lv_at hl 0 rfl) ?_
    refine va_get (D := (dC, dI)) (ci := 2) (v := .int w9) (C := RX2) (T := TX2) (N := 16) hx hb hts hfX2 hown hK hP q14 eq14 rfl 3 (by decide) (hts (.fieldLink RX2 60 "ColdShips$Reader" "place" "I") wa_803) (fun _ h9 => h9) rfl dX2_advance_48 ?_
    refine va_put (D := (dC, dI)) (ci := 2) (v := .int w9) (ty := .int) (C := RX2) (T := TX2) (N := 16) hx hb hts hfX2 tyX2 tyX2_ok nmX2 hown hK hP hD hS q14 eq14 rfl 5 (by decide) (hts (.fieldLink RX2 29 "ColdShips$Reader" "behind" "I") wa_795) (fun _ h9 => h9) rfl (tyX2_ok 5 (by decide)) rfl rfl (Nat.le_of_ble_eq_true rfl) dX2_advance_51 (tp_k (.inr (2, [.ref (ρ h0 0), .int o4_x1, .int o4_x2, .int w9, .int o4_x4, .int w9, .int o4_x6, .ref (ρ h0 7), .int o4_x8, .ref (ρ h0 9), .int o4_x10, .int o4_x11, .int o4_x12, .int o4_x13, .int o4_x14, .int o4_x15])) hD (tp_in hG ht_h0 (by decide)) eq14 (fun f16 H locs hP hD hS g18 k17 => ?_))
    have hT := hT.up k17
    have hR := hR.up ht_h0 (by decide) k17
    have hB : tp_fld (f16 h0) 12 = B0 := by rw [g18]; show (o4_x12).toInt = B0; omega
    refine lv_aload_n hx hb dX2_advance_54 rfl (lv_at hl 0 rfl) ?_
    refine tpk_pos (tp_in hG ht_h0 (by decide)) g18 (fun q19 eq19 => ?_)
    refine va_get (D := (dC, dI)) (ci := 2) (v := .int w9) (C := RX2) (T := TX2) (N := 16) hx hb hts hfX2 hown hK hP q19 eq19 rfl 3 (by decide) (hts (.fieldLink RX2 60 "ColdShips$Reader" "place" "I") wa_803) (fun _ h9 => h9) rfl dX2_advance_55 ?_
    refine lv_aload_n hx hb dX2_advance_58 rfl (lv_at hl 0 rfl) ?_
    refine va_get (D := (dC, dI)) (ci := 2) (v := .int o4_x1) (C := RX2) (T := TX2) (N := 16) hx hb hts hfX2 hown hK hP q19 eq19 rfl 1 (by decide) (hts (.fieldLink RX2 26 "ColdShips$Reader" "size" "I") wa_765) (fun _ h9 => h9) rfl dX2_advance_59 ?_
    refine lv_icmp_lt (tgt := 73) hx hb dX2_advance_62 (by decide) (fun c20 => ?_) (fun c20 => ?_)
    · have ic20 : w9.toInt < o4_x1.toInt := zi_lt rfl rfl c20
      refine lv_aload_n hx hb dX2_advance_73 rfl (lv_at hl 0 rfl) ?_
      refine va_get (D := (dC, dI)) (ci := 2) (v := .ref (ρ h0 0)) (C := RX2) (T := TX2) (N := 16) hx hb hts hfX2 hown hK hP q19 eq19 rfl 0 (by decide) (hts (.fieldLink RX2 11 "ColdShips$Reader" "tape" "[C") wa_119) (fun _ h9 => h9) rfl dX2_advance_74 ?_
      refine lv_aload_n hx hb dX2_advance_77 rfl (lv_at hl 0 rfl) ?_
      refine va_get (D := (dC, dI)) (ci := 2) (v := .int w9) (C := RX2) (T := TX2) (N := 16) hx hb hts hfX2 hown hK hP q19 eq19 rfl 3 (by decide) (hts (.fieldLink RX2 60 "ColdShips$Reader" "place" "I") wa_803) (fun _ h9 => h9) rfl dX2_advance_78 ?_
      obtain ⟨g22, hf_o21⟩ := tp_atO hT y1 (by decide) (tp_ne y1 ht_h0 (by decide))
      rw [y1n] at hf_o21
      refine tpk_pos (tp_in hG y1 (by decide)) hf_o21 (fun q23 eq23 => ?_)
      refine va_cald hx hb hK hP q23 2 eq23 rfl (vp_in_iff.mpr ⟨by omega, by omega⟩) dX2_advance_81 ?_
      refine lv_topi (fun z24 ez24 => ?_)
      refine pz_calli (va_runS (As := [.int z24]) (rest := []) ⟨hx, hb, hml, hown, hts⟩ (t_X2_isLetter l dC dI _ z24) (va_cwS 1 hts gX2_advance_X2_isLetter rfl rfl rfl pd_X2_isLetter ⟨Nat.le_of_ble_eq_true rfl, Nat.le_of_ble_eq_true rfl⟩) ⟨pz_blind, pz_pre pz_P0 (hK.sub (tys' := []) [] rfl) (pz_D0 (A := fun _ => True)) hN⟩ rfl rfl hl.1 rfl (lv_room (Nat.le_of_ble_eq_true rfl)) dX2_advance_82 ⟨Nat.le_of_ble_eq_true rfl, Nat.le_of_ble_eq_true rfl⟩) (fun r25 hw26 => ?_)
      obtain ⟨hw26r, hw26p⟩ := hw26
      refine lv_if_eq (tgt := 132) hx hb dX2_advance_85 (by decide) (fun c27 => ?_) (fun c27 => ?_)
      · have ic27 : r25.toInt = 0 := zi_eq rfl rfl c27
        refine lv_aload_n hx hb dX2_advance_132 rfl (lv_at hl 0 rfl) ?_
        refine va_get (D := (dC, dI)) (ci := 2) (v := .ref (ρ h0 0)) (C := RX2) (T := TX2) (N := 16) hx hb hts hfX2 hown hK hP q19 eq19 rfl 0 (by decide) (hts (.fieldLink RX2 11 "ColdShips$Reader" "tape" "[C") wa_119) (fun _ h9 => h9) rfl dX2_advance_133 ?_
        refine lv_aload_n hx hb dX2_advance_136 rfl (lv_at hl 0 rfl) ?_
        refine va_get (D := (dC, dI)) (ci := 2) (v := .int w9) (C := RX2) (T := TX2) (N := 16) hx hb hts hfX2 hown hK hP q19 eq19 rfl 3 (by decide) (hts (.fieldLink RX2 60 "ColdShips$Reader" "place" "I") wa_803) (fun _ h9 => h9) rfl dX2_advance_137 ?_
        refine va_cald hx hb hK hP q23 2 eq23 rfl (vp_in_iff.mpr ⟨by omega, by omega⟩) dX2_advance_140 ?_
        refine lv_topi (fun z28 ez28 => ?_)
        have jz28 : z28.toInt = z24.toInt := by rw [ez28, ez24]
        refine pz_calli (va_runS (As := [.int z28]) (rest := []) ⟨hx, hb, hml, hown, hts⟩ (t_X2_isDigit l dC dI _ z28 (z28.toInt) rfl) (va_cwS 1 hts gX2_advance_X2_isDigit rfl rfl rfl pd_X2_isDigit ⟨Nat.le_of_ble_eq_true rfl, Nat.le_of_ble_eq_true rfl⟩) ⟨pz_blind, pz_pre pz_P0 (hK.sub (tys' := []) [] rfl) (pz_D0 (A := fun _ => True)) hN⟩ rfl rfl hl.1 rfl (lv_room (Nat.le_of_ble_eq_true rfl)) dX2_advance_141 ⟨Nat.le_of_ble_eq_true rfl, Nat.le_of_ble_eq_true rfl⟩) (fun r29 hw30 => ?_)
        obtain ⟨hw30r, hw30p⟩ := hw30
        refine lv_if_eq (tgt := 225) hx hb dX2_advance_144 (by decide) (fun c31 => ?_) (fun c31 => ?_)
        · have ic31 : r29.toInt = 0 := zi_eq rfl rfl c31
          clear hw30r ic31
          refine lv_aload_n hx hb dX2_advance_225 rfl (lv_at hl 0 rfl) ?_
          refine lv_iconst (v := 3) hx hb dX2_advance_226 (by decide) ?_
          refine va_put (D := (dC, dI)) (ci := 2) (v := .int 3) (ty := .int) (C := RX2) (T := TX2) (N := 16) hx hb hts hfX2 tyX2 tyX2_ok nmX2 hown hK hP hD hS q19 eq19 rfl 4 (by decide) (hts (.fieldLink RX2 77 "ColdShips$Reader" "kind" "I") wa_811) (fun _ h9 => h9) rfl (tyX2_ok 4 (by decide)) rfl rfl (Nat.le_of_ble_eq_true rfl) dX2_advance_227 (tp_k (.inr (2, [.ref (ρ h0 0), .int o4_x1, .int o4_x2, .int w9, .int 3, .int w9, .int o4_x6, .ref (ρ h0 7), .int o4_x8, .ref (ρ h0 9), .int o4_x10, .int o4_x11, .int o4_x12, .int o4_x13, .int o4_x14, .int o4_x15])) hD (tp_in hG ht_h0 (by decide)) eq19 (fun f32 H locs hP hD hS g34 k33 => ?_))
          have hT := hT.up k33
          have hT := hT.close ht_h0 g34 ⟨_, _, _, _, _, _, _, _, _, _, _, _, _, rfl, ro4_0, (by first | decide | omega | (have : (3 : Int32).toInt = 3 := rfl; omega)), (by first | decide | omega | (have : (3 : Int32).toInt = 3 := rfl; omega)), ro4_3, ro4_4, ro4_5, (by first | decide | omega | (have : (3 : Int32).toInt = 3 := rfl; omega))⟩
          have hR := hR.up ht_h0 (by decide) k33
          have hB : tp_fld (f32 h0) 12 = B0 := by rw [g34]; show (o4_x12).toInt = B0; omega
          refine lv_aload_n hx hb dX2_advance_230 rfl (lv_at hl 0 rfl) ?_
          refine lv_dup hx hb dX2_advance_231 rfl ?_
          refine tpk_pos (tp_in hG ht_h0 (by decide)) g34 (fun q35 eq35 => ?_)
          refine va_get (D := (dC, dI)) (ci := 2) (v := .int w9) (C := RX2) (T := TX2) (N := 16) hx hb hts hfX2 hown hK hP q35 eq35 rfl 5 (by decide) (hts (.fieldLink RX2 29 "ColdShips$Reader" "behind" "I") wa_795) (fun _ h9 => h9) rfl dX2_advance_232 ?_
          refine lv_iconst (v := 1) hx hb dX2_advance_235 (by decide) ?_
          refine lv_iadd hx hb dX2_advance_236 ?_
          refine lv_topi (fun z36 ez36 => ?_)
          have iz36 : z36.toInt = w9.toInt + 1 := zi_add ez36 rfl rfl (by omega) (by omega)
          refine va_put (D := (dC, dI)) (ci := 2) (v := .int z36) (ty := .int) (C := RX2) (T := TX2) (N := 16) hx hb hts hfX2 tyX2 tyX2_ok nmX2 hown hK hP hD hS q35 eq35 rfl 5 (by decide) (hts (.fieldLink RX2 29 "ColdShips$Reader" "behind" "I") wa_795) (fun _ h9 => h9) rfl (tyX2_ok 5 (by decide)) rfl rfl (Nat.le_of_ble_eq_true rfl) dX2_advance_237 (tp_k (.inr (2, [.ref (ρ h0 0), .int o4_x1, .int o4_x2, .int w9, .int 3, .int z36, .int o4_x6, .ref (ρ h0 7), .int o4_x8, .ref (ρ h0 9), .int o4_x10, .int o4_x11, .int o4_x12, .int o4_x13, .int o4_x14, .int o4_x15])) hD (tp_in hG ht_h0 (by decide)) eq35 (fun f37 H locs hP hD hS g39 k38 => ?_))
          have hT := hT.up ht_h0 g39 k38 ⟨_, _, _, _, _, _, _, _, _, _, _, _, _, rfl, ro4_0, (by first | decide | omega | (have : (3 : Int32).toInt = 3 := rfl; omega)), (by first | decide | omega | (have : (3 : Int32).toInt = 3 := rfl; omega)), ro4_3, ro4_4, ro4_5, (by first | decide | omega | (have : (3 : Int32).toInt = 3 := rfl; omega))⟩
          have hR := hR.up ht_h0 (by decide) k38
          have hB : tp_fld (f37 h0) 12 = B0 := by rw [g39]; show (o4_x12).toInt = B0; omega
          exact W.vret hx hb hr (fun t ht hW => ⟨⟨f37, rfl, ⟨hT, hR, hB⟩, by rw [ht]; exact hP, va_K.moved hW.alike hK, hD⟩, hS.F ht⟩) hS.2.2 dX2_advance_240
        · have ic31 : r29.toInt ≠ 0 := zi_eqf rfl rfl c31
          have p40 : 48 ≤ (z28.toInt) ∧ (z28.toInt) ≤ 57 := (tp_cond.yes hw30p) (by omega)
          clear hw30r ic31
          refine lv_aload_n hx hb dX2_advance_147 rfl (lv_at hl 0 rfl) ?_
          refine lv_iconst (v := 2) hx hb dX2_advance_148 (by decide) ?_
          refine va_put (D := (dC, dI)) (ci := 2) (v := .int 2) (ty := .int) (C := RX2) (T := TX2) (N := 16) hx hb hts hfX2 tyX2 tyX2_ok nmX2 hown hK hP hD hS q19 eq19 rfl 4 (by decide) (hts (.fieldLink RX2 77 "ColdShips$Reader" "kind" "I") wa_811) (fun _ h9 => h9) rfl (tyX2_ok 4 (by decide)) rfl rfl (Nat.le_of_ble_eq_true rfl) dX2_advance_149 (tp_k (.inr (2, [.ref (ρ h0 0), .int o4_x1, .int o4_x2, .int w9, .int 2, .int w9, .int o4_x6, .ref (ρ h0 7), .int o4_x8, .ref (ρ h0 9), .int o4_x10, .int o4_x11, .int o4_x12, .int o4_x13, .int o4_x14, .int o4_x15])) hD (tp_in hG ht_h0 (by decide)) eq19 (fun f41 H locs hP hD hS g43 k42 => ?_))
          have hT := hT.up k42
          have hT := hT.close ht_h0 g43 ⟨_, _, _, _, _, _, _, _, _, _, _, _, _, rfl, ro4_0, (by first | decide | omega | (have : (2 : Int32).toInt = 2 := rfl; omega)), (by first | decide | omega | (have : (2 : Int32).toInt = 2 := rfl; omega)), ro4_3, ro4_4, ro4_5, (by first | decide | omega | (have : (2 : Int32).toInt = 2 := rfl; omega))⟩
          have hR := hR.up ht_h0 (by decide) k42
          have hB : tp_fld (f41 h0) 12 = B0 := by rw [g43]; show (o4_x12).toInt = B0; omega
          refine lv_aload_n hx hb dX2_advance_152 rfl (lv_at hl 0 rfl) ?_
          refine lv_iconst (v := 0) hx hb dX2_advance_153 (by decide) ?_
          refine tpk_pos (tp_in hG ht_h0 (by decide)) g43 (fun q44 eq44 => ?_)
          refine va_put (D := (dC, dI)) (ci := 2) (v := .int 0) (ty := .int) (C := RX2) (T := TX2) (N := 16) hx hb hts hfX2 tyX2 tyX2_ok nmX2 hown hK hP hD hS q44 eq44 rfl 6 (by decide) (hts (.fieldLink RX2 99 "ColdShips$Reader" "value" "I") wa_812) (fun _ h9 => h9) rfl (tyX2_ok 6 (by decide)) rfl rfl (Nat.le_of_ble_eq_true rfl) dX2_advance_154 (tp_k (.inr (2, [.ref (ρ h0 0), .int o4_x1, .int o4_x2, .int w9, .int 2, .int w9, .int 0, .ref (ρ h0 7), .int o4_x8, .ref (ρ h0 9), .int o4_x10, .int o4_x11, .int o4_x12, .int o4_x13, .int o4_x14, .int o4_x15])) hD (tp_in hG ht_h0 (by decide)) eq44 (fun f45 H locs hP hD hS g47 k46 => ?_))
          have hT := hT.up ht_h0 g47 k46 ⟨_, _, _, _, _, _, _, _, _, _, _, _, _, rfl, ro4_0, (by first | decide | omega | (have : (2 : Int32).toInt = 2 := rfl; have : (0 : Int32).toInt = 0 := rfl; omega)), (by first | decide | omega | (have : (2 : Int32).toInt = 2 := rfl; have : (0 : Int32).toInt = 0 := rfl; omega)), (by first | decide | omega | (have : (2 : Int32).toInt = 2 := rfl; have : (0 : Int32).toInt = 0 := rfl; omega)), ro4_4, ro4_5, (by first | decide | omega | (have : (2 : Int32).toInt = 2 := rfl; have : (0 : Int32).toInt = 0 := rfl; omega))⟩
          have hR := hR.up ht_h0 (by decide) k46
          have hB : tp_fld (f45 h0) 12 = B0 := by rw [g47]; show (o4_x12).toInt = B0; omega
          refine pz_loop (fun n0 H locs ls => ∃ f51 : Nat → va_E, ∃ w48 : Int32, ∃ w49 : Int32, n0 = ((o4_x1.toInt) - (w48.toInt)).toNat ∧ tp_T Ω κ τ ν ρ f51 ∧ tp_F τ [3] f f51 ∧ tp_fld (f51 h0) 12 = B0 ∧ f51 h0 = .inr (2, [.ref (ρ h0 0), .int o4_x1, .int o4_x2, .int w9, .int 2, .int w48, .int w49, .ref (ρ h0 7), .int o4_x8, .ref (ρ h0 9), .int o4_x10, .int o4_x11, .int o4_x12, .int o4_x13, .int o4_x14, .int o4_x15]) ∧ (0 ≤ w48.toInt ∧ w48.toInt ≤ 400) ∧ (0 ≤ w49.toInt ∧ w49.toInt ≤ 100001) ∧ va_P (dC, dI) vwCl (va_pl L f51) H ∧ va_D A (va_pl L f51) ∧ va_S A s.heap H locs ∧ lv_has ls 1 [(0, .ref h0)]) ?_ _ _ _ _ ⟨f45, w9, 0, rfl, hT, hR, hB, g47, (by have : (0 : Int32).toInt = 0 := rfl; omega), (by have : (0 : Int32).toInt = 0 := rfl; omega), hP, hD, hS, lv_sub hl [0] rfl⟩
          intro n0 H locs ls hI ih52
          refine Exists.elim hI (fun f51 hE90 => Exists.elim hE90 (fun w48 hE91 => Exists.elim hE91 (fun w49 hE92 => tn_11 hE92 (fun hn53 hT hR hB hk50k rw48 rw49 hP hD hS hl => ?_))))
          clear hE92 hE91 hE90 hI
          refine lv_aload_n hx hb dX2_advance_157 rfl (lv_at hl 0 rfl) ?_
          refine tpk_pos (tp_in hG ht_h0 (by decide)) hk50k (fun q54 eq54 => ?_)
          refine va_get (D := (dC, dI)) (ci := 2) (v := .int w48) (C := RX2) (T := TX2) (N := 16) hx hb hts hfX2 hown hK hP q54 eq54 rfl 5 (by decide) (hts (.fieldLink RX2 29 "ColdShips$Reader" "behind" "I") wa_795) (fun _ h9 => h9) rfl dX2_advance_158 ?_
          refine lv_aload_n hx hb dX2_advance_161 rfl (lv_at hl 0 rfl) ?_
          refine va_get (D := (dC, dI)) (ci := 2) (v := .int o4_x1) (C := RX2) (T := TX2) (N := 16) hx hb hts hfX2 hown hK hP q54 eq54 rfl 1 (by decide) (hts (.fieldLink RX2 26 "ColdShips$Reader" "size" "I") wa_765) (fun _ h9 => h9) rfl dX2_advance_162 ?_
          refine lv_icmp_ge (tgt := 240) hx hb dX2_advance_165 (by decide) (fun c55 => ?_) (fun c55 => ?_)
          · have ic55 : w48.toInt ≥ o4_x1.toInt := zi_ge rfl rfl c55
            exact W.vret hx hb hr (fun t ht hW => ⟨⟨f51, rfl, ⟨hT, hR, hB⟩, by rw [ht]; exact hP, va_K.moved hW.alike hK, hD⟩, hS.F ht⟩) hS.2.2 dX2_advance_240
          · have ic55 : w48.toInt < o4_x1.toInt := zi_gef rfl rfl c55
            refine lv_aload_n hx hb dX2_advance_168 rfl (lv_at hl 0 rfl) ?_
            refine va_get (D := (dC, dI)) (ci := 2) (v := .ref (ρ h0 0)) (C := RX2) (T := TX2) (N := 16) hx hb hts hfX2 hown hK hP q54 eq54 rfl 0 (by decide) (hts (.fieldLink RX2 11 "ColdShips$Reader" "tape" "[C") wa_119) (fun _ h9 => h9) rfl dX2_advance_169 ?_
            refine lv_aload_n hx hb dX2_advance_172 rfl (lv_at hl 0 rfl) ?_
            refine va_get (D := (dC, dI)) (ci := 2) (v := .int w48) (C := RX2) (T := TX2) (N := 16) hx hb hts hfX2 hown hK hP q54 eq54 rfl 5 (by decide) (hts (.fieldLink RX2 29 "ColdShips$Reader" "behind" "I") wa_795) (fun _ h9 => h9) rfl dX2_advance_173 ?_
            refine tpk_22 hT y1 y1n (fun g57 hf_o56 => ?_)
            refine tpk_pos (tp_in hG y1 (by decide)) hf_o56 (fun q58 eq58 => ?_)
            refine va_cald hx hb hK hP q58 2 eq58 rfl (vp_in_iff.mpr ⟨by omega, by omega⟩) dX2_advance_176 ?_
            refine lv_topi (fun z59 ez59 => ?_)
            refine pz_calli (va_runS (As := [.int z59]) (rest := []) ⟨hx, hb, hml, hown, hts⟩ (t_X2_isDigit l dC dI _ z59 (z59.toInt) rfl) (va_cwS 1 hts gX2_advance_X2_isDigit rfl rfl rfl pd_X2_isDigit ⟨Nat.le_of_ble_eq_true rfl, Nat.le_of_ble_eq_true rfl⟩) ⟨pz_blind, pz_pre pz_P0 (hK.sub (tys' := []) [] rfl) (pz_D0 (A := fun _ => True)) hN⟩ rfl rfl hl.1 rfl (lv_room (Nat.le_of_ble_eq_true rfl)) dX2_advance_177 ⟨Nat.le_of_ble_eq_true rfl, Nat.le_of_ble_eq_true rfl⟩) (fun r60 hw61 => ?_)
            obtain ⟨hw61r, hw61p⟩ := hw61
            refine lv_if_eq (tgt := 240) hx hb dX2_advance_180 (by decide) (fun c62 => ?_) (fun c62 => ?_)
            · have ic62 : r60.toInt = 0 := zi_eq rfl rfl c62
              clear hw61r ic62
              exact W.vret hx hb hr (fun t ht hW => ⟨⟨f51, rfl, ⟨hT, hR, hB⟩, by rw [ht]; exact hP, va_K.moved hW.alike hK, hD⟩, hS.F ht⟩) hS.2.2 dX2_advance_240
            · have ic62 : r60.toInt ≠ 0 := zi_eqf rfl rfl c62
              have p63 : 48 ≤ (z59.toInt) ∧ (z59.toInt) ≤ 57 := (tp_cond.yes hw61p) (by omega)
              clear hw61r ic62
              refine lv_aload_n hx hb dX2_advance_183 rfl (lv_at hl 0 rfl) ?_
              refine lv_ldc (own := RX2) (v := 100001) hx hb hown (hts (.constant RX2 205 (100001)) wa_813) dX2_advance_184 ?_
              refine lv_aload_n hx hb dX2_advance_186 rfl (lv_at hl 0 rfl) ?_
              refine va_get (D := (dC, dI)) (ci := 2) (v := .int w49) (C := RX2) (T := TX2) (N := 16) hx hb hts hfX2 hown hK hP q54 eq54 rfl 6 (by decide) (hts (.fieldLink RX2 99 "ColdShips$Reader" "value" "I") wa_812) (fun _ h9 => h9) rfl dX2_advance_187 ?_
              refine lv_bipush (v := 10) hx hb dX2_advance_190 (by decide) ?_
              refine lv_imul hx hb dX2_advance_192 ?_
              refine lv_topi (fun z64 ez64 => ?_)
              have iz64 : z64.toInt = w49.toInt * 10 := zi_mul ez64 rfl rfl (by omega) (by omega)
              refine lv_aload_n hx hb dX2_advance_193 rfl (lv_at hl 0 rfl) ?_
              refine va_get (D := (dC, dI)) (ci := 2) (v := .ref (ρ h0 0)) (C := RX2) (T := TX2) (N := 16) hx hb hts hfX2 hown hK hP q54 eq54 rfl 0 (by decide) (hts (.fieldLink RX2 11 "ColdShips$Reader" "tape" "[C") wa_119) (fun _ h9 => h9) rfl dX2_advance_194 ?_
              refine lv_aload_n hx hb dX2_advance_197 rfl (lv_at hl 0 rfl) ?_
              refine va_get (D := (dC, dI)) (ci := 2) (v := .int w48) (C := RX2) (T := TX2) (N := 16) hx hb hts hfX2 hown hK hP q54 eq54 rfl 5 (by decide) (hts (.fieldLink RX2 29 "ColdShips$Reader" "behind" "I") wa_795) (fun _ h9 => h9) rfl dX2_advance_198 ?_
              refine va_cald hx hb hK hP q58 2 eq58 rfl (vp_in_iff.mpr ⟨by omega, by omega⟩) dX2_advance_201 ?_
              refine lv_topi (fun z65 ez65 => ?_)
              have jz65 : z65.toInt = z59.toInt := by rw [ez65, ez59]
              refine lv_iadd hx hb dX2_advance_202 ?_
              refine lv_topi (fun z66 ez66 => ?_)
              have iz66 : z66.toInt = z64.toInt + z65.toInt := zi_add ez66 rfl rfl (by omega) (by omega)
              refine lv_bipush (v := 48) hx hb dX2_advance_203 (by decide) ?_
              refine lv_isub hx hb dX2_advance_205 ?_
              refine lv_topi (fun z67 ez67 => ?_)
              have iz67 : z67.toInt = z66.toInt - 48 := zi_sub ez67 rfl rfl (by omega) (by omega)
              refine va_mmin hx hb (by rw [hml]; exact hl.1.symm) hown (hts (.methodLink RX2 206 Lib.Math.min.name) wa_814) (hts (.static Lib.Math.min.name) wa_434) (hts (.initialized "java/lang/Math") wa_71) (hts (.code Lib.Math.min.name Lib.Math.min.code 2 (some .int)) wa_435) (Nat.le_of_ble_eq_true rfl) (Nat.le_of_ble_eq_true rfl) (Nat.le_of_ble_eq_true rfl) (Nat.le_of_ble_eq_true rfl) dX2_advance_206 ?_
              refine lv_topi (fun z68 ez68 => ?_)
              have iz68 := zi_min ez68 (show (100001 : Int32).toInt = 100001 from rfl) (rfl : z67.toInt = _)
              refine va_put (D := (dC, dI)) (ci := 2) (v := .int z68) (ty := .int) (C := RX2) (T := TX2) (N := 16) hx hb hts hfX2 tyX2 tyX2_ok nmX2 hown hK hP hD hS q54 eq54 rfl 6 (by decide) (hts (.fieldLink RX2 99 "ColdShips$Reader" "value" "I") wa_812) (fun _ h9 => h9) rfl (tyX2_ok 6 (by decide)) rfl rfl (Nat.le_of_ble_eq_true rfl) dX2_advance_209 (tp_k (.inr (2, [.ref (ρ h0 0), .int o4_x1, .int o4_x2, .int w9, .int 2, .int w48, .int z68, .ref (ρ h0 7), .int o4_x8, .ref (ρ h0 9), .int o4_x10, .int o4_x11, .int o4_x12, .int o4_x13, .int o4_x14, .int o4_x15])) hD (tp_in hG ht_h0 (by decide)) eq54 (fun f69 H locs hP hD hS g71 k70 => ?_))
              have hT := hT.up ht_h0 g71 k70 ⟨_, _, _, _, _, _, _, _, _, _, _, _, _, rfl, ro4_0, (by first | decide | omega | (have : (2 : Int32).toInt = 2 := rfl; omega)), (by first | decide | omega | (have : (2 : Int32).toInt = 2 := rfl; omega)), (by first | decide | omega | (have : (2 : Int32).toInt = 2 := rfl; omega)), ro4_4, ro4_5, (by first | decide | omega | (have : (2 : Int32).toInt = 2 := rfl; omega))⟩
              have hR := hR.up ht_h0 (by decide) k70
              have hB : tp_fld (f69 h0) 12 = B0 := by rw [g71]; show (o4_x12).toInt = B0; omega
              refine lv_aload_n hx hb dX2_advance_212 rfl (lv_at hl 0 rfl) ?_
              refine lv_dup hx hb dX2_advance_213 rfl ?_
              refine tpk_pos (tp_in hG ht_h0 (by decide)) g71 (fun q72 eq72 => ?_)
              refine va_get (D := (dC, dI)) (ci := 2) (v := .int w48) (C := RX2) (T := TX2) (N := 16) hx hb hts hfX2 hown hK hP q72 eq72 rfl 5 (by decide) (hts (.fieldLink RX2 29 "ColdShips$Reader" "behind" "I") wa_795) (fun _ h9 => h9) rfl dX2_advance_214 ?_
              refine lv_iconst (v := 1) hx hb dX2_advance_217 (by decide) ?_
              refine lv_iadd hx hb dX2_advance_218 ?_
              refine lv_topi (fun z73 ez73 => ?_)
              have iz73 : z73.toInt = w48.toInt + 1 := zi_add ez73 rfl rfl (by omega) (by omega)
              refine va_put (D := (dC, dI)) (ci := 2) (v := .int z73) (ty := .int) (C := RX2) (T := TX2) (N := 16) hx hb hts hfX2 tyX2 tyX2_ok nmX2 hown hK hP hD hS q72 eq72 rfl 5 (by decide) (hts (.fieldLink RX2 29 "ColdShips$Reader" "behind" "I") wa_795) (fun _ h9 => h9) rfl (tyX2_ok 5 (by decide)) rfl rfl (Nat.le_of_ble_eq_true rfl) dX2_advance_219 (tp_k (.inr (2, [.ref (ρ h0 0), .int o4_x1, .int o4_x2, .int w9, .int 2, .int z73, .int z68, .ref (ρ h0 7), .int o4_x8, .ref (ρ h0 9), .int o4_x10, .int o4_x11, .int o4_x12, .int o4_x13, .int o4_x14, .int o4_x15])) hD (tp_in hG ht_h0 (by decide)) eq72 (fun f74 H locs hP hD hS g76 k75 => ?_))
              have hT := hT.up ht_h0 g76 k75 ⟨_, _, _, _, _, _, _, _, _, _, _, _, _, rfl, ro4_0, (by first | decide | omega | (have : (2 : Int32).toInt = 2 := rfl; omega)), (by first | decide | omega | (have : (2 : Int32).toInt = 2 := rfl; omega)), (by first | decide | omega | (have : (2 : Int32).toInt = 2 := rfl; omega)), ro4_4, ro4_5, (by first | decide | omega | (have : (2 : Int32).toInt = 2 := rfl; omega))⟩
              have hR := hR.up ht_h0 (by decide) k75
              have hB : tp_fld (f74 h0) 12 = B0 := by rw [g76]; show (o4_x12).toInt = B0; omega
              refine lv_goto (tgt := 157) hx hb dX2_advance_222 (by decide) ?_
              exact ih52 _ _ _ _ (by rw [hn53]; omega) ⟨f74, z73, z68, rfl, hT, hR, hB, g76, (by omega), (by omega), hP, hD, hS, lv_sub hl [0] rfl⟩
      · have ic27 : r25.toInt ≠ 0 := zi_eqf rfl rfl c27
        refine lv_aload_n hx hb dX2_advance_88 rfl (lv_at hl 0 rfl) ?_
        refine lv_iconst (v := 1) hx hb dX2_advance_89 (by decide) ?_
        refine va_put (D := (dC, dI)) (ci := 2) (v := .int 1) (ty := .int) (C := RX2) (T := TX2) (N := 16) hx hb hts hfX2 tyX2 tyX2_ok nmX2 hown hK hP hD hS q19 eq19 rfl 4 (by decide) (hts (.fieldLink RX2 77 "ColdShips$Reader" "kind" "I") wa_811) (fun _ h9 => h9) rfl (tyX2_ok 4 (by decide)) rfl rfl (Nat.le_of_ble_eq_true rfl) dX2_advance_90 (tp_k (.inr (2, [.ref (ρ h0 0), .int o4_x1, .int o4_x2, .int w9, .int 1, .int w9, .int o4_x6, .ref (ρ h0 7), .int o4_x8, .ref (ρ h0 9), .int o4_x10, .int o4_x11, .int o4_x12, .int o4_x13, .int o4_x14, .int o4_x15])) hD (tp_in hG ht_h0 (by decide)) eq19 (fun f77 H locs hP hD hS g79 k78 => ?_))
        have hT := hT.up k78
        have hT := hT.close ht_h0 g79 ⟨_, _, _, _, _, _, _, _, _, _, _, _, _, rfl, ro4_0, (by first | decide | omega | (have : (1 : Int32).toInt = 1 := rfl; omega)), (by first | decide | omega | (have : (1 : Int32).toInt = 1 := rfl; omega)), ro4_3, ro4_4, ro4_5, (by first | decide | omega | (have : (1 : Int32).toInt = 1 := rfl; omega))⟩
        have hR := hR.up ht_h0 (by decide) k78
        have hB : tp_fld (f77 h0) 12 = B0 := by rw [g79]; show (o4_x12).toInt = B0; omega
        refine pz_loop (fun n0 H locs ls => ∃ f82 : Nat → va_E, ∃ w80 : Int32, n0 = ((o4_x1.toInt) - (w80.toInt)).toNat ∧ tp_T Ω κ τ ν ρ f82 ∧ tp_F τ [3] f f82 ∧ tp_fld (f82 h0) 12 = B0 ∧ f82 h0 = .inr (2, [.ref (ρ h0 0), .int o4_x1, .int o4_x2, .int w9, .int 1, .int w80, .int o4_x6, .ref (ρ h0 7), .int o4_x8, .ref (ρ h0 9), .int o4_x10, .int o4_x11, .int o4_x12, .int o4_x13, .int o4_x14, .int o4_x15]) ∧ (0 ≤ w80.toInt ∧ w80.toInt ≤ 400) ∧ va_P (dC, dI) vwCl (va_pl L f82) H ∧ va_D A (va_pl L f82) ∧ va_S A s.heap H locs ∧ lv_has ls 1 [(0, .ref h0)]) ?_ _ _ _ _ ⟨f77, w9, rfl, hT, hR, hB, g79, (by omega), hP, hD, hS, lv_sub hl [0] rfl⟩
        intro n0 H locs ls hI ih83
        refine Exists.elim hI (fun f82 hE90 => Exists.elim hE90 (fun w80 hE91 => tn_10 hE91 (fun hn84 hT hR hB hk81k rw80 hP hD hS hl => ?_)))
        clear hE91 hE90 hI
        refine lv_aload_n hx hb dX2_advance_93 rfl (lv_at hl 0 rfl) ?_
        refine tpk_pos (tp_in hG ht_h0 (by decide)) hk81k (fun q85 eq85 => ?_)
        refine va_get (D := (dC, dI)) (ci := 2) (v := .int w80) (C := RX2) (T := TX2) (N := 16) hx hb hts hfX2 hown hK hP q85 eq85 rfl 5 (by decide) (hts (.fieldLink RX2 29 "ColdShips$Reader" "behind" "I") wa_795) (fun _ h9 => h9) rfl dX2_advance_94 ?_
        refine lv_aload_n hx hb dX2_advance_97 rfl (lv_at hl 0 rfl) ?_
        refine va_get (D := (dC, dI)) (ci := 2) (v := .int o4_x1) (C := RX2) (T := TX2) (N := 16) hx hb hts hfX2 hown hK hP q85 eq85 rfl 1 (by decide) (hts (.fieldLink RX2 26 "ColdShips$Reader" "size" "I") wa_765) (fun _ h9 => h9) rfl dX2_advance_98 ?_
        refine lv_icmp_ge (tgt := 240) hx hb dX2_advance_101 (by decide) (fun c86 => ?_) (fun c86 => ?_)
        · have ic86 : w80.toInt ≥ o4_x1.toInt := zi_ge rfl rfl c86
          exact W.vret hx hb hr (fun t ht hW => ⟨⟨f82, rfl, ⟨hT, hR, hB⟩, by rw [ht]; exact hP, va_K.moved hW.alike hK, hD⟩, hS.F ht⟩) hS.2.2 dX2_advance_240
        · have ic86 : w80.toInt < o4_x1.toInt := zi_gef rfl rfl c86
          refine lv_aload_n hx hb dX2_advance_104 rfl (lv_at hl 0 rfl) ?_
          refine va_get (D := (dC, dI)) (ci := 2) (v := .ref (ρ h0 0)) (C := RX2) (T := TX2) (N := 16) hx hb hts hfX2 hown hK hP q85 eq85 rfl 0 (by decide) (hts (.fieldLink RX2 11 "ColdShips$Reader" "tape" "[C") wa_119) (fun _ h9 => h9) rfl dX2_advance_105 ?_
          refine lv_aload_n hx hb dX2_advance_108 rfl (lv_at hl 0 rfl) ?_
          refine va_get (D := (dC, dI)) (ci := 2) (v := .int w80) (C := RX2) (T := TX2) (N := 16) hx hb hts hfX2 hown hK hP q85 eq85 rfl 5 (by decide) (hts (.fieldLink RX2 29 "ColdShips$Reader" "behind" "I") wa_795) (fun _ h9 => h9) rfl dX2_advance_109 ?_
          refine tpk_22 hT y1 y1n (fun g88 hf_o87 => ?_)
          refine tpk_pos (tp_in hG y1 (by decide)) hf_o87 (fun q89 eq89 => ?_)
          refine va_cald hx hb hK hP q89 2 eq89 rfl (vp_in_iff.mpr ⟨by omega, by omega⟩) dX2_advance_112 ?_
          refine lv_topi (fun z90 ez90 => ?_)
          refine pz_calli (va_runS (As := [.int z90]) (rest := []) ⟨hx, hb, hml, hown, hts⟩ (t_X2_isLetter l dC dI _ z90) (va_cwS 1 hts gX2_advance_X2_isLetter rfl rfl rfl pd_X2_isLetter ⟨Nat.le_of_ble_eq_true rfl, Nat.le_of_ble_eq_true rfl⟩) ⟨pz_blind, pz_pre pz_P0 (hK.sub (tys' := []) [] rfl) (pz_D0 (A := fun _ => True)) hN⟩ rfl rfl hl.1 rfl (lv_room (Nat.le_of_ble_eq_true rfl)) dX2_advance_113 ⟨Nat.le_of_ble_eq_true rfl, Nat.le_of_ble_eq_true rfl⟩) (fun r91 hw92 => ?_)
          obtain ⟨hw92r, hw92p⟩ := hw92
          refine lv_if_eq (tgt := 240) hx hb dX2_advance_116 (by decide) (fun c93 => ?_) (fun c93 => ?_)
          · have ic93 : r91.toInt = 0 := zi_eq rfl rfl c93
            exact W.vret hx hb hr (fun t ht hW => ⟨⟨f82, rfl, ⟨hT, hR, hB⟩, by rw [ht]; exact hP, va_K.moved hW.alike hK, hD⟩, hS.F ht⟩) hS.2.2 dX2_advance_240
          · have ic93 : r91.toInt ≠ 0 := zi_eqf rfl rfl c93
            refine lv_aload_n hx hb dX2_advance_119 rfl (lv_at hl 0 rfl) ?_
            refine lv_dup hx hb dX2_advance_120 rfl ?_
            refine va_get (D := (dC, dI)) (ci := 2) (v := .int w80) (C := RX2) (T := TX2) (N := 16) hx hb hts hfX2 hown hK hP q85 eq85 rfl 5 (by decide) (hts (.fieldLink RX2 29 "ColdShips$Reader" "behind" "I") wa_795) (fun _ h9 => h9) rfl dX2_advance_121 ?_
            refine lv_iconst (v := 1) hx hb dX2_advance_124 (by decide) ?_
            refine lv_iadd hx hb dX2_advance_125 ?_
            refine lv_topi (fun z94 ez94 => ?_)
            have iz94 : z94.toInt = w80.toInt + 1 := zi_add ez94 rfl rfl (by omega) (by omega)
            refine va_put (D := (dC, dI)) (ci := 2) (v := .int z94) (ty := .int) (C := RX2) (T := TX2) (N := 16) hx hb hts hfX2 tyX2 tyX2_ok nmX2 hown hK hP hD hS q85 eq85 rfl 5 (by decide) (hts (.fieldLink RX2 29 "ColdShips$Reader" "behind" "I") wa_795) (fun _ h9 => h9) rfl (tyX2_ok 5 (by decide)) rfl rfl (Nat.le_of_ble_eq_true rfl) dX2_advance_126 (tp_k (.inr (2, [.ref (ρ h0 0), .int o4_x1, .int o4_x2, .int w9, .int 1, .int z94, .int o4_x6, .ref (ρ h0 7), .int o4_x8, .ref (ρ h0 9), .int o4_x10, .int o4_x11, .int o4_x12, .int o4_x13, .int o4_x14, .int o4_x15])) hD (tp_in hG ht_h0 (by decide)) eq85 (fun f95 H locs hP hD hS g97 k96 => ?_))
            have hT := hT.up ht_h0 g97 k96 ⟨_, _, _, _, _, _, _, _, _, _, _, _, _, rfl, ro4_0, (by first | decide | omega | (have : (1 : Int32).toInt = 1 := rfl; omega)), (by first | decide | omega | (have : (1 : Int32).toInt = 1 := rfl; omega)), ro4_3, ro4_4, ro4_5, (by first | decide | omega | (have : (1 : Int32).toInt = 1 := rfl; omega))⟩
            have hR := hR.up ht_h0 (by decide) k96
            have hB : tp_fld (f95 h0) 12 = B0 := by rw [g97]; show (o4_x12).toInt = B0; omega
            refine lv_goto (tgt := 93) hx hb dX2_advance_129 (by decide) ?_
            exact ih83 _ _ _ _ (by rw [hn84]; omega) ⟨f95, z94, rfl, hT, hR, hB, g97, (by omega), hP, hD, hS, lv_sub hl [0] rfl⟩
    · have ic20 : w9.toInt ≥ o4_x1.toInt := zi_ltf rfl rfl c20
      refine lv_aload_n hx hb dX2_advance_65 rfl (lv_at hl 0 rfl) ?_
      refine lv_iconst (v := 0) hx hb dX2_advance_66 (by decide) ?_
      refine va_put (D := (dC, dI)) (ci := 2) (v := .int 0) (ty := .int) (C := RX2) (T := TX2) (N := 16) hx hb hts hfX2 tyX2 tyX2_ok nmX2 hown hK hP hD hS q19 eq19 rfl 4 (by decide) (hts (.fieldLink RX2 77 "ColdShips$Reader" "kind" "I") wa_811) (fun _ h9 => h9) rfl (tyX2_ok 4 (by decide)) rfl rfl (Nat.le_of_ble_eq_true rfl) dX2_advance_67 (tp_k (.inr (2, [.ref (ρ h0 0), .int o4_x1, .int o4_x2, .int w9, .int 0, .int w9, .int o4_x6, .ref (ρ h0 7), .int o4_x8, .ref (ρ h0 9), .int o4_x10, .int o4_x11, .int o4_x12, .int o4_x13, .int o4_x14, .int o4_x15])) hD (tp_in hG ht_h0 (by decide)) eq19 (fun f98 H locs hP hD hS g100 k99 => ?_))
      have hT := hT.up k99
      have hT := hT.close ht_h0 g100 ⟨_, _, _, _, _, _, _, _, _, _, _, _, _, rfl, ro4_0, (by first | decide | omega | (have : (0 : Int32).toInt = 0 := rfl; omega)), (by first | decide | omega | (have : (0 : Int32).toInt = 0 := rfl; omega)), ro4_3, ro4_4, ro4_5, (by first | decide | omega | (have : (0 : Int32).toInt = 0 := rfl; omega))⟩
      have hR := hR.up ht_h0 (by decide) k99
      have hB : tp_fld (f98 h0) 12 = B0 := by rw [g100]; show (o4_x12).toInt = B0; omega
      refine lv_goto (tgt := 240) hx hb dX2_advance_70 (by decide) ?_
      exact W.vret hx hb hr (fun t ht hW => ⟨⟨f98, rfl, ⟨hT, hR, hB⟩, by rw [ht]; exact hP, va_K.moved hW.alike hK, hD⟩, hS.F ht⟩) hS.2.2 dX2_advance_240
  · refine lv_icmp_ge (tgt := 46) hx hb dX2_advance_16 (by decide) (fun c101 => ?_) (fun c101 => ?_)
    · have ic101 : w9.toInt ≥ o4_x1.toInt := zi_ge rfl rfl c101
      exact hj15 _ _ _ _ ⟨rfl, hP, hD, hS, lv_sub hl [0] rfl⟩
    · have ic101 : w9.toInt < o4_x1.toInt := zi_gef rfl rfl c101
      refine lv_aload_n hx hb dX2_advance_19 rfl (lv_at hl 0 rfl) ?_
      refine va_get (D := (dC, dI)) (ci := 2) (v := .ref (ρ h0 0)) (C := RX2) (T := TX2) (N := 16) hx hb hts hfX2 hown hK hP q14 eq14 rfl 0 (by decide) (hts (.fieldLink RX2 11 "ColdShips$Reader" "tape" "[C") wa_119) (fun _ h9 => h9) rfl dX2_advance_20 ?_
      refine lv_aload_n hx hb dX2_advance_23 rfl (lv_at hl 0 rfl) ?_
      refine va_get (D := (dC, dI)) (ci := 2) (v := .int w9) (C := RX2) (T := TX2) (N := 16) hx hb hts hfX2 hown hK hP q14 eq14 rfl 3 (by decide) (hts (.fieldLink RX2 60 "ColdShips$Reader" "place" "I") wa_803) (fun _ h9 => h9) rfl dX2_advance_24 ?_
      obtain ⟨g103, hf_o102⟩ := tp_atO hT y1 (by decide) (tp_ne y1 ht_h0 (by decide))
      rw [y1n] at hf_o102
      refine tpk_pos (tp_in hG y1 (by decide)) hf_o102 (fun q104 eq104 => ?_)
      refine va_cald hx hb hK hP q104 2 eq104 rfl (vp_in_iff.mpr ⟨by omega, by omega⟩) dX2_advance_27 ?_
      refine lv_topi (fun z105 ez105 => ?_)
      refine lv_bipush (v := 32) hx hb dX2_advance_28 (by decide) ?_
      refine lv_icmp_ne (tgt := 46) hx hb dX2_advance_30 (by decide) (fun c106 => ?_) (fun c106 => ?_)
      · have ic106 : z105.toInt ≠ 32 := zi_ne rfl rfl c106
        exact hj15 _ _ _ _ ⟨rfl, hP, hD, hS, lv_sub hl [0] rfl⟩
      · have ic106 : z105.toInt = 32 := zi_nef rfl rfl c106
        refine lv_aload_n hx hb dX2_advance_33 rfl (lv_at hl 0 rfl) ?_
        refine lv_dup hx hb dX2_advance_34 rfl ?_
        refine va_get (D := (dC, dI)) (ci := 2) (v := .int w9) (C := RX2) (T := TX2) (N := 16) hx hb hts hfX2 hown hK hP q14 eq14 rfl 3 (by decide) (hts (.fieldLink RX2 60 "ColdShips$Reader" "place" "I") wa_803) (fun _ h9 => h9) rfl dX2_advance_35 ?_
        refine lv_iconst (v := 1) hx hb dX2_advance_38 (by decide) ?_
        refine lv_iadd hx hb dX2_advance_39 ?_
        refine lv_topi (fun z107 ez107 => ?_)
        have iz107 : z107.toInt = w9.toInt + 1 := zi_add ez107 rfl rfl (by omega) (by omega)
        refine va_put (D := (dC, dI)) (ci := 2) (v := .int z107) (ty := .int) (C := RX2) (T := TX2) (N := 16) hx hb hts hfX2 tyX2 tyX2_ok nmX2 hown hK hP hD hS q14 eq14 rfl 3 (by decide) (hts (.fieldLink RX2 60 "ColdShips$Reader" "place" "I") wa_803) (fun _ h9 => h9) rfl (tyX2_ok 3 (by decide)) rfl rfl (Nat.le_of_ble_eq_true rfl) dX2_advance_40 (tp_k (.inr (2, [.ref (ρ h0 0), .int o4_x1, .int o4_x2, .int z107, .int o4_x4, .int o4_x5, .int o4_x6, .ref (ρ h0 7), .int o4_x8, .ref (ρ h0 9), .int o4_x10, .int o4_x11, .int o4_x12, .int o4_x13, .int o4_x14, .int o4_x15])) hD (tp_in hG ht_h0 (by decide)) eq14 (fun f108 H locs hP hD hS g110 k109 => ?_))
        have hT := hT.up k109
        have hR := hR.up ht_h0 (by decide) k109
        have hB : tp_fld (f108 h0) 12 = B0 := by rw [g110]; show (o4_x12).toInt = B0; omega
        refine lv_goto (tgt := 8) hx hb dX2_advance_43 (by decide) ?_
        exact ih12 _ _ _ _ (by rw [hn13]; omega) ⟨f108, z107, rfl, hT, hR, hB, g110, (by omega), hP, hD, hS, lv_sub hl [0] rfl⟩
set_option maxHeartbeats 4000000 in
set_option maxRecDepth 100000 in
theorem t_X2_isSign (l : Launch) (dC : Nat → ClassId) (dI : Nat → Nat → Nat) (sz : Nat) (Ω : Nat → Nat → (Nat → Nat) → va_E → Prop) (κ : Nat → ClassId) (τ ν : Nat → Nat) (ρ : Nat → Nat → Nat) (L : List Nat) (f : Nat → va_E) (hG : tp_G τ ν ρ L) (hT : tp_T Ω κ τ ν ρ f) (h0 : Nat) (v : Int32) (ht_h0 : τ h0 = 3) : Met l yX2_isSign wqX2_isSign ({ frames := 2, cells := 0, slots := 0, locals := 400 }) (va_Pc [.ref h0, .int v] (pz_B dC dI (tp_K κ) (va_pl L f) sz)) (vp_Si (fun r => (0 ≤ r.toInt ∧ r.toInt ≤ 1) ∧ True)) 0 0 (fun _ => False) := by
  refine Met.ofW (cc := cX2_isSign) (maxL := 2) (ret := some .boolean) (by decide) rfl ?_
  intro p e s m args below meth c s₁ B hml hv
  obtain ⟨rfl, hsz, hP, hK, hD0, hN⟩ := hv
  have hx := B.exec
  have hb := B.bytes
  have hr := B.returns
  have hts := fun (w : Cond) (h : w ∈ WALL) => atoms_spec (ws := wqX2_isSign) B.pre w (List.mem_cons_of_mem _ h)
  have hown : s.vm.findClass RX2 = some m.cls := findClass_of_methodNamed B.named
  have hlocks := B.notSynchronized
  subst hsz
  have hD := hD0
  have hS : va_S (fun _ => True) s.heap s.heap [] := va_S.rf
  have hl := lv_entry ([.ref h0, .int v]) (n := 2) (Nat.le_of_ble_eq_true rfl)
  rw [lg_entry_eq]
  generalize (lg_sl ([.ref h0, .int v]) ++ List.replicate (2 - (lg_sl ([.ref h0, .int v])).length) Slot.unset).toArray = ls at hl ⊢
  have hl : lv_has ls 2 [(0, .ref h0), (1, .int v)] := hl
  refine lv_aload_n hx hb dX2_isSign_0 rfl (lv_at hl 0 rfl) ?_
  refine tgk_3 hG ht_h0 (fun y1 y1n y2 y2n y3 y3n => ?_)
  refine tpk_3 hT ht_h0 (fun o4_x1 o4_x2 o4_x3 o4_x4 o4_x5 o4_x6 o4_x8 o4_x10 o4_x11 o4_x12 o4_x13 o4_x14 o4_x15 hf_o4 ro4_0 ro4_1 ro4_2 ro4_3 ro4_4 ro4_5 ro4_6 => ?_)
  refine tpk_pos (tp_in hG ht_h0 (by decide)) hf_o4 (fun q5 eq5 => ?_)
  have ro4_6 := tp_hu ro4_6
  refine va_get (D := (dC, dI)) (ci := 2) (v := .int o4_x4) (C := RX2) (T := TX2) (N := 16) hx hb hts hfX2 hown hK hP q5 eq5 rfl 4 (by decide) (hts (.fieldLink RX2 77 "ColdShips$Reader" "kind" "I") wa_811) (fun _ h9 => h9) rfl dX2_isSign_1 ?_
  refine lv_iconst (v := 3) hx hb dX2_isSign_4 (by decide) ?_
  refine lv_icmp_ne (tgt := 25) hx hb dX2_isSign_5 (by decide) (fun c6 => ?_) (fun c6 => ?_)
  · have ic6 : o4_x4.toInt ≠ 3 := zi_ne rfl rfl c6
    refine lv_iconst (v := 0) hx hb dX2_isSign_25 (by decide) ?_
    exact W.zret (v := 0) hx hb hr rfl (fun t ht hW => ⟨0, rfl, ⟨(by first | decide | omega), trivial⟩, ht⟩) (fun _ h => by cases h) dX2_isSign_26
  · have ic6 : o4_x4.toInt = 3 := zi_nef rfl rfl c6
    refine lv_aload_n hx hb dX2_isSign_8 rfl (lv_at hl 0 rfl) ?_
    refine va_get (D := (dC, dI)) (ci := 2) (v := .ref (ρ h0 0)) (C := RX2) (T := TX2) (N := 16) hx hb hts hfX2 hown hK hP q5 eq5 rfl 0 (by decide) (hts (.fieldLink RX2 11 "ColdShips$Reader" "tape" "[C") wa_119) (fun _ h9 => h9) rfl dX2_isSign_9 ?_
    refine lv_aload_n hx hb dX2_isSign_12 rfl (lv_at hl 0 rfl) ?_
    have ro4_1 := tp_hu ro4_1
    refine va_get (D := (dC, dI)) (ci := 2) (v := .int o4_x3) (C := RX2) (T := TX2) (N := 16) hx hb hts hfX2 hown hK hP q5 eq5 rfl 3 (by decide) (hts (.fieldLink RX2 60 "ColdShips$Reader" "place" "I") wa_803) (fun _ h9 => h9) rfl dX2_isSign_13 ?_
    refine tpk_22 hT y1 y1n (fun g8 hf_o7 => ?_)
    refine tpk_pos (tp_in hG y1 (by decide)) hf_o7 (fun q9 eq9 => ?_)
    refine va_cald hx hb hK hP q9 2 eq9 rfl (vp_in_iff.mpr ⟨by omega, by omega⟩) dX2_isSign_16 ?_
    refine lv_topi (fun z10 ez10 => ?_)
    refine lv_iload_n hx hb dX2_isSign_17 rfl (lv_at hl 1 rfl) ?_
    refine lv_icmp_ne (tgt := 25) hx hb dX2_isSign_18 (by decide) (fun c11 => ?_) (fun c11 => ?_)
    · have ic11 : z10.toInt ≠ v.toInt := zi_ne rfl rfl c11
      refine lv_iconst (v := 0) hx hb dX2_isSign_25 (by decide) ?_
      exact W.zret (v := 0) hx hb hr rfl (fun t ht hW => ⟨0, rfl, ⟨(by first | decide | omega), trivial⟩, ht⟩) (fun _ h => by cases h) dX2_isSign_26
    · have ic11 : z10.toInt = v.toInt := zi_nef rfl rfl c11
      refine lv_iconst (v := 1) hx hb dX2_isSign_21 (by decide) ?_
      refine lv_goto (tgt := 26) hx hb dX2_isSign_22 (by decide) ?_
      exact W.zret (v := 1) hx hb hr rfl (fun t ht hW => ⟨1, rfl, ⟨(by first | decide | omega), trivial⟩, ht⟩) (fun _ h => by cases h) dX2_isSign_26
set_option maxHeartbeats 4000000 in
set_option maxRecDepth 100000 in
theorem t_X2_isWord (l : Launch) (dC : Nat → ClassId) (dI : Nat → Nat → Nat) (sz : Nat) (Ω : Nat → Nat → (Nat → Nat) → va_E → Prop) (κ : Nat → ClassId) (τ ν : Nat → Nat) (ρ : Nat → Nat → Nat) (L : List Nat) (f : Nat → va_E) (hG : tp_G τ ν ρ L) (hT : tp_T Ω κ τ ν ρ f) (adK adV : Nat → Nat) (zv : Option Nat) (h0 : Nat) (k : Nat) (ht_h0 : τ h0 = 3) (hk_k : k < 17) : Met l yX2_isWord wqX2_isWord ({ frames := 6, cells := 0, slots := 0, locals := 2000 }) (va_Pc [.ref h0, .ref (adK k)] (pw_BZ dC dI (tp_K κ) (va_pl L f) sz adK adV zv)) (vp_Si (fun r => (0 ≤ r.toInt ∧ r.toInt ≤ 1) ∧ True)) 0 0 (fun _ => False) := by
  refine Met.ofW (cc := cX2_isWord) (maxL := 3) (ret := some .boolean) (by decide) rfl ?_
  intro p e s m args below meth c s₁ B hml hv
  obtain ⟨rfl, ⟨hsz, hP, hK, hD0, hN⟩, hZ⟩ := hv
  have hx := B.exec
  have hb := B.bytes
  have hr := B.returns
  have hts := fun (w : Cond) (h : w ∈ WALL) => atoms_spec (ws := wqX2_isWord) B.pre w (List.mem_cons_of_mem _ h)
  have hown : s.vm.findClass RX2 = some m.cls := findClass_of_methodNamed B.named
  have hlocks := B.notSynchronized
  subst hsz
  have hD := hD0
  have hS : va_S (fun _ => True) s.heap s.heap [] := va_S.rf
  have hSZ : va_S (va_A (va_pl L f) s.heap.size) s.heap s.heap [] := va_S.rf
  have hl := lv_entry ([.ref h0, .ref (adK k)]) (n := 3) (Nat.le_of_ble_eq_true rfl)
  rw [lg_entry_eq]
  generalize (lg_sl ([.ref h0, .ref (adK k)]) ++ List.replicate (3 - (lg_sl ([.ref h0, .ref (adK k)])).length) Slot.unset).toArray = ls at hl ⊢
  have hl : lv_has ls 3 [(0, .ref h0), (1, .ref (adK k))] := hl
  refine lv_aload_n hx hb dX2_isWord_0 rfl (lv_at hl 0 rfl) ?_
  refine tgk_3 hG ht_h0 (fun y1 y1n y2 y2n y3 y3n => ?_)
  refine tpk_3 hT ht_h0 (fun o4_x1 o4_x2 o4_x3 o4_x4 o4_x5 o4_x6 o4_x8 o4_x10 o4_x11 o4_x12 o4_x13 o4_x14 o4_x15 hf_o4 ro4_0 ro4_1 ro4_2 ro4_3 ro4_4 ro4_5 ro4_6 => ?_)
  refine tpk_pos (tp_in hG ht_h0 (by decide)) hf_o4 (fun q5 eq5 => ?_)
  have ro4_6 := tp_hu ro4_6
  refine va_get (D := (dC, dI)) (ci := 2) (v := .int o4_x4) (C := RX2) (T := TX2) (N := 16) hx hb hts hfX2 hown hK hP q5 eq5 rfl 4 (by decide) (hts (.fieldLink RX2 77 "ColdShips$Reader" "kind" "I") wa_811) (fun _ h9 => h9) rfl dX2_isWord_1 ?_
  refine lv_iconst (v := 1) hx hb dX2_isWord_4 (by decide) ?_
  refine lv_icmp_ne (tgt := 24) hx hb dX2_isWord_5 (by decide) (fun c6 => ?_) (fun c6 => ?_)
  · have ic6 : o4_x4.toInt ≠ 1 := zi_ne rfl rfl c6
    refine lv_iconst (v := 0) hx hb dX2_isWord_24 (by decide) ?_
    exact W.zret (v := 0) hx hb hr rfl (fun t ht hW => ⟨0, rfl, ⟨(by first | decide | omega), trivial⟩, ht⟩) (fun _ h => by cases h) dX2_isWord_25
  · have ic6 : o4_x4.toInt = 1 := zi_nef rfl rfl c6
    refine lv_aload_n hx hb dX2_isWord_8 rfl (lv_at hl 0 rfl) ?_
    have ro4_2 := tp_hu ro4_2
    refine va_get (D := (dC, dI)) (ci := 2) (v := .int o4_x5) (C := RX2) (T := TX2) (N := 16) hx hb hts hfX2 hown hK hP q5 eq5 rfl 5 (by decide) (hts (.fieldLink RX2 29 "ColdShips$Reader" "behind" "I") wa_795) (fun _ h9 => h9) rfl dX2_isWord_9 ?_
    refine lv_aload_n hx hb dX2_isWord_12 rfl (lv_at hl 0 rfl) ?_
    have ro4_1 := tp_hu ro4_1
    refine va_get (D := (dC, dI)) (ci := 2) (v := .int o4_x3) (C := RX2) (T := TX2) (N := 16) hx hb hts hfX2 hown hK hP q5 eq5 rfl 3 (by decide) (hts (.fieldLink RX2 60 "ColdShips$Reader" "place" "I") wa_803) (fun _ h9 => h9) rfl dX2_isWord_13 ?_
    refine lv_isub hx hb dX2_isWord_16 ?_
    refine lv_topi (fun z7 ez7 => ?_)
    have iz7 : z7.toInt = o4_x5.toInt - o4_x3.toInt := zi_sub ez7 rfl rfl (by omega) (by omega)
    refine lv_aload_n hx hb dX2_isWord_17 rfl (lv_at hl 1 rfl) ?_
    refine pz_calli (va_runV (As := []) (rest := [.int z7]) ⟨hx, hb, hml, hown, hts⟩ (t_J0_length_8abf5 l dC dI _ adK adV zv k hk_k) (cwV 0 hts gX2_isWord_J0_length_8abf5 rfl rfl rfl ⟨rfl, pd_J0_length_8abf5⟩ ⟨Nat.le_of_ble_eq_true rfl, Nat.le_of_ble_eq_true rfl⟩) ⟨pw_blindZ, vk_recv hZ.1 hk_k hSZ, pw_preZ pz_P0 (hK.sub (tys' := []) [] rfl) (pz_D0 (A := fun _ => True)) hN hZ hSZ (fun q h9 => Or.inr (pz_A0 h9))⟩ rfl rfl hl.1 rfl (lv_room (Nat.le_of_ble_eq_true rfl)) dX2_isWord_18 ⟨Nat.le_of_ble_eq_true rfl, Nat.le_of_ble_eq_true rfl⟩) (fun r8 hw9 => ?_)
    obtain ⟨hw9r, hw9p⟩ := hw9
    refine lv_icmp_eq (tgt := 26) hx hb dX2_isWord_21 (by decide) (fun c10 => ?_) (fun c10 => ?_)
    · have ic10 : z7.toInt = r8.toInt := zi_eq rfl rfl c10
      refine lv_iconst (v := 0) hx hb dX2_isWord_26 (by decide) ?_
      refine lv_istore_n (lv' := [(2, .int 0), (0, .ref h0), (1, .ref (adK k))]) hx hb dX2_isWord_27 rfl hl (by decide) rfl (fun ls hl => ?_)
      refine pz_loop (fun n0 H locs ls => ∃ w11 : Int32, n0 = (9 - (w11.toInt)).toNat ∧ (0 ≤ w11.toInt ∧ w11.toInt ≤ 9) ∧ H = s.heap ∧ locs = [] ∧ lv_has ls 3 [(2, .int w11), (0, .ref h0), (1, .ref (adK k))]) ?_ _ _ _ _ ⟨0, rfl, (by have : (0 : Int32).toInt = 0 := rfl; omega), rfl, rfl, lv_sub hl [0, 1, 2] rfl⟩
      intro n0 H locs ls hI ih12
      refine Exists.elim hI (fun w11 hE90 => tn_5 hE90 (fun hn13 rw11 e92 e93 hl => ?_))
      clear hE90 hI; subst e92; subst e93
      refine lv_iload_n hx hb dX2_isWord_28 rfl (lv_at hl 0 rfl) ?_
      refine lv_aload_n hx hb dX2_isWord_29 rfl (lv_at hl 2 rfl) ?_
      refine pz_calli (va_runV (As := []) (rest := [.int w11]) ⟨hx, hb, hml, hown, hts⟩ (t_J0_length_8abf5 l dC dI _ adK adV zv k hk_k) (cwV 0 hts gX2_isWord_J0_length_8abf5 rfl rfl rfl ⟨rfl, pd_J0_length_8abf5⟩ ⟨Nat.le_of_ble_eq_true rfl, Nat.le_of_ble_eq_true rfl⟩) ⟨pw_blindZ, vk_recv hZ.1 hk_k hSZ, pw_preZ pz_P0 (hK.sub (tys' := []) [] rfl) (pz_D0 (A := fun _ => True)) hN hZ hSZ (fun q h9 => Or.inr (pz_A0 h9))⟩ rfl rfl hl.1 rfl (lv_room (Nat.le_of_ble_eq_true rfl)) dX2_isWord_30 ⟨Nat.le_of_ble_eq_true rfl, Nat.le_of_ble_eq_true rfl⟩) (fun r14 hw15 => ?_)
      obtain ⟨hw15r, hw15p⟩ := hw15
      refine lv_icmp_ge (tgt := 63) hx hb dX2_isWord_33 (by decide) (fun c16 => ?_) (fun c16 => ?_)
      · have ic16 : w11.toInt ≥ r14.toInt := zi_ge rfl rfl c16
        refine lv_iconst (v := 1) hx hb dX2_isWord_63 (by decide) ?_
        exact W.zret (v := 1) hx hb hr rfl (fun t ht hW => ⟨1, rfl, ⟨(by first | decide | omega), trivial⟩, ht⟩) (fun _ h => by cases h) dX2_isWord_64
      · have ic16 : w11.toInt < r14.toInt := zi_gef rfl rfl c16
        refine lv_aload_n hx hb dX2_isWord_36 rfl (lv_at hl 1 rfl) ?_
        refine va_get (D := (dC, dI)) (ci := 2) (v := .ref (ρ h0 0)) (C := RX2) (T := TX2) (N := 16) hx hb hts hfX2 hown hK hP q5 eq5 rfl 0 (by decide) (hts (.fieldLink RX2 11 "ColdShips$Reader" "tape" "[C") wa_119) (fun _ h9 => h9) rfl dX2_isWord_37 ?_
        refine lv_aload_n hx hb dX2_isWord_40 rfl (lv_at hl 1 rfl) ?_
        refine va_get (D := (dC, dI)) (ci := 2) (v := .int o4_x3) (C := RX2) (T := TX2) (N := 16) hx hb hts hfX2 hown hK hP q5 eq5 rfl 3 (by decide) (hts (.fieldLink RX2 60 "ColdShips$Reader" "place" "I") wa_803) (fun _ h9 => h9) rfl dX2_isWord_41 ?_
        refine lv_iload_n hx hb dX2_isWord_44 rfl (lv_at hl 0 rfl) ?_
        refine lv_iadd hx hb dX2_isWord_45 ?_
        refine lv_topi (fun z17 ez17 => ?_)
        have iz17 : z17.toInt = o4_x3.toInt + w11.toInt := zi_add ez17 rfl rfl (by omega) (by omega)
        refine tpk_22 hT y1 y1n (fun g19 hf_o18 => ?_)
        refine tpk_pos (tp_in hG y1 (by decide)) hf_o18 (fun q20 eq20 => ?_)
        refine va_cald hx hb hK hP q20 2 eq20 rfl (vp_in_iff.mpr ⟨by omega, by omega⟩) dX2_isWord_46 ?_
        refine lv_topi (fun z21 ez21 => ?_)
        refine lv_aload_n hx hb dX2_isWord_47 rfl (lv_at hl 2 rfl) ?_
        refine lv_iload_n hx hb dX2_isWord_48 rfl (lv_at hl 0 rfl) ?_
        refine pz_calli (va_runV (As := [.int w11]) (rest := [.int z21]) ⟨hx, hb, hml, hown, hts⟩ (t_J0_charAt_5068e l dC dI _ adK adV zv k w11 hk_k (by omega)) (cwV 1 hts gX2_isWord_J0_charAt_5068e rfl rfl rfl ⟨rfl, pd_J0_charAt_5068e⟩ ⟨Nat.le_of_ble_eq_true rfl, Nat.le_of_ble_eq_true rfl⟩) ⟨pw_blindZ, vk_recv hZ.1 hk_k hSZ, pw_preZ pz_P0 (hK.sub (tys' := []) [] rfl) (pz_D0 (A := fun _ => True)) hN hZ hSZ (fun q h9 => Or.inr (pz_A0 h9))⟩ rfl rfl hl.1 rfl (lv_room (Nat.le_of_ble_eq_true rfl)) dX2_isWord_49 ⟨Nat.le_of_ble_eq_true rfl, Nat.le_of_ble_eq_true rfl⟩) (fun r22 hw23 => ?_)
        obtain ⟨hw23r, hw23p⟩ := hw23
        refine lv_icmp_eq (tgt := 57) hx hb dX2_isWord_52 (by decide) (fun c24 => ?_) (fun c24 => ?_)
        · have ic24 : z21.toInt = r22.toInt := zi_eq rfl rfl c24
          obtain ⟨z25, ez25⟩ : ∃ y : Int32, y = w11 + 1 := ⟨_, rfl⟩
          refine lv_iinc (v := z25) (lv' := [(2, .int z25), (0, .ref h0), (1, .ref (adK k))]) hx hb dX2_isWord_57 hl (k := 0) rfl (by rw [ez25]; rfl) (by decide) rfl (fun ls hl => ?_)
          have iz25 : z25.toInt = w11.toInt + 1 := zi_add ez25 rfl rfl (by omega) (by omega)
          refine lv_goto (tgt := 28) hx hb dX2_isWord_60 (by decide) ?_
          exact ih12 _ _ _ _ (by rw [hn13]; omega) ⟨z25, rfl, (by omega), rfl, rfl, lv_sub hl [0, 1, 2] rfl⟩
        · have ic24 : z21.toInt ≠ r22.toInt := zi_eqf rfl rfl c24
          refine lv_iconst (v := 0) hx hb dX2_isWord_55 (by decide) ?_
          exact W.zret (v := 0) hx hb hr rfl (fun t ht hW => ⟨0, rfl, ⟨(by first | decide | omega), trivial⟩, ht⟩) (fun _ h => by cases h) dX2_isWord_56
    · have ic10 : z7.toInt ≠ r8.toInt := zi_eqf rfl rfl c10
      refine lv_iconst (v := 0) hx hb dX2_isWord_24 (by decide) ?_
      exact W.zret (v := 0) hx hb hr rfl (fun t ht hW => ⟨0, rfl, ⟨(by first | decide | omega), trivial⟩, ht⟩) (fun _ h => by cases h) dX2_isWord_25
set_option maxHeartbeats 4000000 in
set_option maxRecDepth 100000 in
theorem t_X2_passWord (l : Launch) (dC : Nat → ClassId) (dI : Nat → Nat → Nat) (sz : Nat) (Ω : Nat → Nat → (Nat → Nat) → va_E → Prop) (κ : Nat → ClassId) (τ ν : Nat → Nat) (ρ : Nat → Nat → Nat) (L : List Nat) (f : Nat → va_E) (hG : tp_G τ ν ρ L) (hT : tp_T Ω κ τ ν ρ f) (adK adV : Nat → Nat) (zv : Option Nat) (h0 : Nat) (k : Nat) (B0 : Int) (ht_h0 : τ h0 = 3) (hk_k : k < 17) (hB : tp_fld (f h0) 12 = B0) : Met l yX2_passWord wqX2_passWord ({ frames := 7, cells := 0, slots := 0, locals := 2400 }) (va_Pc [.ref h0, .ref (adK k)] (pw_BZ dC dI (tp_K κ) (va_pl L f) sz adK adV zv)) (va_Qi (fun (r : Int32) (f1 : Nat → va_E) => tp_T Ω κ τ ν ρ f1 ∧ tp_F τ [3] f f1 ∧ (0 ≤ r.toInt ∧ r.toInt ≤ 1) ∧ tp_fld (f1 h0) 12 = B0) (fun (f1 : Nat → va_E) (t : State) => pz_E dC dI (tp_K κ) (va_A (va_pl L f) sz) (va_pl L f1) t) (va_A (va_pl L f) sz)) 0 0 (va_A (va_pl L f) sz) := by
  refine Met.ofW (cc := cX2_passWord) (maxL := 3) (ret := some .boolean) (by decide) rfl ?_
  intro p e s m args below meth c s₁ B hml hv
  obtain ⟨rfl, ⟨hsz, hP, hK, hD0, hN⟩, hZ⟩ := hv
  have hx := B.exec
  have hb := B.bytes
  have hr := B.returns
  have hts := fun (w : Cond) (h : w ∈ WALL) => atoms_spec (ws := wqX2_passWord) B.pre w (List.mem_cons_of_mem _ h)
  have hown : s.vm.findClass RX2 = some m.cls := findClass_of_methodNamed B.named
  have hlocks := B.notSynchronized
  subst hsz
  have hD := hD0.self (sz := s.heap.size)
  generalize hAe : va_A (va_pl L f) s.heap.size = A at hD hZ ⊢
  have hA : ∀ q : Nat, s.heap.size ≤ q → A q := fun q h => by rw [← hAe]; exact Or.inr h
  have hS : va_S A s.heap s.heap [] := va_S.rf
  have hR : tp_F τ [3] f f := tp_F.rf
  have hl := lv_entry ([.ref h0, .ref (adK k)]) (n := 3) (Nat.le_of_ble_eq_true rfl)
  rw [lg_entry_eq]
  generalize (lg_sl ([.ref h0, .ref (adK k)]) ++ List.replicate (3 - (lg_sl ([.ref h0, .ref (adK k)])).length) Slot.unset).toArray = ls at hl ⊢
  have hl : lv_has ls 3 [(0, .ref h0), (1, .ref (adK k))] := hl
  refine lv_aload_n hx hb dX2_passWord_0 rfl (lv_at hl 0 rfl) ?_
  refine lv_aload_n hx hb dX2_passWord_1 rfl (lv_at hl 1 rfl) ?_
  refine tgk_3 hG ht_h0 (fun y1 y1n y2 y2n y3 y3n => ?_)
  refine tpk_3 hT ht_h0 (fun o4_x1 o4_x2 o4_x3 o4_x4 o4_x5 o4_x6 o4_x8 o4_x10 o4_x11 o4_x12 o4_x13 o4_x14 o4_x15 hf_o4 ro4_0 ro4_1 ro4_2 ro4_3 ro4_4 ro4_5 ro4_6 => ?_)
  have bo4 : o4_x12.toInt = B0 := by have q9 := hB; rw [hf_o4] at q9; exact q9
  refine tpk_pos (tp_in hG ht_h0 (by decide)) hf_o4 (fun q5 eq5 => ?_)
  refine pz_calli (va_runV (As := [.ref (adK k)]) (rest := []) ⟨hx, hb, hml, hown, hts⟩ (t_X2_isWord l dC dI _ Ω κ τ ν ρ L f hG hT adK adV zv h0 k ht_h0 hk_k) (cwV 1 hts gX2_passWord_X2_isWord rfl rfl rfl ⟨rfl, pd_X2_isWord⟩ ⟨Nat.le_of_ble_eq_true rfl, Nat.le_of_ble_eq_true rfl⟩) ⟨pw_blindZ, va_recv hK hP (ci := 2) (q0 := q5) rfl eq5, pw_preZ hP hK hD hN hZ hS (tp_fr hD hS hA)⟩ rfl rfl hl.1 rfl (lv_room (Nat.le_of_ble_eq_true rfl)) dX2_passWord_2 ⟨Nat.le_of_ble_eq_true rfl, Nat.le_of_ble_eq_true rfl⟩) (fun r6 hw7 => ?_)
  obtain ⟨hw7r, hw7p⟩ := hw7
  refine lv_istore_n (lv' := [(2, .int r6), (0, .ref h0), (1, .ref (adK k))]) hx hb dX2_passWord_5 rfl hl (by decide) rfl (fun ls hl => ?_)
  refine lv_iload_n hx hb dX2_passWord_6 rfl (lv_at hl 0 rfl) ?_
  refine lv_if_eq (tgt := 14) hx hb dX2_passWord_7 (by decide) (fun c8 => ?_) (fun c8 => ?_)
  · have ic8 : r6.toInt = 0 := zi_eq rfl rfl c8
    refine lv_iload_n hx hb dX2_passWord_14 rfl (lv_at hl 0 rfl) ?_
    exact W.zret (v := r6) hx hb hr (zi_narZ (by omega) (by omega)) (fun t ht hW => ⟨⟨r6, f, rfl, ⟨hT, hR, (by first | decide | omega), hB⟩, by rw [ht]; exact hP, va_K.moved hW.alike hK, hD⟩, hS.F ht⟩) hS.2.2 dX2_passWord_15
  · have ic8 : r6.toInt ≠ 0 := zi_eqf rfl rfl c8
    refine lv_aload_n hx hb dX2_passWord_10 rfl (lv_at hl 1 rfl) ?_
    have hFc := tp_fr hD hS hA
    refine va_callv (va_runV (As := []) (rest := []) ⟨hx, hb, hml, hown, hts⟩ (t_X2_advance l dC dI _ Ω κ τ ν ρ L f hG hT h0 B0 ht_h0 hB) (cwV 0 hts gX2_passWord_X2_advance rfl rfl rfl ⟨rfl, pd_X2_advance⟩ ⟨Nat.le_of_ble_eq_true rfl, Nat.le_of_ble_eq_true rfl⟩) ⟨pz_blind, va_recv hK hP (ci := 2) (q0 := q5) rfl eq5, pz_pre hP hK hD hN⟩ rfl rfl hl.1 rfl (lv_room (Nat.le_of_ble_eq_true rfl)) dX2_passWord_11 ⟨Nat.le_of_ble_eq_true rfl, Nat.le_of_ble_eq_true rfl⟩) hS (fun q _ h => hFc q h) hFc (fun f11 t H1 locs ht hvm hw10 hB hz1 hk1 hS => ?_)
    refine tn_3 hw10 (fun hT hF12 hw10p => ?_); clear hw10
    have hR := hR.then hF12 (by decide)
    have hP := hB.1; rw [ht] at hP; have hD := tp_ad f11 hD; clear hB hFc hz1 hk1; subst ht; generalize t.heap = H at hP hS ⊢
    have hB := hw10p
    refine lv_iload_n hx hb dX2_passWord_14 rfl (lv_at hl 0 rfl) ?_
    exact W.zret (v := r6) hx hb hr (zi_narZ (by omega) (by omega)) (fun t ht hW => ⟨⟨r6, f11, rfl, ⟨hT, hR, (by first | decide | omega), hB⟩, by rw [ht]; exact hP, va_K.moved hW.alike hK, hD⟩, hS.F ht⟩) hS.2.2 dX2_passWord_15
set_option maxHeartbeats 4000000 in
set_option maxRecDepth 100000 in
theorem t_X2_passSign (l : Launch) (dC : Nat → ClassId) (dI : Nat → Nat → Nat) (sz : Nat) (Ω : Nat → Nat → (Nat → Nat) → va_E → Prop) (κ : Nat → ClassId) (τ ν : Nat → Nat) (ρ : Nat → Nat → Nat) (L : List Nat) (f : Nat → va_E) (hG : tp_G τ ν ρ L) (hT : tp_T Ω κ τ ν ρ f) (h0 : Nat) (v : Int32) (B0 : Int) (ht_h0 : τ h0 = 3) (hB : tp_fld (f h0) 12 = B0) : Met l yX2_passSign wqX2_passSign ({ frames := 4, cells := 0, slots := 0, locals := 1200 }) (va_Pc [.ref h0, .int v] (pz_B dC dI (tp_K κ) (va_pl L f) sz)) (va_Qi (fun (r : Int32) (f1 : Nat → va_E) => tp_T Ω κ τ ν ρ f1 ∧ tp_F τ [3] f f1 ∧ (0 ≤ r.toInt ∧ r.toInt ≤ 1) ∧ tp_fld (f1 h0) 12 = B0) (fun (f1 : Nat → va_E) (t : State) => pz_E dC dI (tp_K κ) (va_A (va_pl L f) sz) (va_pl L f1) t) (va_A (va_pl L f) sz)) 0 0 (va_A (va_pl L f) sz) := by
  refine Met.ofW (cc := cX2_passSign) (maxL := 3) (ret := some .boolean) (by decide) rfl ?_
  intro p e s m args below meth c s₁ B hml hv
  obtain ⟨rfl, hsz, hP, hK, hD0, hN⟩ := hv
  have hx := B.exec
  have hb := B.bytes
  have hr := B.returns
  have hts := fun (w : Cond) (h : w ∈ WALL) => atoms_spec (ws := wqX2_passSign) B.pre w (List.mem_cons_of_mem _ h)
  have hown : s.vm.findClass RX2 = some m.cls := findClass_of_methodNamed B.named
  have hlocks := B.notSynchronized
  subst hsz
  have hD := hD0.self (sz := s.heap.size)
  generalize hAe : va_A (va_pl L f) s.heap.size = A at hD ⊢
  have hA : ∀ q : Nat, s.heap.size ≤ q → A q := fun q h => by rw [← hAe]; exact Or.inr h
  have hS : va_S A s.heap s.heap [] := va_S.rf
  have hR : tp_F τ [3] f f := tp_F.rf
  have hl := lv_entry ([.ref h0, .int v]) (n := 3) (Nat.le_of_ble_eq_true rfl)
  rw [lg_entry_eq]
  generalize (lg_sl ([.ref h0, .int v]) ++ List.replicate (3 - (lg_sl ([.ref h0, .int v])).length) Slot.unset).toArray = ls at hl ⊢
  have hl : lv_has ls 3 [(0, .ref h0), (1, .int v)] := hl
  refine lv_aload_n hx hb dX2_passSign_0 rfl (lv_at hl 0 rfl) ?_
  refine lv_iload_n hx hb dX2_passSign_1 rfl (lv_at hl 1 rfl) ?_
  refine tgk_3 hG ht_h0 (fun y1 y1n y2 y2n y3 y3n => ?_)
  refine tpk_3 hT ht_h0 (fun o4_x1 o4_x2 o4_x3 o4_x4 o4_x5 o4_x6 o4_x8 o4_x10 o4_x11 o4_x12 o4_x13 o4_x14 o4_x15 hf_o4 ro4_0 ro4_1 ro4_2 ro4_3 ro4_4 ro4_5 ro4_6 => ?_)
  have bo4 : o4_x12.toInt = B0 := by have q9 := hB; rw [hf_o4] at q9; exact q9
  refine tpk_pos (tp_in hG ht_h0 (by decide)) hf_o4 (fun q5 eq5 => ?_)
  refine pz_calli (va_runV (As := [.int v]) (rest := []) ⟨hx, hb, hml, hown, hts⟩ (t_X2_isSign l dC dI _ Ω κ τ ν ρ L f hG hT h0 v ht_h0) (cwV 1 hts gX2_passSign_X2_isSign rfl rfl rfl ⟨rfl, pd_X2_isSign⟩ ⟨Nat.le_of_ble_eq_true rfl, Nat.le_of_ble_eq_true rfl⟩) ⟨pz_blind, va_recv hK hP (ci := 2) (q0 := q5) rfl eq5, pz_pre hP hK hD hN⟩ rfl rfl hl.1 rfl (lv_room (Nat.le_of_ble_eq_true rfl)) dX2_passSign_2 ⟨Nat.le_of_ble_eq_true rfl, Nat.le_of_ble_eq_true rfl⟩) (fun r6 hw7 => ?_)
  obtain ⟨hw7r, hw7p⟩ := hw7
  refine lv_istore_n (lv' := [(2, .int r6), (0, .ref h0), (1, .int v)]) hx hb dX2_passSign_5 rfl hl (by decide) rfl (fun ls hl => ?_)
  refine lv_iload_n hx hb dX2_passSign_6 rfl (lv_at hl 0 rfl) ?_
  refine lv_if_eq (tgt := 14) hx hb dX2_passSign_7 (by decide) (fun c8 => ?_) (fun c8 => ?_)
  · have ic8 : r6.toInt = 0 := zi_eq rfl rfl c8
    refine lv_iload_n hx hb dX2_passSign_14 rfl (lv_at hl 0 rfl) ?_
    exact W.zret (v := r6) hx hb hr (zi_narZ (by omega) (by omega)) (fun t ht hW => ⟨⟨r6, f, rfl, ⟨hT, hR, (by first | decide | omega), hB⟩, by rw [ht]; exact hP, va_K.moved hW.alike hK, hD⟩, hS.F ht⟩) hS.2.2 dX2_passSign_15
  · have ic8 : r6.toInt ≠ 0 := zi_eqf rfl rfl c8
    refine lv_aload_n hx hb dX2_passSign_10 rfl (lv_at hl 1 rfl) ?_
    have hFc := tp_fr hD hS hA
    refine va_callv (va_runV (As := []) (rest := []) ⟨hx, hb, hml, hown, hts⟩ (t_X2_advance l dC dI _ Ω κ τ ν ρ L f hG hT h0 B0 ht_h0 hB) (cwV 0 hts gX2_passSign_X2_advance rfl rfl rfl ⟨rfl, pd_X2_advance⟩ ⟨Nat.le_of_ble_eq_true rfl, Nat.le_of_ble_eq_true rfl⟩) ⟨pz_blind, va_recv hK hP (ci := 2) (q0 := q5) rfl eq5, pz_pre hP hK hD hN⟩ rfl rfl hl.1 rfl (lv_room (Nat.le_of_ble_eq_true rfl)) dX2_passSign_11 ⟨Nat.le_of_ble_eq_true rfl, Nat.le_of_ble_eq_true rfl⟩) hS (fun q _ h => hFc q h) hFc (fun f11 t H1 locs ht hvm hw10 hB hz1 hk1 hS => ?_)
    refine tn_3 hw10 (fun hT hF12 hw10p => ?_); clear hw10
    have hR := hR.then hF12 (by decide)
    have hP := hB.1; rw [ht] at hP; have hD := tp_ad f11 hD; clear hB hFc hz1 hk1; subst ht; generalize t.heap = H at hP hS ⊢
    have hB := hw10p
    refine lv_iload_n hx hb dX2_passSign_14 rfl (lv_at hl 0 rfl) ?_
    exact W.zret (v := r6) hx hb hr (zi_narZ (by omega) (by omega)) (fun t ht hW => ⟨⟨r6, f11, rfl, ⟨hT, hR, (by first | decide | omega), hB⟩, by rw [ht]; exact hP, va_K.moved hW.alike hK, hD⟩, hS.F ht⟩) hS.2.2 dX2_passSign_15
set_option maxHeartbeats 4000000 in
set_option maxRecDepth 100000 in
theorem t_X2_isNumber (l : Launch) (dC : Nat → ClassId) (dI : Nat → Nat → Nat) (sz : Nat) (Ω : Nat → Nat → (Nat → Nat) → va_E → Prop) (κ : Nat → ClassId) (τ ν : Nat → Nat) (ρ : Nat → Nat → Nat) (L : List Nat) (f : Nat → va_E) (hG : tp_G τ ν ρ L) (hT : tp_T Ω κ τ ν ρ f) (h0 : Nat) (v : Int32) (u : Int32) (ht_h0 : τ h0 = 3) : Met l yX2_isNumber wqX2_isNumber ({ frames := 3, cells := 0, slots := 0, locals := 800 }) (va_Pc [.ref h0, .int v, .int u] (pz_B dC dI (tp_K κ) (va_pl L f) sz)) (vp_Si (fun r => (0 ≤ r.toInt ∧ r.toInt ≤ 1) ∧ True)) 0 0 (fun _ => False) := by
  refine Met.ofW (cc := cX2_isNumber) (maxL := 3) (ret := some .boolean) (by decide) rfl ?_
  intro p e s m args below meth c s₁ B hml hv
  obtain ⟨rfl, hsz, hP, hK, hD0, hN⟩ := hv
  have hx := B.exec
  have hb := B.bytes
  have hr := B.returns
  have hts := fun (w : Cond) (h : w ∈ WALL) => atoms_spec (ws := wqX2_isNumber) B.pre w (List.mem_cons_of_mem _ h)
  have hown : s.vm.findClass RX2 = some m.cls := findClass_of_methodNamed B.named
  have hlocks := B.notSynchronized
  subst hsz
  have hD := hD0
  have hS : va_S (fun _ => True) s.heap s.heap [] := va_S.rf
  have hl := lv_entry ([.ref h0, .int v, .int u]) (n := 3) (Nat.le_of_ble_eq_true rfl)
  rw [lg_entry_eq]
  generalize (lg_sl ([.ref h0, .int v, .int u]) ++ List.replicate (3 - (lg_sl ([.ref h0, .int v, .int u])).length) Slot.unset).toArray = ls at hl ⊢
  have hl : lv_has ls 3 [(0, .ref h0), (1, .int v), (2, .int u)] := hl
  refine lv_aload_n hx hb dX2_isNumber_0 rfl (lv_at hl 0 rfl) ?_
  refine tgk_3 hG ht_h0 (fun y1 y1n y2 y2n y3 y3n => ?_)
  refine tpk_3 hT ht_h0 (fun o4_x1 o4_x2 o4_x3 o4_x4 o4_x5 o4_x6 o4_x8 o4_x10 o4_x11 o4_x12 o4_x13 o4_x14 o4_x15 hf_o4 ro4_0 ro4_1 ro4_2 ro4_3 ro4_4 ro4_5 ro4_6 => ?_)
  refine tpk_pos (tp_in hG ht_h0 (by decide)) hf_o4 (fun q5 eq5 => ?_)
  have ro4_6 := tp_hu ro4_6
  refine va_get (D := (dC, dI)) (ci := 2) (v := .int o4_x4) (C := RX2) (T := TX2) (N := 16) hx hb hts hfX2 hown hK hP q5 eq5 rfl 4 (by decide) (hts (.fieldLink RX2 77 "ColdShips$Reader" "kind" "I") wa_811) (fun _ h9 => h9) rfl dX2_isNumber_1 ?_
  refine lv_iconst (v := 2) hx hb dX2_isNumber_4 (by decide) ?_
  refine lv_icmp_ne (tgt := 24) hx hb dX2_isNumber_5 (by decide) (fun c6 => ?_) (fun c6 => ?_)
  · have ic6 : o4_x4.toInt ≠ 2 := zi_ne rfl rfl c6
    refine lv_iconst (v := 0) hx hb dX2_isNumber_24 (by decide) ?_
    exact W.zret (v := 0) hx hb hr rfl (fun t ht hW => ⟨0, rfl, ⟨(by first | decide | omega), trivial⟩, ht⟩) (fun _ h => by cases h) dX2_isNumber_25
  · have ic6 : o4_x4.toInt = 2 := zi_nef rfl rfl c6
    refine lv_aload_n hx hb dX2_isNumber_8 rfl (lv_at hl 0 rfl) ?_
    have ro4_3 := tp_hu ro4_3
    refine va_get (D := (dC, dI)) (ci := 2) (v := .int o4_x6) (C := RX2) (T := TX2) (N := 16) hx hb hts hfX2 hown hK hP q5 eq5 rfl 6 (by decide) (hts (.fieldLink RX2 99 "ColdShips$Reader" "value" "I") wa_812) (fun _ h9 => h9) rfl dX2_isNumber_9 ?_
    refine lv_iload_n hx hb dX2_isNumber_12 rfl (lv_at hl 1 rfl) ?_
    refine lv_iload_n hx hb dX2_isNumber_13 rfl (lv_at hl 2 rfl) ?_
    refine pz_calli (va_runSN (As := [.int o4_x6, .int v, .int u]) (rest := []) ⟨hx, hb, hml, hown, hts⟩ (t_X11_within l dC dI _ o4_x6 v u (o4_x6.toInt) (v.toInt) (u.toInt) rfl rfl rfl) ⟨(va_cnB (host := "ColdShips") 3 hts ggX2_isNumber_X11_within rfl rfl rfl (hN.1 (.methodLinkNest RX2 186 yX11_within "ColdShips") nzw_111) (hts (.initialized RX11) wa_2) pd_X11_within ⟨Nat.le_of_ble_eq_true rfl, Nat.le_of_ble_eq_true rfl⟩), (hts (.static yX11_within) wa_181), trivial⟩ ⟨pz_blind, pz_pre pz_P0 (hK.sub (tys' := []) [] rfl) (pz_D0 (A := fun _ => True)) hN⟩ rfl rfl hl.1 rfl (lv_room (Nat.le_of_ble_eq_true rfl)) dX2_isNumber_14 ⟨Nat.le_of_ble_eq_true rfl, Nat.le_of_ble_eq_true rfl⟩) (fun r7 hw8 => ?_)
    obtain ⟨hw8r, hw8p⟩ := hw8
    refine lv_if_eq (tgt := 24) hx hb dX2_isNumber_17 (by decide) (fun c9 => ?_) (fun c9 => ?_)
    · have ic9 : r7.toInt = 0 := zi_eq rfl rfl c9
      clear hw8r ic9
      refine lv_iconst (v := 0) hx hb dX2_isNumber_24 (by decide) ?_
      exact W.zret (v := 0) hx hb hr rfl (fun t ht hW => ⟨0, rfl, ⟨(by first | decide | omega), trivial⟩, ht⟩) (fun _ h => by cases h) dX2_isNumber_25
    · have ic9 : r7.toInt ≠ 0 := zi_eqf rfl rfl c9
      have p10 : (v.toInt) ≤ (o4_x6.toInt) ∧ (o4_x6.toInt) ≤ (u.toInt) := (tp_cond.yes hw8p) (by omega)
      clear hw8r ic9
      refine lv_iconst (v := 1) hx hb dX2_isNumber_20 (by decide) ?_
      refine lv_goto (tgt := 25) hx hb dX2_isNumber_21 (by decide) ?_
      exact W.zret (v := 1) hx hb hr rfl (fun t ht hW => ⟨1, rfl, ⟨(by first | decide | omega), trivial⟩, ht⟩) (fun _ h => by cases h) dX2_isNumber_25
set_option maxHeartbeats 4000000 in
set_option maxRecDepth 100000 in
theorem t_X2_factHere (l : Launch) (dC : Nat → ClassId) (dI : Nat → Nat → Nat) (sz : Nat) (Ω : Nat → Nat → (Nat → Nat) → va_E → Prop) (κ : Nat → ClassId) (τ ν : Nat → Nat) (ρ : Nat → Nat → Nat) (L : List Nat) (f : Nat → va_E) (hG : tp_G τ ν ρ L) (hT : tp_T Ω κ τ ν ρ f) (adK adV : Nat → Nat) (zv : Option Nat) (h0 : Nat) (ht_h0 : τ h0 = 3) : Met l yX2_factHere wqX2_factHere ({ frames := 7, cells := 0, slots := 0, locals := 2400 }) (va_Pc [.ref h0] (pw_BZ dC dI (tp_K κ) (va_pl L f) sz adK adV zv)) (vp_Si (fun r => ((-1) ≤ r.toInt ∧ r.toInt ≤ 7) ∧ True)) 0 0 (fun _ => False) := by
  refine Met.ofW (cc := cX2_factHere) (maxL := 1) (ret := some .int) (by decide) rfl ?_
  intro p e s m args below meth c s₁ B hml hv
  obtain ⟨rfl, ⟨hsz, hP, hK, hD0, hN⟩, hZ⟩ := hv
  have hx := B.exec
  have hb := B.bytes
  have hr := B.returns
  have hts := fun (w : Cond) (h : w ∈ WALL) => atoms_spec (ws := wqX2_factHere) B.pre w (List.mem_cons_of_mem _ h)
  have hown : s.vm.findClass RX2 = some m.cls := findClass_of_methodNamed B.named
  have hlocks := B.notSynchronized
  subst hsz
  have hD := hD0
  have hS : va_S (fun _ => True) s.heap s.heap [] := va_S.rf
  have hSZ : va_S (va_A (va_pl L f) s.heap.size) s.heap s.heap [] := va_S.rf
  have hl := lv_entry ([.ref h0]) (n := 1) (Nat.le_of_ble_eq_true rfl)
  rw [lg_entry_eq]
  generalize (lg_sl ([.ref h0]) ++ List.replicate (1 - (lg_sl ([.ref h0])).length) Slot.unset).toArray = ls at hl ⊢
  have hl : lv_has ls 1 [(0, .ref h0)] := hl
  refine lv_aload_n hx hb dX2_factHere_0 rfl (lv_at hl 0 rfl) ?_
  refine va_ldcS hx hb hown (show vk_R RX2 167 "tons" (adK 9) s from hZ.2.2.2 9 (by decide)) dX2_factHere_1 ?_
  refine tgk_3 hG ht_h0 (fun y1 y1n y2 y2n y3 y3n => ?_)
  refine tpk_3 hT ht_h0 (fun o4_x1 o4_x2 o4_x3 o4_x4 o4_x5 o4_x6 o4_x8 o4_x10 o4_x11 o4_x12 o4_x13 o4_x14 o4_x15 hf_o4 ro4_0 ro4_1 ro4_2 ro4_3 ro4_4 ro4_5 ro4_6 => ?_)
  refine tpk_pos (tp_in hG ht_h0 (by decide)) hf_o4 (fun q5 eq5 => ?_)
  refine pz_calli (va_runV (As := [.ref (adK 9)]) (rest := []) ⟨hx, hb, hml, hown, hts⟩ (t_X2_isWord l dC dI _ Ω κ τ ν ρ L f hG hT adK adV zv h0 9 ht_h0 (by decide)) (cwV 1 hts gX2_factHere_X2_isWord rfl rfl rfl ⟨rfl, pd_X2_isWord⟩ ⟨Nat.le_of_ble_eq_true rfl, Nat.le_of_ble_eq_true rfl⟩) ⟨pw_blindZ, va_recv hK hP (ci := 2) (q0 := q5) rfl eq5, pw_preZ hP hK hD hN hZ hSZ (fun _ h9 => h9)⟩ rfl rfl hl.1 rfl (lv_room (Nat.le_of_ble_eq_true rfl)) dX2_factHere_3 ⟨Nat.le_of_ble_eq_true rfl, Nat.le_of_ble_eq_true rfl⟩) (fun r6 hw7 => ?_)
  obtain ⟨hw7r, hw7p⟩ := hw7
  refine lv_if_eq (tgt := 11) hx hb dX2_factHere_6 (by decide) (fun c8 => ?_) (fun c8 => ?_)
  · have ic8 : r6.toInt = 0 := zi_eq rfl rfl c8
    refine lv_aload_n hx hb dX2_factHere_11 rfl (lv_at hl 0 rfl) ?_
    refine va_ldcS hx hb hown (show vk_R RX2 172 "billed" (adK 10) s from hZ.2.2.2 10 (by decide)) dX2_factHere_12 ?_
    refine pz_calli (va_runV (As := [.ref (adK 10)]) (rest := []) ⟨hx, hb, hml, hown, hts⟩ (t_X2_isWord l dC dI _ Ω κ τ ν ρ L f hG hT adK adV zv h0 10 ht_h0 (by decide)) (cwV 1 hts gX2_factHere_X2_isWord rfl rfl rfl ⟨rfl, pd_X2_isWord⟩ ⟨Nat.le_of_ble_eq_true rfl, Nat.le_of_ble_eq_true rfl⟩) ⟨pw_blindZ, va_recv hK hP (ci := 2) (q0 := q5) rfl eq5, pw_preZ hP hK hD hN hZ hSZ (fun _ h9 => h9)⟩ rfl rfl hl.1 rfl (lv_room (Nat.le_of_ble_eq_true rfl)) dX2_factHere_14 ⟨Nat.le_of_ble_eq_true rfl, Nat.le_of_ble_eq_true rfl⟩) (fun r9 hw10 => ?_)
    obtain ⟨hw10r, hw10p⟩ := hw10
    refine lv_if_eq (tgt := 22) hx hb dX2_factHere_17 (by decide) (fun c11 => ?_) (fun c11 => ?_)
    · have ic11 : r9.toInt = 0 := zi_eq rfl rfl c11
      refine lv_aload_n hx hb dX2_factHere_22 rfl (lv_at hl 0 rfl) ?_
      refine va_ldcS hx hb hown (show vk_R RX2 174 "heat" (adK 11) s from hZ.2.2.2 11 (by decide)) dX2_factHere_23 ?_
      refine pz_calli (va_runV (As := [.ref (adK 11)]) (rest := []) ⟨hx, hb, hml, hown, hts⟩ (t_X2_isWord l dC dI _ Ω κ τ ν ρ L f hG hT adK adV zv h0 11 ht_h0 (by decide)) (cwV 1 hts gX2_factHere_X2_isWord rfl rfl rfl ⟨rfl, pd_X2_isWord⟩ ⟨Nat.le_of_ble_eq_true rfl, Nat.le_of_ble_eq_true rfl⟩) ⟨pw_blindZ, va_recv hK hP (ci := 2) (q0 := q5) rfl eq5, pw_preZ hP hK hD hN hZ hSZ (fun _ h9 => h9)⟩ rfl rfl hl.1 rfl (lv_room (Nat.le_of_ble_eq_true rfl)) dX2_factHere_25 ⟨Nat.le_of_ble_eq_true rfl, Nat.le_of_ble_eq_true rfl⟩) (fun r12 hw13 => ?_)
      obtain ⟨hw13r, hw13p⟩ := hw13
      refine lv_if_eq (tgt := 33) hx hb dX2_factHere_28 (by decide) (fun c14 => ?_) (fun c14 => ?_)
      · have ic14 : r12.toInt = 0 := zi_eq rfl rfl c14
        refine lv_aload_n hx hb dX2_factHere_33 rfl (lv_at hl 0 rfl) ?_
        refine va_ldcS hx hb hown (show vk_R RX2 176 "late" (adK 12) s from hZ.2.2.2 12 (by decide)) dX2_factHere_34 ?_
        refine pz_calli (va_runV (As := [.ref (adK 12)]) (rest := []) ⟨hx, hb, hml, hown, hts⟩ (t_X2_isWord l dC dI _ Ω κ τ ν ρ L f hG hT adK adV zv h0 12 ht_h0 (by decide)) (cwV 1 hts gX2_factHere_X2_isWord rfl rfl rfl ⟨rfl, pd_X2_isWord⟩ ⟨Nat.le_of_ble_eq_true rfl, Nat.le_of_ble_eq_true rfl⟩) ⟨pw_blindZ, va_recv hK hP (ci := 2) (q0 := q5) rfl eq5, pw_preZ hP hK hD hN hZ hSZ (fun _ h9 => h9)⟩ rfl rfl hl.1 rfl (lv_room (Nat.le_of_ble_eq_true rfl)) dX2_factHere_36 ⟨Nat.le_of_ble_eq_true rfl, Nat.le_of_ble_eq_true rfl⟩) (fun r15 hw16 => ?_)
        obtain ⟨hw16r, hw16p⟩ := hw16
        refine lv_if_eq (tgt := 44) hx hb dX2_factHere_39 (by decide) (fun c17 => ?_) (fun c17 => ?_)
        · have ic17 : r15.toInt = 0 := zi_eq rfl rfl c17
          refine lv_aload_n hx hb dX2_factHere_44 rfl (lv_at hl 0 rfl) ?_
          refine va_ldcS hx hb hown (show vk_R RX2 178 "early" (adK 13) s from hZ.2.2.2 13 (by decide)) dX2_factHere_45 ?_
          refine pz_calli (va_runV (As := [.ref (adK 13)]) (rest := []) ⟨hx, hb, hml, hown, hts⟩ (t_X2_isWord l dC dI _ Ω κ τ ν ρ L f hG hT adK adV zv h0 13 ht_h0 (by decide)) (cwV 1 hts gX2_factHere_X2_isWord rfl rfl rfl ⟨rfl, pd_X2_isWord⟩ ⟨Nat.le_of_ble_eq_true rfl, Nat.le_of_ble_eq_true rfl⟩) ⟨pw_blindZ, va_recv hK hP (ci := 2) (q0 := q5) rfl eq5, pw_preZ hP hK hD hN hZ hSZ (fun _ h9 => h9)⟩ rfl rfl hl.1 rfl (lv_room (Nat.le_of_ble_eq_true rfl)) dX2_factHere_47 ⟨Nat.le_of_ble_eq_true rfl, Nat.le_of_ble_eq_true rfl⟩) (fun r18 hw19 => ?_)
          obtain ⟨hw19r, hw19p⟩ := hw19
          refine lv_if_eq (tgt := 55) hx hb dX2_factHere_50 (by decide) (fun c20 => ?_) (fun c20 => ?_)
          · have ic20 : r18.toInt = 0 := zi_eq rfl rfl c20
            refine lv_aload_n hx hb dX2_factHere_55 rfl (lv_at hl 0 rfl) ?_
            refine va_ldcS hx hb hown (show vk_R RX2 180 "price" (adK 14) s from hZ.2.2.2 14 (by decide)) dX2_factHere_56 ?_
            refine pz_calli (va_runV (As := [.ref (adK 14)]) (rest := []) ⟨hx, hb, hml, hown, hts⟩ (t_X2_isWord l dC dI _ Ω κ τ ν ρ L f hG hT adK adV zv h0 14 ht_h0 (by decide)) (cwV 1 hts gX2_factHere_X2_isWord rfl rfl rfl ⟨rfl, pd_X2_isWord⟩ ⟨Nat.le_of_ble_eq_true rfl, Nat.le_of_ble_eq_true rfl⟩) ⟨pw_blindZ, va_recv hK hP (ci := 2) (q0 := q5) rfl eq5, pw_preZ hP hK hD hN hZ hSZ (fun _ h9 => h9)⟩ rfl rfl hl.1 rfl (lv_room (Nat.le_of_ble_eq_true rfl)) dX2_factHere_58 ⟨Nat.le_of_ble_eq_true rfl, Nat.le_of_ble_eq_true rfl⟩) (fun r21 hw22 => ?_)
            obtain ⟨hw22r, hw22p⟩ := hw22
            refine lv_if_eq (tgt := 66) hx hb dX2_factHere_61 (by decide) (fun c23 => ?_) (fun c23 => ?_)
            · have ic23 : r21.toInt = 0 := zi_eq rfl rfl c23
              refine lv_aload_n hx hb dX2_factHere_66 rfl (lv_at hl 0 rfl) ?_
              refine va_ldcS hx hb hown (show vk_R RX2 182 "hours" (adK 15) s from hZ.2.2.2 15 (by decide)) dX2_factHere_67 ?_
              refine pz_calli (va_runV (As := [.ref (adK 15)]) (rest := []) ⟨hx, hb, hml, hown, hts⟩ (t_X2_isWord l dC dI _ Ω κ τ ν ρ L f hG hT adK adV zv h0 15 ht_h0 (by decide)) (cwV 1 hts gX2_factHere_X2_isWord rfl rfl rfl ⟨rfl, pd_X2_isWord⟩ ⟨Nat.le_of_ble_eq_true rfl, Nat.le_of_ble_eq_true rfl⟩) ⟨pw_blindZ, va_recv hK hP (ci := 2) (q0 := q5) rfl eq5, pw_preZ hP hK hD hN hZ hSZ (fun _ h9 => h9)⟩ rfl rfl hl.1 rfl (lv_room (Nat.le_of_ble_eq_true rfl)) dX2_factHere_69 ⟨Nat.le_of_ble_eq_true rfl, Nat.le_of_ble_eq_true rfl⟩) (fun r24 hw25 => ?_)
              obtain ⟨hw25r, hw25p⟩ := hw25
              refine lv_if_eq (tgt := 78) hx hb dX2_factHere_72 (by decide) (fun c26 => ?_) (fun c26 => ?_)
              · have ic26 : r24.toInt = 0 := zi_eq rfl rfl c26
                refine lv_aload_n hx hb dX2_factHere_78 rfl (lv_at hl 0 rfl) ?_
                refine va_ldcS hx hb hown (show vk_R RX2 184 "elsewhere" (adK 16) s from hZ.2.2.2 16 (by decide)) dX2_factHere_79 ?_
                refine pz_calli (va_runV (As := [.ref (adK 16)]) (rest := []) ⟨hx, hb, hml, hown, hts⟩ (t_X2_isWord l dC dI _ Ω κ τ ν ρ L f hG hT adK adV zv h0 16 ht_h0 (by decide)) (cwV 1 hts gX2_factHere_X2_isWord rfl rfl rfl ⟨rfl, pd_X2_isWord⟩ ⟨Nat.le_of_ble_eq_true rfl, Nat.le_of_ble_eq_true rfl⟩) ⟨pw_blindZ, va_recv hK hP (ci := 2) (q0 := q5) rfl eq5, pw_preZ hP hK hD hN hZ hSZ (fun _ h9 => h9)⟩ rfl rfl hl.1 rfl (lv_room (Nat.le_of_ble_eq_true rfl)) dX2_factHere_81 ⟨Nat.le_of_ble_eq_true rfl, Nat.le_of_ble_eq_true rfl⟩) (fun r27 hw28 => ?_)
                obtain ⟨hw28r, hw28p⟩ := hw28
                refine lv_if_eq (tgt := 92) hx hb dX2_factHere_84 (by decide) (fun c29 => ?_) (fun c29 => ?_)
                · have ic29 : r27.toInt = 0 := zi_eq rfl rfl c29
                  refine lv_iconst (v := (-1)) hx hb dX2_factHere_92 (by decide) ?_
                  exact W.iret (v := (-1)) hx hb hr (fun t ht hW => ⟨(-1), rfl, ⟨(by first | decide | omega), trivial⟩, ht⟩) (fun _ h => by cases h) dX2_factHere_93
                · have ic29 : r27.toInt ≠ 0 := zi_eqf rfl rfl c29
                  refine lv_bipush (v := 7) hx hb dX2_factHere_87 (by decide) ?_
                  refine lv_goto (tgt := 93) hx hb dX2_factHere_89 (by decide) ?_
                  exact W.iret (v := 7) hx hb hr (fun t ht hW => ⟨7, rfl, ⟨(by first | decide | omega), trivial⟩, ht⟩) (fun _ h => by cases h) dX2_factHere_93
              · have ic26 : r24.toInt ≠ 0 := zi_eqf rfl rfl c26
                refine lv_bipush (v := 6) hx hb dX2_factHere_75 (by decide) ?_
                exact W.iret (v := 6) hx hb hr (fun t ht hW => ⟨6, rfl, ⟨(by first | decide | omega), trivial⟩, ht⟩) (fun _ h => by cases h) dX2_factHere_77
            · have ic23 : r21.toInt ≠ 0 := zi_eqf rfl rfl c23
              refine lv_iconst (v := 5) hx hb dX2_factHere_64 (by decide) ?_
              exact W.iret (v := 5) hx hb hr (fun t ht hW => ⟨5, rfl, ⟨(by first | decide | omega), trivial⟩, ht⟩) (fun _ h => by cases h) dX2_factHere_65
          · have ic20 : r18.toInt ≠ 0 := zi_eqf rfl rfl c20
            refine lv_iconst (v := 4) hx hb dX2_factHere_53 (by decide) ?_
            exact W.iret (v := 4) hx hb hr (fun t ht hW => ⟨4, rfl, ⟨(by first | decide | omega), trivial⟩, ht⟩) (fun _ h => by cases h) dX2_factHere_54
        · have ic17 : r15.toInt ≠ 0 := zi_eqf rfl rfl c17
          refine lv_iconst (v := 3) hx hb dX2_factHere_42 (by decide) ?_
          exact W.iret (v := 3) hx hb hr (fun t ht hW => ⟨3, rfl, ⟨(by first | decide | omega), trivial⟩, ht⟩) (fun _ h => by cases h) dX2_factHere_43
      · have ic14 : r12.toInt ≠ 0 := zi_eqf rfl rfl c14
        refine lv_iconst (v := 2) hx hb dX2_factHere_31 (by decide) ?_
        exact W.iret (v := 2) hx hb hr (fun t ht hW => ⟨2, rfl, ⟨(by first | decide | omega), trivial⟩, ht⟩) (fun _ h => by cases h) dX2_factHere_32
    · have ic11 : r9.toInt ≠ 0 := zi_eqf rfl rfl c11
      refine lv_iconst (v := 1) hx hb dX2_factHere_20 (by decide) ?_
      exact W.iret (v := 1) hx hb hr (fun t ht hW => ⟨1, rfl, ⟨(by first | decide | omega), trivial⟩, ht⟩) (fun _ h => by cases h) dX2_factHere_21
  · have ic8 : r6.toInt ≠ 0 := zi_eqf rfl rfl c8
    refine lv_iconst (v := 0) hx hb dX2_factHere_9 (by decide) ?_
    exact W.iret (v := 0) hx hb hr (fun t ht hW => ⟨0, rfl, ⟨(by first | decide | omega), trivial⟩, ht⟩) (fun _ h => by cases h) dX2_factHere_10
set_option maxHeartbeats 4000000 in
set_option maxRecDepth 100000 in
theorem t_X2_leafHere (l : Launch) (dC : Nat → ClassId) (dI : Nat → Nat → Nat) (sz : Nat) (Ω : Nat → Nat → (Nat → Nat) → va_E → Prop) (κ : Nat → ClassId) (τ ν : Nat → Nat) (ρ : Nat → Nat → Nat) (L : List Nat) (f : Nat → va_E) (hG : tp_G τ ν ρ L) (hT : tp_T Ω κ τ ν ρ f) (adK adV : Nat → Nat) (zv : Option Nat) (h0 : Nat) (ht_h0 : τ h0 = 3) : Met l yX2_leafHere wqX2_leafHere ({ frames := 8, cells := 0, slots := 0, locals := 2800 }) (va_Pc [.ref h0] (pw_BZ dC dI (tp_K κ) (va_pl L f) sz adK adV zv)) (vp_Si (fun r => ((-1000) ≤ r.toInt ∧ r.toInt ≤ 100000) ∧ True)) 0 0 (fun _ => False) := by
  refine Met.ofW (cc := cX2_leafHere) (maxL := 2) (ret := some .int) (by decide) rfl ?_
  intro p e s m args below meth c s₁ B hml hv
  obtain ⟨rfl, ⟨hsz, hP, hK, hD0, hN⟩, hZ⟩ := hv
  have hx := B.exec
  have hb := B.bytes
  have hr := B.returns
  have hts := fun (w : Cond) (h : w ∈ WALL) => atoms_spec (ws := wqX2_leafHere) B.pre w (List.mem_cons_of_mem _ h)
  have hown : s.vm.findClass RX2 = some m.cls := findClass_of_methodNamed B.named
  have hlocks := B.notSynchronized
  subst hsz
  have hD := hD0
  have hS : va_S (fun _ => True) s.heap s.heap [] := va_S.rf
  have hSZ : va_S (va_A (va_pl L f) s.heap.size) s.heap s.heap [] := va_S.rf
  have hl := lv_entry ([.ref h0]) (n := 2) (Nat.le_of_ble_eq_true rfl)
  rw [lg_entry_eq]
  generalize (lg_sl ([.ref h0]) ++ List.replicate (2 - (lg_sl ([.ref h0])).length) Slot.unset).toArray = ls at hl ⊢
  have hl : lv_has ls 2 [(0, .ref h0)] := hl
  refine lv_aload_n hx hb dX2_leafHere_0 rfl (lv_at hl 0 rfl) ?_
  refine tgk_3 hG ht_h0 (fun y1 y1n y2 y2n y3 y3n => ?_)
  refine tpk_3 hT ht_h0 (fun o4_x1 o4_x2 o4_x3 o4_x4 o4_x5 o4_x6 o4_x8 o4_x10 o4_x11 o4_x12 o4_x13 o4_x14 o4_x15 hf_o4 ro4_0 ro4_1 ro4_2 ro4_3 ro4_4 ro4_5 ro4_6 => ?_)
  refine tpk_pos (tp_in hG ht_h0 (by decide)) hf_o4 (fun q5 eq5 => ?_)
  have ro4_6 := tp_hu ro4_6
  refine va_get (D := (dC, dI)) (ci := 2) (v := .int o4_x4) (C := RX2) (T := TX2) (N := 16) hx hb hts hfX2 hown hK hP q5 eq5 rfl 4 (by decide) (hts (.fieldLink RX2 77 "ColdShips$Reader" "kind" "I") wa_811) (fun _ h9 => h9) rfl dX2_leafHere_1 ?_
  refine lv_iconst (v := 2) hx hb dX2_leafHere_4 (by decide) ?_
  refine lv_icmp_ne (tgt := 28) hx hb dX2_leafHere_5 (by decide) (fun c6 => ?_) (fun c6 => ?_)
  · have ic6 : o4_x4.toInt ≠ 2 := zi_ne rfl rfl c6
    refine lv_aload_n hx hb dX2_leafHere_28 rfl (lv_at hl 0 rfl) ?_
    refine pz_calli (va_runV (As := []) (rest := []) ⟨hx, hb, hml, hown, hts⟩ (t_X2_factHere l dC dI _ Ω κ τ ν ρ L f hG hT adK adV zv h0 ht_h0) (cwV 0 hts gX2_leafHere_X2_factHere rfl rfl rfl ⟨rfl, pd_X2_factHere⟩ ⟨Nat.le_of_ble_eq_true rfl, Nat.le_of_ble_eq_true rfl⟩) ⟨pw_blindZ, va_recv hK hP (ci := 2) (q0 := q5) rfl eq5, pw_preZ hP hK hD hN hZ hSZ (fun _ h9 => h9)⟩ rfl rfl hl.1 rfl (lv_room (Nat.le_of_ble_eq_true rfl)) dX2_leafHere_29 ⟨Nat.le_of_ble_eq_true rfl, Nat.le_of_ble_eq_true rfl⟩) (fun r7 hw8 => ?_)
    obtain ⟨hw8r, hw8p⟩ := hw8
    refine lv_istore_n (lv' := [(1, .int r7), (0, .ref h0)]) hx hb dX2_leafHere_32 rfl hl (by decide) rfl (fun ls hl => ?_)
    refine lv_iload_n hx hb dX2_leafHere_33 rfl (lv_at hl 0 rfl) ?_
    refine lv_iconst (v := (-1)) hx hb dX2_leafHere_34 (by decide) ?_
    refine lv_icmp_ne (tgt := 44) hx hb dX2_leafHere_35 (by decide) (fun c9 => ?_) (fun c9 => ?_)
    · have ic9 : r7.toInt ≠ (-1) := zi_ne rfl rfl c9
      refine lv_iconst (v := (-1)) hx hb dX2_leafHere_44 (by decide) ?_
      refine lv_iload_n hx hb dX2_leafHere_45 rfl (lv_at hl 0 rfl) ?_
      refine lv_isub hx hb dX2_leafHere_46 ?_
      refine lv_topi (fun z10 ez10 => ?_)
      have iz10 : z10.toInt = (-1) - r7.toInt := zi_sub ez10 rfl rfl (by omega) (by omega)
      exact W.iret (v := z10) hx hb hr (fun t ht hW => ⟨z10, rfl, ⟨(by first | decide | omega), trivial⟩, ht⟩) (fun _ h => by cases h) dX2_leafHere_47
    · have ic9 : r7.toInt = (-1) := zi_nef rfl rfl c9
      refine lv_sipush (v := (-1000)) hx hb dX2_leafHere_38 (by decide) ?_
      refine lv_goto (tgt := 47) hx hb dX2_leafHere_41 (by decide) ?_
      exact W.iret (v := (-1000)) hx hb hr (fun t ht hW => ⟨(-1000), rfl, ⟨(by first | decide | omega), trivial⟩, ht⟩) (fun _ h => by cases h) dX2_leafHere_47
  · have ic6 : o4_x4.toInt = 2 := zi_nef rfl rfl c6
    refine lv_aload_n hx hb dX2_leafHere_8 rfl (lv_at hl 0 rfl) ?_
    have ro4_3 := tp_hu ro4_3
    refine va_get (D := (dC, dI)) (ci := 2) (v := .int o4_x6) (C := RX2) (T := TX2) (N := 16) hx hb hts hfX2 hown hK hP q5 eq5 rfl 6 (by decide) (hts (.fieldLink RX2 99 "ColdShips$Reader" "value" "I") wa_812) (fun _ h9 => h9) rfl dX2_leafHere_9 ?_
    refine lv_ldc (own := RX2) (v := 100000) hx hb hown (hts (.constant RX2 163 (100000)) wa_942) dX2_leafHere_12 ?_
    refine lv_icmp_gt (tgt := 24) hx hb dX2_leafHere_14 (by decide) (fun c11 => ?_) (fun c11 => ?_)
    · have ic11 : o4_x6.toInt > 100000 := zi_gt rfl rfl c11
      refine lv_sipush (v := (-1000)) hx hb dX2_leafHere_24 (by decide) ?_
      exact W.iret (v := (-1000)) hx hb hr (fun t ht hW => ⟨(-1000), rfl, ⟨(by first | decide | omega), trivial⟩, ht⟩) (fun _ h => by cases h) dX2_leafHere_27
    · have ic11 : o4_x6.toInt ≤ 100000 := zi_gtf rfl rfl c11
      refine lv_aload_n hx hb dX2_leafHere_17 rfl (lv_at hl 0 rfl) ?_
      refine va_get (D := (dC, dI)) (ci := 2) (v := .int o4_x6) (C := RX2) (T := TX2) (N := 16) hx hb hts hfX2 hown hK hP q5 eq5 rfl 6 (by decide) (hts (.fieldLink RX2 99 "ColdShips$Reader" "value" "I") wa_812) (fun _ h9 => h9) rfl dX2_leafHere_18 ?_
      refine lv_goto (tgt := 27) hx hb dX2_leafHere_21 (by decide) ?_
      exact W.iret (v := o4_x6) hx hb hr (fun t ht hW => ⟨o4_x6, rfl, ⟨(by first | decide | omega), trivial⟩, ht⟩) (fun _ h => by cases h) dX2_leafHere_27
set_option maxHeartbeats 4000000 in
set_option maxRecDepth 100000 in
theorem t_X2_emit (l : Launch) (dC : Nat → ClassId) (dI : Nat → Nat → Nat) (sz : Nat) (Ω : Nat → Nat → (Nat → Nat) → va_E → Prop) (κ : Nat → ClassId) (τ ν : Nat → Nat) (ρ : Nat → Nat → Nat) (L : List Nat) (f : Nat → va_E) (hG : tp_G τ ν ρ L) (hT : tp_T Ω κ τ ν ρ f) (h0 : Nat) (v : Int32) (B0 : Int) (ht_h0 : τ h0 = 3) (hr_v : -1000 ≤ v.toInt ∧ v.toInt ≤ 100001) (hB : tp_fld (f h0) 12 = B0) : Met l yX2_emit wqX2_emit ({ frames := 2, cells := 0, slots := 0, locals := 400 }) (va_Pc [.ref h0, .int v] (pz_B dC dI (tp_K κ) (va_pl L f) sz)) (va_Qv (fun (f1 : Nat → va_E) => tp_T Ω κ τ ν ρ f1 ∧ tp_F τ [3, 28] f f1 ∧ tp_fld (f1 h0) 12 = B0) (fun (f1 : Nat → va_E) (t : State) => pz_E dC dI (tp_K κ) (va_A (va_pl L f) sz) (va_pl L f1) t) (va_A (va_pl L f) sz)) 0 0 (va_A (va_pl L f) sz) := by
  refine Met.ofW (cc := cX2_emit) (maxL := 2) (ret := none) (by decide) rfl ?_
  intro p e s m args below meth c s₁ B hml hv
  obtain ⟨rfl, hsz, hP, hK, hD0, hN⟩ := hv
  have hx := B.exec
  have hb := B.bytes
  have hr := B.returns
  have hts := fun (w : Cond) (h : w ∈ WALL) => atoms_spec (ws := wqX2_emit) B.pre w (List.mem_cons_of_mem _ h)
  have hown : s.vm.findClass RX2 = some m.cls := findClass_of_methodNamed B.named
  have hlocks := B.notSynchronized
  subst hsz
  have hD := hD0.self (sz := s.heap.size)
  generalize hAe : va_A (va_pl L f) s.heap.size = A at hD ⊢
  have hA : ∀ q : Nat, s.heap.size ≤ q → A q := fun q h => by rw [← hAe]; exact Or.inr h
  have hS : va_S A s.heap s.heap [] := va_S.rf
  have hR : tp_F τ [3, 28] f f := tp_F.rf
  have hl := lv_entry ([.ref h0, .int v]) (n := 2) (Nat.le_of_ble_eq_true rfl)
  rw [lg_entry_eq]
  generalize (lg_sl ([.ref h0, .int v]) ++ List.replicate (2 - (lg_sl ([.ref h0, .int v])).length) Slot.unset).toArray = ls at hl ⊢
  have hl : lv_has ls 2 [(0, .ref h0), (1, .int v)] := hl
  refine lv_aload_n hx hb dX2_emit_0 rfl (lv_at hl 0 rfl) ?_
  refine tgk_3 hG ht_h0 (fun y1 y1n y2 y2n y3 y3n => ?_)
  refine tpk_3 hT ht_h0 (fun o4_x1 o4_x2 o4_x3 o4_x4 o4_x5 o4_x6 o4_x8 o4_x10 o4_x11 o4_x12 o4_x13 o4_x14 o4_x15 hf_o4 ro4_0 ro4_1 ro4_2 ro4_3 ro4_4 ro4_5 ro4_6 => ?_)
  have bo4 : o4_x12.toInt = B0 := by have q9 := hB; rw [hf_o4] at q9; exact q9
  refine tpk_pos (tp_in hG ht_h0 (by decide)) hf_o4 (fun q5 eq5 => ?_)
  have ro4_4 := tp_hu ro4_4
  refine va_get (D := (dC, dI)) (ci := 2) (v := .int o4_x8) (C := RX2) (T := TX2) (N := 16) hx hb hts hfX2 hown hK hP q5 eq5 rfl 8 (by decide) (hts (.fieldLink RX2 32 "ColdShips$Reader" "cells" "I") wa_796) (fun _ h9 => h9) rfl dX2_emit_1 ?_
  refine lv_aload_n hx hb dX2_emit_4 rfl (lv_at hl 0 rfl) ?_
  refine va_get (D := (dC, dI)) (ci := 2) (v := .ref (ρ h0 7)) (C := RX2) (T := TX2) (N := 16) hx hb hts hfX2 hown hK hP q5 eq5 rfl 7 (by decide) (hts (.fieldLink RX2 19 "ColdShips$Reader" "code" "[I") wa_121) (fun _ h9 => h9) rfl dX2_emit_5 ?_
  refine tpk_28 hT y2 y2n (fun g7 hf_o6 hf_o6e => ?_)
  refine tpk_pos (tp_in hG y2 (by decide)) hf_o6 (fun q8 eq8 => ?_)
  refine va_alen hx hb hK hP q8 0 eq8 rfl (rfl : Int32.ofNat 400 = (400 : Int32)) dX2_emit_8 ?_
  refine lv_icmp_ge (tgt := 32) hx hb dX2_emit_9 (by decide) (fun c9 => ?_) (fun c9 => ?_)
  · have ic9 : o4_x8.toInt ≥ 400 := zi_ge rfl rfl c9
    exact W.vret hx hb hr (fun t ht hW => ⟨⟨f, rfl, ⟨hT, hR, hB⟩, by rw [ht]; exact hP, va_K.moved hW.alike hK, hD⟩, hS.F ht⟩) hS.2.2 dX2_emit_32
  · have ic9 : o4_x8.toInt < 400 := zi_gef rfl rfl c9
    refine lv_aload_n hx hb dX2_emit_12 rfl (lv_at hl 0 rfl) ?_
    refine va_get (D := (dC, dI)) (ci := 2) (v := .ref (ρ h0 7)) (C := RX2) (T := TX2) (N := 16) hx hb hts hfX2 hown hK hP q5 eq5 rfl 7 (by decide) (hts (.fieldLink RX2 19 "ColdShips$Reader" "code" "[I") wa_121) (fun _ h9 => h9) rfl dX2_emit_13 ?_
    refine lv_aload_n hx hb dX2_emit_16 rfl (lv_at hl 0 rfl) ?_
    refine va_get (D := (dC, dI)) (ci := 2) (v := .int o4_x8) (C := RX2) (T := TX2) (N := 16) hx hb hts hfX2 hown hK hP q5 eq5 rfl 8 (by decide) (hts (.fieldLink RX2 32 "ColdShips$Reader" "cells" "I") wa_796) (fun _ h9 => h9) rfl dX2_emit_17 ?_
    refine lv_iload_n hx hb dX2_emit_20 rfl (lv_at hl 1 rfl) ?_
    refine va_iast hx hb hK hP hD hS q8 0 eq8 rfl (vp_in_iff.mpr ⟨by omega, by omega⟩) dX2_emit_21 (tp_k (.inl (κ 0, 400, .inl (upd g7 o4_x8.toNatClampNeg v))) hD (tp_in hG y2 (by decide)) eq8 (fun f10 H locs hP hD hS g12 k11 => ?_))
    have hT := hT.up y2 g12 k11 (tp_o28 y2n (tp_up28 hf_o6e _ (by first | decide | omega)))
    have hR := hR.up y2 (by decide) k11
    have hB : tp_fld (f10 h0) 12 = B0 := by rw [k11 _ (tp_ne ht_h0 y2 (by decide))]; exact hB
    refine lv_aload_n hx hb dX2_emit_22 rfl (lv_at hl 0 rfl) ?_
    refine lv_dup hx hb dX2_emit_23 rfl ?_
    have hf_13 : f10 h0 = .inr (2, [.ref (ρ h0 0), .int o4_x1, .int o4_x2, .int o4_x3, .int o4_x4, .int o4_x5, .int o4_x6, .ref (ρ h0 7), .int o4_x8, .ref (ρ h0 9), .int o4_x10, .int o4_x11, .int o4_x12, .int o4_x13, .int o4_x14, .int o4_x15]) := (k11 _ (tp_ne ht_h0 y2 (by decide))).trans hf_o4
    refine tpk_pos (tp_in hG ht_h0 (by decide)) hf_13 (fun q14 eq14 => ?_)
    refine va_get (D := (dC, dI)) (ci := 2) (v := .int o4_x8) (C := RX2) (T := TX2) (N := 16) hx hb hts hfX2 hown hK hP q14 eq14 rfl 8 (by decide) (hts (.fieldLink RX2 32 "ColdShips$Reader" "cells" "I") wa_796) (fun _ h9 => h9) rfl dX2_emit_24 ?_
    refine lv_iconst (v := 1) hx hb dX2_emit_27 (by decide) ?_
    refine lv_iadd hx hb dX2_emit_28 ?_
    refine lv_topi (fun z15 ez15 => ?_)
    have iz15 : z15.toInt = o4_x8.toInt + 1 := zi_add ez15 rfl rfl (by omega) (by omega)
    refine va_put (D := (dC, dI)) (ci := 2) (v := .int z15) (ty := .int) (C := RX2) (T := TX2) (N := 16) hx hb hts hfX2 tyX2 tyX2_ok nmX2 hown hK hP hD hS q14 eq14 rfl 8 (by decide) (hts (.fieldLink RX2 32 "ColdShips$Reader" "cells" "I") wa_796) (fun _ h9 => h9) rfl (tyX2_ok 8 (by decide)) rfl rfl (Nat.le_of_ble_eq_true rfl) dX2_emit_29 (tp_k (.inr (2, [.ref (ρ h0 0), .int o4_x1, .int o4_x2, .int o4_x3, .int o4_x4, .int o4_x5, .int o4_x6, .ref (ρ h0 7), .int z15, .ref (ρ h0 9), .int o4_x10, .int o4_x11, .int o4_x12, .int o4_x13, .int o4_x14, .int o4_x15])) hD (tp_in hG ht_h0 (by decide)) eq14 (fun f16 H locs hP hD hS g18 k17 => ?_))
    have hT := hT.up ht_h0 g18 k17 ⟨_, _, _, _, _, _, _, _, _, _, _, _, _, rfl, ro4_0, ro4_1, ro4_2, ro4_3, (by first | decide | omega | (omega)), ro4_5, ro4_6⟩
    have hR := hR.up ht_h0 (by decide) k17
    have hB : tp_fld (f16 h0) 12 = B0 := by rw [g18]; show (o4_x12).toInt = B0; omega
    exact W.vret hx hb hr (fun t ht hW => ⟨⟨f16, rfl, ⟨hT, hR, hB⟩, by rw [ht]; exact hP, va_K.moved hW.alike hK, hD⟩, hS.F ht⟩) hS.2.2 dX2_emit_32
set_option maxHeartbeats 4000000 in
set_option maxRecDepth 100000 in
theorem t_X2_emitJump (l : Launch) (dC : Nat → ClassId) (dI : Nat → Nat → Nat) (sz : Nat) (Ω : Nat → Nat → (Nat → Nat) → va_E → Prop) (κ : Nat → ClassId) (τ ν : Nat → Nat) (ρ : Nat → Nat → Nat) (L : List Nat) (f : Nat → va_E) (hG : tp_G τ ν ρ L) (hT : tp_T Ω κ τ ν ρ f) (h0 : Nat) (v : Int32) (B0 : Int) (ht_h0 : τ h0 = 3) (hr_v : -1000 ≤ v.toInt ∧ v.toInt ≤ 100001) (hB : tp_fld (f h0) 12 = B0) : Met l yX2_emitJump wqX2_emitJump ({ frames := 3, cells := 0, slots := 0, locals := 800 }) (va_Pc [.ref h0, .int v] (pz_B dC dI (tp_K κ) (va_pl L f) sz)) (va_Qi (fun (r : Int32) (f1 : Nat → va_E) => tp_T Ω κ τ ν ρ f1 ∧ tp_F τ [3, 28] f f1 ∧ True ∧ tp_fld (f1 h0) 12 = B0) (fun (f1 : Nat → va_E) (t : State) => pz_E dC dI (tp_K κ) (va_A (va_pl L f) sz) (va_pl L f1) t) (va_A (va_pl L f) sz)) 0 0 (va_A (va_pl L f) sz) := by
  refine Met.ofW (cc := cX2_emitJump) (maxL := 2) (ret := some .int) (by decide) rfl ?_
  intro p e s m args below meth c s₁ B hml hv
  obtain ⟨rfl, hsz, hP, hK, hD0, hN⟩ := hv
  have hx := B.exec
  have hb := B.bytes
  have hr := B.returns
  have hts := fun (w : Cond) (h : w ∈ WALL) => atoms_spec (ws := wqX2_emitJump) B.pre w (List.mem_cons_of_mem _ h)
  have hown : s.vm.findClass RX2 = some m.cls := findClass_of_methodNamed B.named
  have hlocks := B.notSynchronized
  subst hsz
  have hD := hD0.self (sz := s.heap.size)
  generalize hAe : va_A (va_pl L f) s.heap.size = A at hD ⊢
  have hA : ∀ q : Nat, s.heap.size ≤ q → A q := fun q h => by rw [← hAe]; exact Or.inr h
  have hS : va_S A s.heap s.heap [] := va_S.rf
  have hR : tp_F τ [3, 28] f f := tp_F.rf
  have hl := lv_entry ([.ref h0, .int v]) (n := 2) (Nat.le_of_ble_eq_true rfl)
  rw [lg_entry_eq]
  generalize (lg_sl ([.ref h0, .int v]) ++ List.replicate (2 - (lg_sl ([.ref h0, .int v])).length) Slot.unset).toArray = ls at hl ⊢
  have hl : lv_has ls 2 [(0, .ref h0), (1, .int v)] := hl
  refine lv_aload_n hx hb dX2_emitJump_0 rfl (lv_at hl 0 rfl) ?_
  refine lv_iload_n hx hb dX2_emitJump_1 rfl (lv_at hl 1 rfl) ?_
  refine tgk_3 hG ht_h0 (fun y1 y1n y2 y2n y3 y3n => ?_)
  refine tpk_3 hT ht_h0 (fun o4_x1 o4_x2 o4_x3 o4_x4 o4_x5 o4_x6 o4_x8 o4_x10 o4_x11 o4_x12 o4_x13 o4_x14 o4_x15 hf_o4 ro4_0 ro4_1 ro4_2 ro4_3 ro4_4 ro4_5 ro4_6 => ?_)
  have bo4 : o4_x12.toInt = B0 := by have q9 := hB; rw [hf_o4] at q9; exact q9
  refine tpk_pos (tp_in hG ht_h0 (by decide)) hf_o4 (fun q5 eq5 => ?_)
  have hFc := tp_fr hD hS hA
  refine va_callv (va_runV (As := [.int v]) (rest := []) ⟨hx, hb, hml, hown, hts⟩ (t_X2_emit l dC dI _ Ω κ τ ν ρ L f hG hT h0 v B0 ht_h0 (by first | decide | omega) hB) (cwV 1 hts gX2_emitJump_X2_emit rfl rfl rfl ⟨rfl, pd_X2_emit⟩ ⟨Nat.le_of_ble_eq_true rfl, Nat.le_of_ble_eq_true rfl⟩) ⟨pz_blind, va_recv hK hP (ci := 2) (q0 := q5) rfl eq5, pz_pre hP hK hD hN⟩ rfl rfl hl.1 rfl (lv_room (Nat.le_of_ble_eq_true rfl)) dX2_emitJump_2 ⟨Nat.le_of_ble_eq_true rfl, Nat.le_of_ble_eq_true rfl⟩) hS (fun q _ h => hFc q h) hFc (fun f8 t H1 locs ht hvm hw7 hB hz1 hk1 hS => ?_)
  refine tn_3 hw7 (fun hT hF9 hw7p => ?_); clear hw7
  have hR := hR.then hF9 (by decide)
  have hP := hB.1; rw [ht] at hP; have hD := tp_ad f8 hD; clear hB hFc hz1 hk1; subst ht; generalize t.heap = H at hP hS ⊢
  have hB := hw7p
  refine lv_aload_n hx hb dX2_emitJump_5 rfl (lv_at hl 0 rfl) ?_
  refine lv_iconst (v := 0) hx hb dX2_emitJump_6 (by decide) ?_
  refine tpk_3 hT ht_h0 (fun o10_x1 o10_x2 o10_x3 o10_x4 o10_x5 o10_x6 o10_x8 o10_x10 o10_x11 o10_x12 o10_x13 o10_x14 o10_x15 hf_o10 ro10_0 ro10_1 ro10_2 ro10_3 ro10_4 ro10_5 ro10_6 => ?_)
  have bo10 : o10_x12.toInt = B0 := by have q9 := hB; rw [hf_o10] at q9; exact q9
  refine tpk_pos (tp_in hG ht_h0 (by decide)) hf_o10 (fun q11 eq11 => ?_)
  have hFc := tp_fr hD hS hA
  refine va_callv (va_runV (As := [.int 0]) (rest := []) ⟨hx, hb, hml, hown, hts⟩ (t_X2_emit l dC dI _ Ω κ τ ν ρ L f8 hG hT h0 (0) B0 ht_h0 (by first | decide | omega) hB) (cwV 1 hts gX2_emitJump_X2_emit rfl rfl rfl ⟨rfl, pd_X2_emit⟩ ⟨Nat.le_of_ble_eq_true rfl, Nat.le_of_ble_eq_true rfl⟩) ⟨pz_blind, va_recv hK hP (ci := 2) (q0 := q11) rfl eq11, pz_pre hP hK hD hN⟩ rfl rfl hl.1 rfl (lv_room (Nat.le_of_ble_eq_true rfl)) dX2_emitJump_7 ⟨Nat.le_of_ble_eq_true rfl, Nat.le_of_ble_eq_true rfl⟩) hS (fun q _ h => hFc q h) hFc (fun f14 t H1 locs ht hvm hw13 hB hz1 hk1 hS => ?_)
  refine tn_3 hw13 (fun hT hF15 hw13p => ?_); clear hw13
  have hR := hR.then hF15 (by decide)
  have hP := hB.1; rw [ht] at hP; have hD := tp_ad f14 hD; clear hB hFc hz1 hk1; subst ht; generalize t.heap = H at hP hS ⊢
  have hB := hw13p
  refine lv_aload_n hx hb dX2_emitJump_10 rfl (lv_at hl 0 rfl) ?_
  refine tpk_3 hT ht_h0 (fun o16_x1 o16_x2 o16_x3 o16_x4 o16_x5 o16_x6 o16_x8 o16_x10 o16_x11 o16_x12 o16_x13 o16_x14 o16_x15 hf_o16 ro16_0 ro16_1 ro16_2 ro16_3 ro16_4 ro16_5 ro16_6 => ?_)
  have bo16 : o16_x12.toInt = B0 := by have q9 := hB; rw [hf_o16] at q9; exact q9
  refine tpk_pos (tp_in hG ht_h0 (by decide)) hf_o16 (fun q17 eq17 => ?_)
  have ro16_4 := tp_hu ro16_4
  refine va_get (D := (dC, dI)) (ci := 2) (v := .int o16_x8) (C := RX2) (T := TX2) (N := 16) hx hb hts hfX2 hown hK hP q17 eq17 rfl 8 (by decide) (hts (.fieldLink RX2 32 "ColdShips$Reader" "cells" "I") wa_796) (fun _ h9 => h9) rfl dX2_emitJump_11 ?_
  refine lv_iconst (v := 1) hx hb dX2_emitJump_14 (by decide) ?_
  refine lv_isub hx hb dX2_emitJump_15 ?_
  refine lv_topi (fun z18 ez18 => ?_)
  have iz18 : z18.toInt = o16_x8.toInt - 1 := zi_sub ez18 rfl rfl (by omega) (by omega)
  exact W.iret (v := z18) hx hb hr (fun t ht hW => ⟨⟨z18, f14, rfl, ⟨hT, hR, trivial, hB⟩, by rw [ht]; exact hP, va_K.moved hW.alike hK, hD⟩, hS.F ht⟩) hS.2.2 dX2_emitJump_16
set_option maxHeartbeats 4000000 in
set_option maxRecDepth 100000 in
theorem t_X2_land (l : Launch) (dC : Nat → ClassId) (dI : Nat → Nat → Nat) (sz : Nat) (Ω : Nat → Nat → (Nat → Nat) → va_E → Prop) (κ : Nat → ClassId) (τ ν : Nat → Nat) (ρ : Nat → Nat → Nat) (L : List Nat) (f : Nat → va_E) (hG : tp_G τ ν ρ L) (hT : tp_T Ω κ τ ν ρ f) (h0 : Nat) (v : Int32) (B0 : Int) (ht_h0 : τ h0 = 3) (hB : tp_fld (f h0) 12 = B0) : Met l yX2_land wqX2_land ({ frames := 2, cells := 0, slots := 0, locals := 400 }) (va_Pc [.ref h0, .int v] (pz_B dC dI (tp_K κ) (va_pl L f) sz)) (va_Qv (fun (f1 : Nat → va_E) => tp_T Ω κ τ ν ρ f1 ∧ tp_F τ [28] f f1 ∧ tp_fld (f1 h0) 12 = B0) (fun (f1 : Nat → va_E) (t : State) => pz_E dC dI (tp_K κ) (va_A (va_pl L f) sz) (va_pl L f1) t) (va_A (va_pl L f) sz)) 0 0 (va_A (va_pl L f) sz) := by
  refine Met.ofW (cc := cX2_land) (maxL := 2) (ret := none) (by decide) rfl ?_
  intro p e s m args below meth c s₁ B hml hv
  obtain ⟨rfl, hsz, hP, hK, hD0, hN⟩ := hv
  have hx := B.exec
  have hb := B.bytes
  have hr := B.returns
  have hts := fun (w : Cond) (h : w ∈ WALL) => atoms_spec (ws := wqX2_land) B.pre w (List.mem_cons_of_mem _ h)
  have hown : s.vm.findClass RX2 = some m.cls := findClass_of_methodNamed B.named
  have hlocks := B.notSynchronized
  subst hsz
  have hD := hD0.self (sz := s.heap.size)
  generalize hAe : va_A (va_pl L f) s.heap.size = A at hD ⊢
  have hA : ∀ q : Nat, s.heap.size ≤ q → A q := fun q h => by rw [← hAe]; exact Or.inr h
  have hS : va_S A s.heap s.heap [] := va_S.rf
  have hR : tp_F τ [28] f f := tp_F.rf
  have hl := lv_entry ([.ref h0, .int v]) (n := 2) (Nat.le_of_ble_eq_true rfl)
  rw [lg_entry_eq]
  generalize (lg_sl ([.ref h0, .int v]) ++ List.replicate (2 - (lg_sl ([.ref h0, .int v])).length) Slot.unset).toArray = ls at hl ⊢
  have hl : lv_has ls 2 [(0, .ref h0), (1, .int v)] := hl
  refine lv_iload_n hx hb dX2_land_0 rfl (lv_at hl 1 rfl) ?_
  refine lv_if_lt (tgt := 23) hx hb dX2_land_1 (by decide) (fun c1 => ?_) (fun c1 => ?_)
  · have ic1 : v.toInt < 0 := zi_lt rfl rfl c1
    exact W.vret hx hb hr (fun t ht hW => ⟨⟨f, rfl, ⟨hT, hR, hB⟩, by rw [ht]; exact hP, va_K.moved hW.alike hK, hD⟩, hS.F ht⟩) hS.2.2 dX2_land_23
  · have ic1 : v.toInt ≥ 0 := zi_ltf rfl rfl c1
    refine lv_iload_n hx hb dX2_land_4 rfl (lv_at hl 1 rfl) ?_
    refine lv_aload_n hx hb dX2_land_5 rfl (lv_at hl 0 rfl) ?_
    refine tgk_3 hG ht_h0 (fun y2 y2n y3 y3n y4 y4n => ?_)
    refine tpk_3 hT ht_h0 (fun o5_x1 o5_x2 o5_x3 o5_x4 o5_x5 o5_x6 o5_x8 o5_x10 o5_x11 o5_x12 o5_x13 o5_x14 o5_x15 hf_o5 ro5_0 ro5_1 ro5_2 ro5_3 ro5_4 ro5_5 ro5_6 => ?_)
    have bo5 : o5_x12.toInt = B0 := by have q9 := hB; rw [hf_o5] at q9; exact q9
    refine tpk_pos (tp_in hG ht_h0 (by decide)) hf_o5 (fun q6 eq6 => ?_)
    refine va_get (D := (dC, dI)) (ci := 2) (v := .ref (ρ h0 7)) (C := RX2) (T := TX2) (N := 16) hx hb hts hfX2 hown hK hP q6 eq6 rfl 7 (by decide) (hts (.fieldLink RX2 19 "ColdShips$Reader" "code" "[I") wa_121) (fun _ h9 => h9) rfl dX2_land_6 ?_
    refine tpk_28 hT y3 y3n (fun g8 hf_o7 hf_o7e => ?_)
    refine tpk_pos (tp_in hG y3 (by decide)) hf_o7 (fun q9 eq9 => ?_)
    refine va_alen hx hb hK hP q9 0 eq9 rfl (rfl : Int32.ofNat 400 = (400 : Int32)) dX2_land_9 ?_
    refine lv_icmp_ge (tgt := 23) hx hb dX2_land_10 (by decide) (fun c10 => ?_) (fun c10 => ?_)
    · have ic10 : v.toInt ≥ 400 := zi_ge rfl rfl c10
      exact W.vret hx hb hr (fun t ht hW => ⟨⟨f, rfl, ⟨hT, hR, hB⟩, by rw [ht]; exact hP, va_K.moved hW.alike hK, hD⟩, hS.F ht⟩) hS.2.2 dX2_land_23
    · have ic10 : v.toInt < 400 := zi_gef rfl rfl c10
      refine lv_aload_n hx hb dX2_land_13 rfl (lv_at hl 0 rfl) ?_
      refine va_get (D := (dC, dI)) (ci := 2) (v := .ref (ρ h0 7)) (C := RX2) (T := TX2) (N := 16) hx hb hts hfX2 hown hK hP q6 eq6 rfl 7 (by decide) (hts (.fieldLink RX2 19 "ColdShips$Reader" "code" "[I") wa_121) (fun _ h9 => h9) rfl dX2_land_14 ?_
      refine lv_iload_n hx hb dX2_land_17 rfl (lv_at hl 1 rfl) ?_
      refine lv_aload_n hx hb dX2_land_18 rfl (lv_at hl 0 rfl) ?_
      have ro5_4 := tp_hu ro5_4
      refine va_get (D := (dC, dI)) (ci := 2) (v := .int o5_x8) (C := RX2) (T := TX2) (N := 16) hx hb hts hfX2 hown hK hP q6 eq6 rfl 8 (by decide) (hts (.fieldLink RX2 32 "ColdShips$Reader" "cells" "I") wa_796) (fun _ h9 => h9) rfl dX2_land_19 ?_
      refine va_iast hx hb hK hP hD hS q9 0 eq9 rfl (vp_in_iff.mpr ⟨by omega, by omega⟩) dX2_land_22 (tp_k (.inl (κ 0, 400, .inl (upd g8 v.toNatClampNeg o5_x8))) hD (tp_in hG y3 (by decide)) eq9 (fun f11 H locs hP hD hS g13 k12 => ?_))
      have hT := hT.up y3 g13 k12 (tp_o28 y3n (tp_up28 hf_o7e _ (by first | decide | omega)))
      have hR := hR.up y3 (by decide) k12
      have hB : tp_fld (f11 h0) 12 = B0 := by rw [k12 _ (tp_ne ht_h0 y3 (by decide))]; exact hB
      exact W.vret hx hb hr (fun t ht hW => ⟨⟨f11, rfl, ⟨hT, hR, hB⟩, by rw [ht]; exact hP, va_K.moved hW.alike hK, hD⟩, hS.F ht⟩) hS.2.2 dX2_land_23
end
section
theorem gX2_readTest_X2_readBoth : GoodIn WALL (wsV RX2 124 RX2 yX2_readBoth wqX2_readBoth) := wg_V wa_956 wa_957 wa_958 wa_23 wa_913
theorem gX2_readTest_X2_passWord : GoodIn WALL (wsV RX2 86 RX2 yX2_passWord wqX2_passWord) := wg_V wa_829 wa_830 wa_831 wa_23 wa_832
theorem gX2_readTest_X2_emitJump : GoodIn WALL (wsV RX2 129 RX2 yX2_emitJump wqX2_emitJump) := wg_V wa_917 wa_918 wa_919 wa_23 wa_920
theorem gX2_readTest_X2_land : GoodIn WALL (wsV RX2 133 RX2 yX2_land wqX2_land) := wg_V wa_921 wa_922 wa_923 wa_23 wa_924
theorem dX2_readTest_0 : decode cX2_readTest 0 = .ok (.aload_n 0, 1) := od_42  (by decide +kernel)
theorem dX2_readTest_1 : decode cX2_readTest 1 = .ok (.invokevirtual 124, 3) := od_182 (a := 0) (b := 124) (by decide +kernel) (by decide)
theorem dX2_readTest_4 : decode cX2_readTest 4 = .ok (.ifCond .ne 5, 3) := od_154 (a := 0) (b := 5) (by decide +kernel) (by decide +kernel)
theorem dX2_readTest_7 : decode cX2_readTest 7 = .ok (.iconst 0, 1) := od_3  (by decide +kernel)
theorem dX2_readTest_8 : decode cX2_readTest 8 = .ok (.ireturn, 1) := od_172  (by decide +kernel)
theorem dX2_readTest_9 : decode cX2_readTest 9 = .ok (.iconst 0, 1) := od_3  (by decide +kernel)
theorem dX2_readTest_10 : decode cX2_readTest 10 = .ok (.istore_n 1, 1) := od_60  (by decide +kernel)
theorem dX2_readTest_11 : decode cX2_readTest 11 = .ok (.iload_n 1, 1) := od_27  (by decide +kernel)
theorem dX2_readTest_12 : decode cX2_readTest 12 = .ok (.sipush 400, 3) := od_17 (a := 1) (b := 144) (by decide +kernel) (by decide +kernel)
theorem dX2_readTest_15 : decode cX2_readTest 15 = .ok (.if_icmp .ge 39, 3) := od_162 (a := 0) (b := 39) (by decide +kernel) (by decide +kernel)
theorem dX2_readTest_18 : decode cX2_readTest 18 = .ok (.aload_n 0, 1) := od_42  (by decide +kernel)
theorem dX2_readTest_19 : decode cX2_readTest 19 = .ok (.ldc 127, 2) := od_18 (n := 127) (by decide +kernel)
theorem dX2_readTest_21 : decode cX2_readTest 21 = .ok (.invokevirtual 86, 3) := od_182 (a := 0) (b := 86) (by decide +kernel) (by decide)
theorem dX2_readTest_24 : decode cX2_readTest 24 = .ok (.ifCond .eq 30, 3) := od_153 (a := 0) (b := 30) (by decide +kernel) (by decide +kernel)
theorem dX2_readTest_27 : decode cX2_readTest 27 = .ok (.aload_n 0, 1) := od_42  (by decide +kernel)
theorem dX2_readTest_28 : decode cX2_readTest 28 = .ok (.bipush (-19), 2) := od_16 (a := 237) (by decide +kernel) (by decide +kernel)
theorem dX2_readTest_30 : decode cX2_readTest 30 = .ok (.invokevirtual 129, 3) := od_182 (a := 0) (b := 129) (by decide +kernel) (by decide)
theorem dX2_readTest_33 : decode cX2_readTest 33 = .ok (.istore_n 2, 1) := od_61  (by decide +kernel)
theorem dX2_readTest_34 : decode cX2_readTest 34 = .ok (.aload_n 0, 1) := od_42  (by decide +kernel)
theorem dX2_readTest_35 : decode cX2_readTest 35 = .ok (.invokevirtual 124, 3) := od_182 (a := 0) (b := 124) (by decide +kernel) (by decide)
theorem dX2_readTest_38 : decode cX2_readTest 38 = .ok (.ifCond .ne 5, 3) := od_154 (a := 0) (b := 5) (by decide +kernel) (by decide +kernel)
theorem dX2_readTest_41 : decode cX2_readTest 41 = .ok (.iconst 0, 1) := od_3  (by decide +kernel)
theorem dX2_readTest_42 : decode cX2_readTest 42 = .ok (.ireturn, 1) := od_172  (by decide +kernel)
theorem dX2_readTest_43 : decode cX2_readTest 43 = .ok (.aload_n 0, 1) := od_42  (by decide +kernel)
theorem dX2_readTest_44 : decode cX2_readTest 44 = .ok (.iload_n 2, 1) := od_28  (by decide +kernel)
theorem dX2_readTest_45 : decode cX2_readTest 45 = .ok (.invokevirtual 133, 3) := od_182 (a := 0) (b := 133) (by decide +kernel) (by decide)
theorem dX2_readTest_48 : decode cX2_readTest 48 = .ok (.iinc 1 1, 3) := od_132 (a := 1) (b := 1) (by decide +kernel) (by decide +kernel)
theorem dX2_readTest_51 : decode cX2_readTest 51 = .ok (.goto (-40), 3) := od_167 (a := 255) (b := 216) (by decide +kernel) (by decide +kernel)
theorem dX2_readTest_54 : decode cX2_readTest 54 = .ok (.iconst 1, 1) := od_4  (by decide +kernel)
theorem dX2_readTest_55 : decode cX2_readTest 55 = .ok (.ireturn, 1) := od_172  (by decide +kernel)
theorem gX2_readBoth_X2_readPlain : GoodIn WALL (wsV RX2 136 RX2 yX2_readPlain wqX2_readPlain) := wg_V wa_914 wa_915 wa_916 wa_23 wa_947
theorem gX2_readBoth_X2_passWord : GoodIn WALL (wsV RX2 86 RX2 yX2_passWord wqX2_passWord) := wg_V wa_829 wa_830 wa_831 wa_23 wa_832
theorem gX2_readBoth_X2_emitJump : GoodIn WALL (wsV RX2 129 RX2 yX2_emitJump wqX2_emitJump) := wg_V wa_917 wa_918 wa_919 wa_23 wa_920
theorem gX2_readBoth_X2_land : GoodIn WALL (wsV RX2 133 RX2 yX2_land wqX2_land) := wg_V wa_921 wa_922 wa_923 wa_23 wa_924
theorem dX2_readBoth_0 : decode cX2_readBoth 0 = .ok (.aload_n 0, 1) := od_42  (by decide +kernel)
theorem dX2_readBoth_1 : decode cX2_readBoth 1 = .ok (.invokevirtual 136, 3) := od_182 (a := 0) (b := 136) (by decide +kernel) (by decide)
theorem dX2_readBoth_4 : decode cX2_readBoth 4 = .ok (.ifCond .ne 5, 3) := od_154 (a := 0) (b := 5) (by decide +kernel) (by decide +kernel)
theorem dX2_readBoth_7 : decode cX2_readBoth 7 = .ok (.iconst 0, 1) := od_3  (by decide +kernel)
theorem dX2_readBoth_8 : decode cX2_readBoth 8 = .ok (.ireturn, 1) := od_172  (by decide +kernel)
theorem dX2_readBoth_9 : decode cX2_readBoth 9 = .ok (.iconst 0, 1) := od_3  (by decide +kernel)
theorem dX2_readBoth_10 : decode cX2_readBoth 10 = .ok (.istore_n 1, 1) := od_60  (by decide +kernel)
theorem dX2_readBoth_11 : decode cX2_readBoth 11 = .ok (.iload_n 1, 1) := od_27  (by decide +kernel)
theorem dX2_readBoth_12 : decode cX2_readBoth 12 = .ok (.sipush 400, 3) := od_17 (a := 1) (b := 144) (by decide +kernel) (by decide +kernel)
theorem dX2_readBoth_15 : decode cX2_readBoth 15 = .ok (.if_icmp .ge 39, 3) := od_162 (a := 0) (b := 39) (by decide +kernel) (by decide +kernel)
theorem dX2_readBoth_18 : decode cX2_readBoth 18 = .ok (.aload_n 0, 1) := od_42  (by decide +kernel)
theorem dX2_readBoth_19 : decode cX2_readBoth 19 = .ok (.ldc 139, 2) := od_18 (n := 139) (by decide +kernel)
theorem dX2_readBoth_21 : decode cX2_readBoth 21 = .ok (.invokevirtual 86, 3) := od_182 (a := 0) (b := 86) (by decide +kernel) (by decide)
theorem dX2_readBoth_24 : decode cX2_readBoth 24 = .ok (.ifCond .eq 30, 3) := od_153 (a := 0) (b := 30) (by decide +kernel) (by decide +kernel)
theorem dX2_readBoth_27 : decode cX2_readBoth 27 = .ok (.aload_n 0, 1) := od_42  (by decide +kernel)
theorem dX2_readBoth_28 : decode cX2_readBoth 28 = .ok (.bipush (-20), 2) := od_16 (a := 236) (by decide +kernel) (by decide +kernel)
theorem dX2_readBoth_30 : decode cX2_readBoth 30 = .ok (.invokevirtual 129, 3) := od_182 (a := 0) (b := 129) (by decide +kernel) (by decide)
theorem dX2_readBoth_33 : decode cX2_readBoth 33 = .ok (.istore_n 2, 1) := od_61  (by decide +kernel)
theorem dX2_readBoth_34 : decode cX2_readBoth 34 = .ok (.aload_n 0, 1) := od_42  (by decide +kernel)
theorem dX2_readBoth_35 : decode cX2_readBoth 35 = .ok (.invokevirtual 136, 3) := od_182 (a := 0) (b := 136) (by decide +kernel) (by decide)
theorem dX2_readBoth_38 : decode cX2_readBoth 38 = .ok (.ifCond .ne 5, 3) := od_154 (a := 0) (b := 5) (by decide +kernel) (by decide +kernel)
theorem dX2_readBoth_41 : decode cX2_readBoth 41 = .ok (.iconst 0, 1) := od_3  (by decide +kernel)
theorem dX2_readBoth_42 : decode cX2_readBoth 42 = .ok (.ireturn, 1) := od_172  (by decide +kernel)
theorem dX2_readBoth_43 : decode cX2_readBoth 43 = .ok (.aload_n 0, 1) := od_42  (by decide +kernel)
theorem dX2_readBoth_44 : decode cX2_readBoth 44 = .ok (.iload_n 2, 1) := od_28  (by decide +kernel)
theorem dX2_readBoth_45 : decode cX2_readBoth 45 = .ok (.invokevirtual 133, 3) := od_182 (a := 0) (b := 133) (by decide +kernel) (by decide)
theorem dX2_readBoth_48 : decode cX2_readBoth 48 = .ok (.iinc 1 1, 3) := od_132 (a := 1) (b := 1) (by decide +kernel) (by decide +kernel)
theorem dX2_readBoth_51 : decode cX2_readBoth 51 = .ok (.goto (-40), 3) := od_167 (a := 255) (b := 216) (by decide +kernel) (by decide +kernel)
theorem dX2_readBoth_54 : decode cX2_readBoth 54 = .ok (.iconst 1, 1) := od_4  (by decide +kernel)
theorem dX2_readBoth_55 : decode cX2_readBoth 55 = .ok (.ireturn, 1) := od_172  (by decide +kernel)
theorem gX2_readPlain_X2_passWord : GoodIn WALL (wsV RX2 86 RX2 yX2_passWord wqX2_passWord) := wg_V wa_829 wa_830 wa_831 wa_23 wa_832
theorem gX2_readPlain_X2_isSign : GoodIn WALL (wsV RX2 143 RX2 yX2_isSign wqX2_isSign) := wg_V wa_905 wa_906 wa_907 wa_23 wa_908
theorem gX2_readPlain_X2_readInBrackets : GoodIn WALL (wsV RX2 146 RX2 yX2_readInBrackets wqX2_readInBrackets) := wg_V wa_935 wa_936 wa_937 wa_23 wa_926
theorem gX2_readPlain_X2_readCompared : GoodIn WALL (wsV RX2 150 RX2 yX2_readCompared wqX2_readCompared) := wg_V wa_948 wa_949 wa_950 wa_23 wa_925
theorem gX2_readPlain_X2_emit : GoodIn WALL (wsV RX2 120 RX2 yX2_emit wqX2_emit) := wg_V wa_909 wa_910 wa_911 wa_23 wa_912
theorem dX2_readPlain_0 : decode cX2_readPlain 0 = .ok (.iconst 0, 1) := od_3  (by decide +kernel)
theorem dX2_readPlain_1 : decode cX2_readPlain 1 = .ok (.istore_n 1, 1) := od_60  (by decide +kernel)
theorem dX2_readPlain_2 : decode cX2_readPlain 2 = .ok (.iconst 0, 1) := od_3  (by decide +kernel)
theorem dX2_readPlain_3 : decode cX2_readPlain 3 = .ok (.istore_n 2, 1) := od_61  (by decide +kernel)
theorem dX2_readPlain_4 : decode cX2_readPlain 4 = .ok (.iload_n 2, 1) := od_28  (by decide +kernel)
theorem dX2_readPlain_5 : decode cX2_readPlain 5 = .ok (.sipush 400, 3) := od_17 (a := 1) (b := 144) (by decide +kernel) (by decide +kernel)
theorem dX2_readPlain_8 : decode cX2_readPlain 8 = .ok (.if_icmp .ge 28, 3) := od_162 (a := 0) (b := 28) (by decide +kernel) (by decide +kernel)
theorem dX2_readPlain_11 : decode cX2_readPlain 11 = .ok (.aload_n 0, 1) := od_42  (by decide +kernel)
theorem dX2_readPlain_12 : decode cX2_readPlain 12 = .ok (.ldc 141, 2) := od_18 (n := 141) (by decide +kernel)
theorem dX2_readPlain_14 : decode cX2_readPlain 14 = .ok (.invokevirtual 86, 3) := od_182 (a := 0) (b := 86) (by decide +kernel) (by decide)
theorem dX2_readPlain_17 : decode cX2_readPlain 17 = .ok (.ifCond .eq 19, 3) := od_153 (a := 0) (b := 19) (by decide +kernel) (by decide +kernel)
theorem dX2_readPlain_20 : decode cX2_readPlain 20 = .ok (.iload_n 1, 1) := od_27  (by decide +kernel)
theorem dX2_readPlain_21 : decode cX2_readPlain 21 = .ok (.ifCond .ne 7, 3) := od_154 (a := 0) (b := 7) (by decide +kernel) (by decide +kernel)
theorem dX2_readPlain_24 : decode cX2_readPlain 24 = .ok (.iconst 1, 1) := od_4  (by decide +kernel)
theorem dX2_readPlain_25 : decode cX2_readPlain 25 = .ok (.goto 4, 3) := od_167 (a := 0) (b := 4) (by decide +kernel) (by decide +kernel)
theorem dX2_readPlain_28 : decode cX2_readPlain 28 = .ok (.iconst 0, 1) := od_3  (by decide +kernel)
theorem dX2_readPlain_29 : decode cX2_readPlain 29 = .ok (.istore_n 1, 1) := od_60  (by decide +kernel)
theorem dX2_readPlain_30 : decode cX2_readPlain 30 = .ok (.iinc 2 1, 3) := od_132 (a := 2) (b := 1) (by decide +kernel) (by decide +kernel)
theorem dX2_readPlain_33 : decode cX2_readPlain 33 = .ok (.goto (-29), 3) := od_167 (a := 255) (b := 227) (by decide +kernel) (by decide +kernel)
theorem dX2_readPlain_36 : decode cX2_readPlain 36 = .ok (.aload_n 0, 1) := od_42  (by decide +kernel)
theorem dX2_readPlain_37 : decode cX2_readPlain 37 = .ok (.bipush 40, 2) := od_16 (a := 40) (by decide +kernel) (by decide +kernel)
theorem dX2_readPlain_39 : decode cX2_readPlain 39 = .ok (.invokevirtual 143, 3) := od_182 (a := 0) (b := 143) (by decide +kernel) (by decide)
theorem dX2_readPlain_42 : decode cX2_readPlain 42 = .ok (.ifCond .eq 11, 3) := od_153 (a := 0) (b := 11) (by decide +kernel) (by decide +kernel)
theorem dX2_readPlain_45 : decode cX2_readPlain 45 = .ok (.aload_n 0, 1) := od_42  (by decide +kernel)
theorem dX2_readPlain_46 : decode cX2_readPlain 46 = .ok (.iconst 1, 1) := od_4  (by decide +kernel)
theorem dX2_readPlain_47 : decode cX2_readPlain 47 = .ok (.invokevirtual 146, 3) := od_182 (a := 0) (b := 146) (by decide +kernel) (by decide)
theorem dX2_readPlain_50 : decode cX2_readPlain 50 = .ok (.goto 7, 3) := od_167 (a := 0) (b := 7) (by decide +kernel) (by decide +kernel)
theorem dX2_readPlain_53 : decode cX2_readPlain 53 = .ok (.aload_n 0, 1) := od_42  (by decide +kernel)
theorem dX2_readPlain_54 : decode cX2_readPlain 54 = .ok (.invokevirtual 150, 3) := od_182 (a := 0) (b := 150) (by decide +kernel) (by decide)
theorem dX2_readPlain_57 : decode cX2_readPlain 57 = .ok (.istore_n 2, 1) := od_61  (by decide +kernel)
theorem dX2_readPlain_58 : decode cX2_readPlain 58 = .ok (.iload_n 2, 1) := od_28  (by decide +kernel)
theorem dX2_readPlain_59 : decode cX2_readPlain 59 = .ok (.ifCond .eq 13, 3) := od_153 (a := 0) (b := 13) (by decide +kernel) (by decide +kernel)
theorem dX2_readPlain_62 : decode cX2_readPlain 62 = .ok (.iload_n 1, 1) := od_27  (by decide +kernel)
theorem dX2_readPlain_63 : decode cX2_readPlain 63 = .ok (.ifCond .eq 9, 3) := od_153 (a := 0) (b := 9) (by decide +kernel) (by decide +kernel)
theorem dX2_readPlain_66 : decode cX2_readPlain 66 = .ok (.aload_n 0, 1) := od_42  (by decide +kernel)
theorem dX2_readPlain_67 : decode cX2_readPlain 67 = .ok (.bipush (-18), 2) := od_16 (a := 238) (by decide +kernel) (by decide +kernel)
theorem dX2_readPlain_69 : decode cX2_readPlain 69 = .ok (.invokevirtual 120, 3) := od_182 (a := 0) (b := 120) (by decide +kernel) (by decide)
theorem dX2_readPlain_72 : decode cX2_readPlain 72 = .ok (.iload_n 2, 1) := od_28  (by decide +kernel)
theorem dX2_readPlain_73 : decode cX2_readPlain 73 = .ok (.ireturn, 1) := od_172  (by decide +kernel)
theorem gX2_readCompared_X2_readSum : GoodIn WALL (wsV RX2 112 RX2 yX2_readSum wqX2_readSum) := wg_V wa_898 wa_899 wa_900 wa_23 wa_901
theorem gX2_readCompared_X2_isSign : GoodIn WALL (wsV RX2 143 RX2 yX2_isSign wqX2_isSign) := wg_V wa_905 wa_906 wa_907 wa_23 wa_908
theorem gX2_readCompared_X2_advance : GoodIn WALL (wsV RX2 53 RX2 yX2_advance wqX2_advance) := wg_V wa_807 wa_808 wa_809 wa_23 wa_810
theorem gX2_readCompared_X2_emit : GoodIn WALL (wsV RX2 120 RX2 yX2_emit wqX2_emit) := wg_V wa_909 wa_910 wa_911 wa_23 wa_912
theorem dX2_readCompared_0 : decode cX2_readCompared 0 = .ok (.aload_n 0, 1) := od_42  (by decide +kernel)
theorem dX2_readCompared_1 : decode cX2_readCompared 1 = .ok (.invokevirtual 112, 3) := od_182 (a := 0) (b := 112) (by decide +kernel) (by decide)
theorem dX2_readCompared_4 : decode cX2_readCompared 4 = .ok (.ifCond .ne 5, 3) := od_154 (a := 0) (b := 5) (by decide +kernel) (by decide +kernel)
theorem dX2_readCompared_7 : decode cX2_readCompared 7 = .ok (.iconst 0, 1) := od_3  (by decide +kernel)
theorem dX2_readCompared_8 : decode cX2_readCompared 8 = .ok (.ireturn, 1) := od_172  (by decide +kernel)
theorem dX2_readCompared_9 : decode cX2_readCompared 9 = .ok (.aload_n 0, 1) := od_42  (by decide +kernel)
theorem dX2_readCompared_10 : decode cX2_readCompared 10 = .ok (.bipush 60, 2) := od_16 (a := 60) (by decide +kernel) (by decide +kernel)
theorem dX2_readCompared_12 : decode cX2_readCompared 12 = .ok (.invokevirtual 143, 3) := od_182 (a := 0) (b := 143) (by decide +kernel) (by decide)
theorem dX2_readCompared_15 : decode cX2_readCompared 15 = .ok (.ifCond .eq 8, 3) := od_153 (a := 0) (b := 8) (by decide +kernel) (by decide +kernel)
theorem dX2_readCompared_18 : decode cX2_readCompared 18 = .ok (.bipush (-15), 2) := od_16 (a := 241) (by decide +kernel) (by decide +kernel)
theorem dX2_readCompared_20 : decode cX2_readCompared 20 = .ok (.goto 19, 3) := od_167 (a := 0) (b := 19) (by decide +kernel) (by decide +kernel)
theorem dX2_readCompared_23 : decode cX2_readCompared 23 = .ok (.aload_n 0, 1) := od_42  (by decide +kernel)
theorem dX2_readCompared_24 : decode cX2_readCompared 24 = .ok (.bipush 62, 2) := od_16 (a := 62) (by decide +kernel) (by decide +kernel)
theorem dX2_readCompared_26 : decode cX2_readCompared 26 = .ok (.invokevirtual 143, 3) := od_182 (a := 0) (b := 143) (by decide +kernel) (by decide)
theorem dX2_readCompared_29 : decode cX2_readCompared 29 = .ok (.ifCond .eq 8, 3) := od_153 (a := 0) (b := 8) (by decide +kernel) (by decide +kernel)
theorem dX2_readCompared_32 : decode cX2_readCompared 32 = .ok (.bipush (-16), 2) := od_16 (a := 240) (by decide +kernel) (by decide +kernel)
theorem dX2_readCompared_34 : decode cX2_readCompared 34 = .ok (.goto 5, 3) := od_167 (a := 0) (b := 5) (by decide +kernel) (by decide +kernel)
theorem dX2_readCompared_37 : decode cX2_readCompared 37 = .ok (.bipush (-17), 2) := od_16 (a := 239) (by decide +kernel) (by decide +kernel)
theorem dX2_readCompared_39 : decode cX2_readCompared 39 = .ok (.istore_n 1, 1) := od_60  (by decide +kernel)
theorem dX2_readCompared_40 : decode cX2_readCompared 40 = .ok (.iload_n 1, 1) := od_27  (by decide +kernel)
theorem dX2_readCompared_41 : decode cX2_readCompared 41 = .ok (.bipush (-17), 2) := od_16 (a := 239) (by decide +kernel) (by decide +kernel)
theorem dX2_readCompared_43 : decode cX2_readCompared 43 = .ok (.if_icmp .ne 14, 3) := od_160 (a := 0) (b := 14) (by decide +kernel) (by decide +kernel)
theorem dX2_readCompared_46 : decode cX2_readCompared 46 = .ok (.aload_n 0, 1) := od_42  (by decide +kernel)
theorem dX2_readCompared_47 : decode cX2_readCompared 47 = .ok (.bipush 61, 2) := od_16 (a := 61) (by decide +kernel) (by decide +kernel)
theorem dX2_readCompared_49 : decode cX2_readCompared 49 = .ok (.invokevirtual 143, 3) := od_182 (a := 0) (b := 143) (by decide +kernel) (by decide)
theorem dX2_readCompared_52 : decode cX2_readCompared 52 = .ok (.ifCond .ne 5, 3) := od_154 (a := 0) (b := 5) (by decide +kernel) (by decide +kernel)
theorem dX2_readCompared_55 : decode cX2_readCompared 55 = .ok (.iconst 0, 1) := od_3  (by decide +kernel)
theorem dX2_readCompared_56 : decode cX2_readCompared 56 = .ok (.ireturn, 1) := od_172  (by decide +kernel)
theorem dX2_readCompared_57 : decode cX2_readCompared 57 = .ok (.aload_n 0, 1) := od_42  (by decide +kernel)
theorem dX2_readCompared_58 : decode cX2_readCompared 58 = .ok (.invokevirtual 53, 3) := od_182 (a := 0) (b := 53) (by decide +kernel) (by decide)
theorem dX2_readCompared_61 : decode cX2_readCompared 61 = .ok (.aload_n 0, 1) := od_42  (by decide +kernel)
theorem dX2_readCompared_62 : decode cX2_readCompared 62 = .ok (.invokevirtual 112, 3) := od_182 (a := 0) (b := 112) (by decide +kernel) (by decide)
theorem dX2_readCompared_65 : decode cX2_readCompared 65 = .ok (.ifCond .ne 5, 3) := od_154 (a := 0) (b := 5) (by decide +kernel) (by decide +kernel)
theorem dX2_readCompared_68 : decode cX2_readCompared 68 = .ok (.iconst 0, 1) := od_3  (by decide +kernel)
theorem dX2_readCompared_69 : decode cX2_readCompared 69 = .ok (.ireturn, 1) := od_172  (by decide +kernel)
theorem dX2_readCompared_70 : decode cX2_readCompared 70 = .ok (.aload_n 0, 1) := od_42  (by decide +kernel)
theorem dX2_readCompared_71 : decode cX2_readCompared 71 = .ok (.iload_n 1, 1) := od_27  (by decide +kernel)
theorem dX2_readCompared_72 : decode cX2_readCompared 72 = .ok (.invokevirtual 120, 3) := od_182 (a := 0) (b := 120) (by decide +kernel) (by decide)
theorem dX2_readCompared_75 : decode cX2_readCompared 75 = .ok (.iconst 1, 1) := od_4  (by decide +kernel)
theorem dX2_readCompared_76 : decode cX2_readCompared 76 = .ok (.ireturn, 1) := od_172  (by decide +kernel)
theorem gX2_readSum_X2_readTerm : GoodIn WALL (wsV RX2 153 RX2 yX2_readTerm wqX2_readTerm) := wg_V wa_902 wa_903 wa_904 wa_23 wa_951
theorem gX2_readSum_X2_isSign : GoodIn WALL (wsV RX2 143 RX2 yX2_isSign wqX2_isSign) := wg_V wa_905 wa_906 wa_907 wa_23 wa_908
theorem gX2_readSum_X2_advance : GoodIn WALL (wsV RX2 53 RX2 yX2_advance wqX2_advance) := wg_V wa_807 wa_808 wa_809 wa_23 wa_810
theorem gX2_readSum_X2_emit : GoodIn WALL (wsV RX2 120 RX2 yX2_emit wqX2_emit) := wg_V wa_909 wa_910 wa_911 wa_23 wa_912
theorem dX2_readSum_0 : decode cX2_readSum 0 = .ok (.aload_n 0, 1) := od_42  (by decide +kernel)
theorem dX2_readSum_1 : decode cX2_readSum 1 = .ok (.invokevirtual 153, 3) := od_182 (a := 0) (b := 153) (by decide +kernel) (by decide)
theorem dX2_readSum_4 : decode cX2_readSum 4 = .ok (.ifCond .ne 5, 3) := od_154 (a := 0) (b := 5) (by decide +kernel) (by decide +kernel)
theorem dX2_readSum_7 : decode cX2_readSum 7 = .ok (.iconst 0, 1) := od_3  (by decide +kernel)
theorem dX2_readSum_8 : decode cX2_readSum 8 = .ok (.ireturn, 1) := od_172  (by decide +kernel)
theorem dX2_readSum_9 : decode cX2_readSum 9 = .ok (.iconst 0, 1) := od_3  (by decide +kernel)
theorem dX2_readSum_10 : decode cX2_readSum 10 = .ok (.istore_n 1, 1) := od_60  (by decide +kernel)
theorem dX2_readSum_11 : decode cX2_readSum 11 = .ok (.iload_n 1, 1) := od_27  (by decide +kernel)
theorem dX2_readSum_12 : decode cX2_readSum 12 = .ok (.sipush 400, 3) := od_17 (a := 1) (b := 144) (by decide +kernel) (by decide +kernel)
theorem dX2_readSum_15 : decode cX2_readSum 15 = .ok (.if_icmp .ge 62, 3) := od_162 (a := 0) (b := 62) (by decide +kernel) (by decide +kernel)
theorem dX2_readSum_18 : decode cX2_readSum 18 = .ok (.aload_n 0, 1) := od_42  (by decide +kernel)
theorem dX2_readSum_19 : decode cX2_readSum 19 = .ok (.bipush 43, 2) := od_16 (a := 43) (by decide +kernel) (by decide +kernel)
theorem dX2_readSum_21 : decode cX2_readSum 21 = .ok (.invokevirtual 143, 3) := od_182 (a := 0) (b := 143) (by decide +kernel) (by decide)
theorem dX2_readSum_24 : decode cX2_readSum 24 = .ok (.ifCond .ne 12, 3) := od_154 (a := 0) (b := 12) (by decide +kernel) (by decide +kernel)
theorem dX2_readSum_27 : decode cX2_readSum 27 = .ok (.aload_n 0, 1) := od_42  (by decide +kernel)
theorem dX2_readSum_28 : decode cX2_readSum 28 = .ok (.bipush 45, 2) := od_16 (a := 45) (by decide +kernel) (by decide +kernel)
theorem dX2_readSum_30 : decode cX2_readSum 30 = .ok (.invokevirtual 143, 3) := od_182 (a := 0) (b := 143) (by decide +kernel) (by decide)
theorem dX2_readSum_33 : decode cX2_readSum 33 = .ok (.ifCond .eq 44, 3) := od_153 (a := 0) (b := 44) (by decide +kernel) (by decide +kernel)
theorem dX2_readSum_36 : decode cX2_readSum 36 = .ok (.aload_n 0, 1) := od_42  (by decide +kernel)
theorem dX2_readSum_37 : decode cX2_readSum 37 = .ok (.bipush 43, 2) := od_16 (a := 43) (by decide +kernel) (by decide +kernel)
theorem dX2_readSum_39 : decode cX2_readSum 39 = .ok (.invokevirtual 143, 3) := od_182 (a := 0) (b := 143) (by decide +kernel) (by decide)
theorem dX2_readSum_42 : decode cX2_readSum 42 = .ok (.ifCond .eq 8, 3) := od_153 (a := 0) (b := 8) (by decide +kernel) (by decide +kernel)
theorem dX2_readSum_45 : decode cX2_readSum 45 = .ok (.bipush (-11), 2) := od_16 (a := 245) (by decide +kernel) (by decide +kernel)
theorem dX2_readSum_47 : decode cX2_readSum 47 = .ok (.goto 5, 3) := od_167 (a := 0) (b := 5) (by decide +kernel) (by decide +kernel)
theorem dX2_readSum_50 : decode cX2_readSum 50 = .ok (.bipush (-12), 2) := od_16 (a := 244) (by decide +kernel) (by decide +kernel)
theorem dX2_readSum_52 : decode cX2_readSum 52 = .ok (.istore_n 2, 1) := od_61  (by decide +kernel)
theorem dX2_readSum_53 : decode cX2_readSum 53 = .ok (.aload_n 0, 1) := od_42  (by decide +kernel)
theorem dX2_readSum_54 : decode cX2_readSum 54 = .ok (.invokevirtual 53, 3) := od_182 (a := 0) (b := 53) (by decide +kernel) (by decide)
theorem dX2_readSum_57 : decode cX2_readSum 57 = .ok (.aload_n 0, 1) := od_42  (by decide +kernel)
theorem dX2_readSum_58 : decode cX2_readSum 58 = .ok (.invokevirtual 153, 3) := od_182 (a := 0) (b := 153) (by decide +kernel) (by decide)
theorem dX2_readSum_61 : decode cX2_readSum 61 = .ok (.ifCond .ne 5, 3) := od_154 (a := 0) (b := 5) (by decide +kernel) (by decide +kernel)
theorem dX2_readSum_64 : decode cX2_readSum 64 = .ok (.iconst 0, 1) := od_3  (by decide +kernel)
theorem dX2_readSum_65 : decode cX2_readSum 65 = .ok (.ireturn, 1) := od_172  (by decide +kernel)
theorem dX2_readSum_66 : decode cX2_readSum 66 = .ok (.aload_n 0, 1) := od_42  (by decide +kernel)
theorem dX2_readSum_67 : decode cX2_readSum 67 = .ok (.iload_n 2, 1) := od_28  (by decide +kernel)
theorem dX2_readSum_68 : decode cX2_readSum 68 = .ok (.invokevirtual 120, 3) := od_182 (a := 0) (b := 120) (by decide +kernel) (by decide)
theorem dX2_readSum_71 : decode cX2_readSum 71 = .ok (.iinc 1 1, 3) := od_132 (a := 1) (b := 1) (by decide +kernel) (by decide +kernel)
theorem dX2_readSum_74 : decode cX2_readSum 74 = .ok (.goto (-63), 3) := od_167 (a := 255) (b := 193) (by decide +kernel) (by decide +kernel)
theorem dX2_readSum_77 : decode cX2_readSum 77 = .ok (.iconst 1, 1) := od_4  (by decide +kernel)
theorem dX2_readSum_78 : decode cX2_readSum 78 = .ok (.ireturn, 1) := od_172  (by decide +kernel)
theorem gX2_readTerm_X2_readPart : GoodIn WALL (wsV RX2 156 RX2 yX2_readPart wqX2_readPart) := wg_V wa_952 wa_953 wa_954 wa_23 wa_934
theorem gX2_readTerm_X2_isSign : GoodIn WALL (wsV RX2 143 RX2 yX2_isSign wqX2_isSign) := wg_V wa_905 wa_906 wa_907 wa_23 wa_908
theorem gX2_readTerm_X2_advance : GoodIn WALL (wsV RX2 53 RX2 yX2_advance wqX2_advance) := wg_V wa_807 wa_808 wa_809 wa_23 wa_810
theorem gX2_readTerm_X2_emit : GoodIn WALL (wsV RX2 120 RX2 yX2_emit wqX2_emit) := wg_V wa_909 wa_910 wa_911 wa_23 wa_912
theorem dX2_readTerm_0 : decode cX2_readTerm 0 = .ok (.aload_n 0, 1) := od_42  (by decide +kernel)
theorem dX2_readTerm_1 : decode cX2_readTerm 1 = .ok (.invokevirtual 156, 3) := od_182 (a := 0) (b := 156) (by decide +kernel) (by decide)
theorem dX2_readTerm_4 : decode cX2_readTerm 4 = .ok (.ifCond .ne 5, 3) := od_154 (a := 0) (b := 5) (by decide +kernel) (by decide +kernel)
theorem dX2_readTerm_7 : decode cX2_readTerm 7 = .ok (.iconst 0, 1) := od_3  (by decide +kernel)
theorem dX2_readTerm_8 : decode cX2_readTerm 8 = .ok (.ireturn, 1) := od_172  (by decide +kernel)
theorem dX2_readTerm_9 : decode cX2_readTerm 9 = .ok (.iconst 0, 1) := od_3  (by decide +kernel)
theorem dX2_readTerm_10 : decode cX2_readTerm 10 = .ok (.istore_n 1, 1) := od_60  (by decide +kernel)
theorem dX2_readTerm_11 : decode cX2_readTerm 11 = .ok (.iload_n 1, 1) := od_27  (by decide +kernel)
theorem dX2_readTerm_12 : decode cX2_readTerm 12 = .ok (.sipush 400, 3) := od_17 (a := 1) (b := 144) (by decide +kernel) (by decide +kernel)
theorem dX2_readTerm_15 : decode cX2_readTerm 15 = .ok (.if_icmp .ge 62, 3) := od_162 (a := 0) (b := 62) (by decide +kernel) (by decide +kernel)
theorem dX2_readTerm_18 : decode cX2_readTerm 18 = .ok (.aload_n 0, 1) := od_42  (by decide +kernel)
theorem dX2_readTerm_19 : decode cX2_readTerm 19 = .ok (.bipush 42, 2) := od_16 (a := 42) (by decide +kernel) (by decide +kernel)
theorem dX2_readTerm_21 : decode cX2_readTerm 21 = .ok (.invokevirtual 143, 3) := od_182 (a := 0) (b := 143) (by decide +kernel) (by decide)
theorem dX2_readTerm_24 : decode cX2_readTerm 24 = .ok (.ifCond .ne 12, 3) := od_154 (a := 0) (b := 12) (by decide +kernel) (by decide +kernel)
theorem dX2_readTerm_27 : decode cX2_readTerm 27 = .ok (.aload_n 0, 1) := od_42  (by decide +kernel)
theorem dX2_readTerm_28 : decode cX2_readTerm 28 = .ok (.bipush 47, 2) := od_16 (a := 47) (by decide +kernel) (by decide +kernel)
theorem dX2_readTerm_30 : decode cX2_readTerm 30 = .ok (.invokevirtual 143, 3) := od_182 (a := 0) (b := 143) (by decide +kernel) (by decide)
theorem dX2_readTerm_33 : decode cX2_readTerm 33 = .ok (.ifCond .eq 44, 3) := od_153 (a := 0) (b := 44) (by decide +kernel) (by decide +kernel)
theorem dX2_readTerm_36 : decode cX2_readTerm 36 = .ok (.aload_n 0, 1) := od_42  (by decide +kernel)
theorem dX2_readTerm_37 : decode cX2_readTerm 37 = .ok (.bipush 42, 2) := od_16 (a := 42) (by decide +kernel) (by decide +kernel)
theorem dX2_readTerm_39 : decode cX2_readTerm 39 = .ok (.invokevirtual 143, 3) := od_182 (a := 0) (b := 143) (by decide +kernel) (by decide)
theorem dX2_readTerm_42 : decode cX2_readTerm 42 = .ok (.ifCond .eq 8, 3) := od_153 (a := 0) (b := 8) (by decide +kernel) (by decide +kernel)
theorem dX2_readTerm_45 : decode cX2_readTerm 45 = .ok (.bipush (-13), 2) := od_16 (a := 243) (by decide +kernel) (by decide +kernel)
theorem dX2_readTerm_47 : decode cX2_readTerm 47 = .ok (.goto 5, 3) := od_167 (a := 0) (b := 5) (by decide +kernel) (by decide +kernel)
theorem dX2_readTerm_50 : decode cX2_readTerm 50 = .ok (.bipush (-14), 2) := od_16 (a := 242) (by decide +kernel) (by decide +kernel)
theorem dX2_readTerm_52 : decode cX2_readTerm 52 = .ok (.istore_n 2, 1) := od_61  (by decide +kernel)
theorem dX2_readTerm_53 : decode cX2_readTerm 53 = .ok (.aload_n 0, 1) := od_42  (by decide +kernel)
theorem dX2_readTerm_54 : decode cX2_readTerm 54 = .ok (.invokevirtual 53, 3) := od_182 (a := 0) (b := 53) (by decide +kernel) (by decide)
theorem dX2_readTerm_57 : decode cX2_readTerm 57 = .ok (.aload_n 0, 1) := od_42  (by decide +kernel)
theorem dX2_readTerm_58 : decode cX2_readTerm 58 = .ok (.invokevirtual 156, 3) := od_182 (a := 0) (b := 156) (by decide +kernel) (by decide)
theorem dX2_readTerm_61 : decode cX2_readTerm 61 = .ok (.ifCond .ne 5, 3) := od_154 (a := 0) (b := 5) (by decide +kernel) (by decide +kernel)
theorem dX2_readTerm_64 : decode cX2_readTerm 64 = .ok (.iconst 0, 1) := od_3  (by decide +kernel)
theorem dX2_readTerm_65 : decode cX2_readTerm 65 = .ok (.ireturn, 1) := od_172  (by decide +kernel)
theorem dX2_readTerm_66 : decode cX2_readTerm 66 = .ok (.aload_n 0, 1) := od_42  (by decide +kernel)
theorem dX2_readTerm_67 : decode cX2_readTerm 67 = .ok (.iload_n 2, 1) := od_28  (by decide +kernel)
theorem dX2_readTerm_68 : decode cX2_readTerm 68 = .ok (.invokevirtual 120, 3) := od_182 (a := 0) (b := 120) (by decide +kernel) (by decide)
theorem dX2_readTerm_71 : decode cX2_readTerm 71 = .ok (.iinc 1 1, 3) := od_132 (a := 1) (b := 1) (by decide +kernel) (by decide +kernel)
theorem dX2_readTerm_74 : decode cX2_readTerm 74 = .ok (.goto (-63), 3) := od_167 (a := 255) (b := 193) (by decide +kernel) (by decide +kernel)
theorem dX2_readTerm_77 : decode cX2_readTerm 77 = .ok (.iconst 1, 1) := od_4  (by decide +kernel)
theorem dX2_readTerm_78 : decode cX2_readTerm 78 = .ok (.ireturn, 1) := od_172  (by decide +kernel)
theorem gX2_readPart_X2_isSign : GoodIn WALL (wsV RX2 143 RX2 yX2_isSign wqX2_isSign) := wg_V wa_905 wa_906 wa_907 wa_23 wa_908
theorem gX2_readPart_X2_readInBrackets : GoodIn WALL (wsV RX2 146 RX2 yX2_readInBrackets wqX2_readInBrackets) := wg_V wa_935 wa_936 wa_937 wa_23 wa_926
theorem gX2_readPart_X2_leafHere : GoodIn WALL (wsV RX2 159 RX2 yX2_leafHere wqX2_leafHere) := wg_V wa_938 wa_939 wa_940 wa_23 wa_941
theorem gX2_readPart_X2_emit : GoodIn WALL (wsV RX2 120 RX2 yX2_emit wqX2_emit) := wg_V wa_909 wa_910 wa_911 wa_23 wa_912
theorem gX2_readPart_X2_advance : GoodIn WALL (wsV RX2 53 RX2 yX2_advance wqX2_advance) := wg_V wa_807 wa_808 wa_809 wa_23 wa_810
theorem dX2_readPart_0 : decode cX2_readPart 0 = .ok (.aload_n 0, 1) := od_42  (by decide +kernel)
theorem dX2_readPart_1 : decode cX2_readPart 1 = .ok (.bipush 91, 2) := od_16 (a := 91) (by decide +kernel) (by decide +kernel)
theorem dX2_readPart_3 : decode cX2_readPart 3 = .ok (.invokevirtual 143, 3) := od_182 (a := 0) (b := 143) (by decide +kernel) (by decide)
theorem dX2_readPart_6 : decode cX2_readPart 6 = .ok (.ifCond .eq 9, 3) := od_153 (a := 0) (b := 9) (by decide +kernel) (by decide +kernel)
theorem dX2_readPart_9 : decode cX2_readPart 9 = .ok (.aload_n 0, 1) := od_42  (by decide +kernel)
theorem dX2_readPart_10 : decode cX2_readPart 10 = .ok (.iconst 0, 1) := od_3  (by decide +kernel)
theorem dX2_readPart_11 : decode cX2_readPart 11 = .ok (.invokevirtual 146, 3) := od_182 (a := 0) (b := 146) (by decide +kernel) (by decide)
theorem dX2_readPart_14 : decode cX2_readPart 14 = .ok (.ireturn, 1) := od_172  (by decide +kernel)
theorem dX2_readPart_15 : decode cX2_readPart 15 = .ok (.aload_n 0, 1) := od_42  (by decide +kernel)
theorem dX2_readPart_16 : decode cX2_readPart 16 = .ok (.invokevirtual 159, 3) := od_182 (a := 0) (b := 159) (by decide +kernel) (by decide)
theorem dX2_readPart_19 : decode cX2_readPart 19 = .ok (.istore_n 1, 1) := od_60  (by decide +kernel)
theorem dX2_readPart_20 : decode cX2_readPart 20 = .ok (.iload_n 1, 1) := od_27  (by decide +kernel)
theorem dX2_readPart_21 : decode cX2_readPart 21 = .ok (.sipush (-1000), 3) := od_17 (a := 252) (b := 24) (by decide +kernel) (by decide +kernel)
theorem dX2_readPart_24 : decode cX2_readPart 24 = .ok (.if_icmp .eq 12, 3) := od_159 (a := 0) (b := 12) (by decide +kernel) (by decide +kernel)
theorem dX2_readPart_27 : decode cX2_readPart 27 = .ok (.aload_n 0, 1) := od_42  (by decide +kernel)
theorem dX2_readPart_28 : decode cX2_readPart 28 = .ok (.getfield 38, 3) := od_180 (a := 0) (b := 38) (by decide +kernel) (by decide)
theorem dX2_readPart_31 : decode cX2_readPart 31 = .ok (.bipush 50, 2) := od_16 (a := 50) (by decide +kernel) (by decide +kernel)
theorem dX2_readPart_33 : decode cX2_readPart 33 = .ok (.if_icmp .lt 5, 3) := od_161 (a := 0) (b := 5) (by decide +kernel) (by decide +kernel)
theorem dX2_readPart_36 : decode cX2_readPart 36 = .ok (.iconst 0, 1) := od_3  (by decide +kernel)
theorem dX2_readPart_37 : decode cX2_readPart 37 = .ok (.ireturn, 1) := od_172  (by decide +kernel)
theorem dX2_readPart_38 : decode cX2_readPart 38 = .ok (.aload_n 0, 1) := od_42  (by decide +kernel)
theorem dX2_readPart_39 : decode cX2_readPart 39 = .ok (.dup, 1) := od_89  (by decide +kernel)
theorem dX2_readPart_40 : decode cX2_readPart 40 = .ok (.getfield 38, 3) := od_180 (a := 0) (b := 38) (by decide +kernel) (by decide)
theorem dX2_readPart_43 : decode cX2_readPart 43 = .ok (.iconst 1, 1) := od_4  (by decide +kernel)
theorem dX2_readPart_44 : decode cX2_readPart 44 = .ok (.iadd, 1) := od_96  (by decide +kernel)
theorem dX2_readPart_45 : decode cX2_readPart 45 = .ok (.putfield 38, 3) := od_181 (a := 0) (b := 38) (by decide +kernel) (by decide)
theorem dX2_readPart_48 : decode cX2_readPart 48 = .ok (.aload_n 0, 1) := od_42  (by decide +kernel)
theorem dX2_readPart_49 : decode cX2_readPart 49 = .ok (.iload_n 1, 1) := od_27  (by decide +kernel)
theorem dX2_readPart_50 : decode cX2_readPart 50 = .ok (.invokevirtual 120, 3) := od_182 (a := 0) (b := 120) (by decide +kernel) (by decide)
theorem dX2_readPart_53 : decode cX2_readPart 53 = .ok (.aload_n 0, 1) := od_42  (by decide +kernel)
theorem dX2_readPart_54 : decode cX2_readPart 54 = .ok (.invokevirtual 53, 3) := od_182 (a := 0) (b := 53) (by decide +kernel) (by decide)
theorem dX2_readPart_57 : decode cX2_readPart 57 = .ok (.iconst 1, 1) := od_4  (by decide +kernel)
theorem dX2_readPart_58 : decode cX2_readPart 58 = .ok (.ireturn, 1) := od_172  (by decide +kernel)
theorem dX2_readInBrackets_0 : decode cX2_readInBrackets 0 = .ok (.aload_n 0, 1) := od_42  (by decide +kernel)
theorem dX2_readInBrackets_1 : decode cX2_readInBrackets 1 = .ok (.getfield 41, 3) := od_180 (a := 0) (b := 41) (by decide +kernel) (by decide)
theorem dX2_readInBrackets_4 : decode cX2_readInBrackets 4 = .ok (.bipush 8, 2) := od_16 (a := 8) (by decide +kernel) (by decide +kernel)
theorem dX2_readInBrackets_6 : decode cX2_readInBrackets 6 = .ok (.if_icmp .lt 5, 3) := od_161 (a := 0) (b := 5) (by decide +kernel) (by decide +kernel)
theorem dX2_readInBrackets_9 : decode cX2_readInBrackets 9 = .ok (.iconst 0, 1) := od_3  (by decide +kernel)
theorem dX2_readInBrackets_10 : decode cX2_readInBrackets 10 = .ok (.ireturn, 1) := od_172  (by decide +kernel)
end

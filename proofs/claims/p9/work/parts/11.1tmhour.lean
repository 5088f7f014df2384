set_option maxHeartbeats 4000000 in
set_option maxRecDepth 100000 in
theorem t_X12_endOrder (l : Launch) (dC : Nat → ClassId) (dI : Nat → Nat → Nat) (sz : Nat) (κ : Nat → ClassId) (Θ : Nat → Option Int) (τ ν : Nat → Nat) (ρ : Nat → Nat → Nat) (L : List Nat) (f : Nat → va_E) (hG : tp_G τ ν ρ L) (hT : tp_T (mo_O κ Θ) κ τ ν ρ f) (h0 : Nat) (us : Int32) (x : Int) (b : Int) (qs : Int) (ht_h0 : τ h0 = 13) (hL_us : us.toInt = 547 + 84 * qs) (hq_us : 0 ≤ qs ∧ qs ≤ 5) (hbb : 0 ≤ b ∧ b ≤ 1000) (hJ : mo_RI x b (mo_R (mo_i (f (ρ h0 2))))) (ho : 1 ≤ (mo_R (mo_i (f (ρ h0 2)))) (547 + 84 * qs + 10)) (hn1 : qs < (mo_R (mo_i (f (ρ h0 2)))) (1)) : Met l yX12_endOrder wqX12_endOrder ({ frames := 3, cells := 0, slots := 0, locals := 800 }) (va_Pc [.ref h0, .int us] (pz_B dC dI (tp_K κ) (va_pl L f) sz)) (va_Qv (fun (f1 : Nat → va_E) => tp_T (mo_O κ Θ) κ τ ν ρ f1 ∧ tp_F τ [32] f f1 ∧ mo_RI x b (mo_R (mo_i (f1 (ρ h0 2)))) ∧ mo_KN (fun k => False) (mo_R (mo_i (f (ρ h0 2)))) (mo_R (mo_i (f1 (ρ h0 2)))) ∧ (mo_R (mo_i (f1 (ρ h0 2)))) (1) = (mo_R (mo_i (f (ρ h0 2)))) (1) ∧ (mo_R (mo_i (f1 (ρ h0 2)))) (11) = (mo_R (mo_i (f (ρ h0 2)))) (11)) (fun (f1 : Nat → va_E) (t : State) => pz_E dC dI (tp_K κ) (va_A (va_pl L f) sz) (va_pl L f1) t) (va_A (va_pl L f) sz)) 0 0 (va_A (va_pl L f) sz) := by
  refine Met.ofW (cc := cX12_endOrder) (maxL := 3) (ret := none) (by decide) rfl ?_
  intro p e s m args below meth c s₁ B hml hv
  obtain ⟨rfl, hsz, hP, hK, hD0, hN⟩ := hv
  have hx := B.exec
  have hb := B.bytes
  have hr := B.returns
  have hts := fun (w : Cond) (h : w ∈ WALL) => atoms_spec (ws := wqX12_endOrder) B.pre w (List.mem_cons_of_mem _ h)
  have hown : s.vm.findClass RX12 = some m.cls := findClass_of_methodNamed B.named
  have hlocks := B.notSynchronized
  subst hsz
  have hD := hD0.self (sz := s.heap.size)
  generalize hAe : va_A (va_pl L f) s.heap.size = A at hD ⊢
  have hA : ∀ q : Nat, s.heap.size ≤ q → A q := fun q h => by rw [← hAe]; exact Or.inr h
  have hS : va_S A s.heap s.heap [] := va_S.rf
  have hR : tp_F τ [32] f f := tp_F.rf
  have hl := lv_entry ([.ref h0, .int us]) (n := 3) (Nat.le_of_ble_eq_true rfl)
  rw [lg_entry_eq]
  generalize (lg_sl ([.ref h0, .int us]) ++ List.replicate (3 - (lg_sl ([.ref h0, .int us])).length) Slot.unset).toArray = ls at hl ⊢
  have hl : lv_has ls 3 [(0, .ref h0), (1, .int us)] := hl
  refine tgk_13 hG ht_h0 (fun y1 y2 y3 y4 y5 y6 y7 y8 y9 y10 y11 y12 y13 y14 y15 y16 y17 y18 y19 y20 y21 y22 y23 y24 y25 => ?_)
  refine tpk_32 hT y1 (fun g27 hf_o26 => ?_)
  have hI : mo_RI x b (mo_R g27) := by have q9 := hJ; rw [hf_o26, mo_i1] at q9; exact q9
  rw [hf_o26, mo_i1] at ho
  rw [hf_o26, mo_i1] at hn1
  obtain ⟨n1, en1⟩ : ∃ n : Int, n = mo_R g27 (1) := ⟨_, rfl⟩
  have kn1 := hI.k1
  obtain ⟨n11, en11⟩ : ∃ n : Int, n = mo_R g27 (11) := ⟨_, rfl⟩
  have kn11 := hI.k11
  have hKN : mo_KN (fun k => False) (mo_R g27) (mo_R g27) := mo_KN.rf
  have hI0 := hI
  have hq0 := hI.SO (s := qs) (by omega) (by omega)
  refine lv_iconst (v := 2) hx hb dX12_endOrder_0 (by decide) ?_
  refine lv_istore_n (lv' := [(2, .int 2), (0, .ref h0), (1, .int us)]) hx hb dX12_endOrder_1 rfl hl (by decide) rfl (fun ls hl => ?_)
  refine pz_loop (fun n0 H locs ls => ∃ f29 : Nat → va_E, ∃ w28 : Int32, n0 = (40 - (w28.toInt)).toNat ∧ tp_T (mo_O κ Θ) κ τ ν ρ f29 ∧ tp_F τ [32] f f29 ∧ ((mo_SH (mo_R g27) (mo_R (mo_i (f29 (ρ h0 2)))) (547 + 84 * qs + 44) ((w28.toInt) - 2))) ∧ ((mo_KN (fun k => False) (mo_R g27) (mo_R (mo_i (f29 (ρ h0 2)))))) ∧ (((mo_R (mo_i (f29 (ρ h0 2)))) (1) = n1)) ∧ (((mo_R (mo_i (f29 (ρ h0 2)))) (11) = n11)) ∧ (2 ≤ w28.toInt ∧ w28.toInt ≤ 40) ∧ va_P (dC, dI) vwCl (va_pl L f29) H ∧ va_D A (va_pl L f29) ∧ va_S A s.heap H locs ∧ lv_has ls 3 [(2, .int w28), (0, .ref h0), (1, .int us)]) ?_ _ _ _ _ ⟨f, 2, rfl, hT, hR, (by rw [hf_o26, mo_i1]; exact mo_SH.rf (by have : (2 : Int32).toInt = 2 := rfl; omega)), (by rw [hf_o26, mo_i1]; exact hKN), (by rw [hf_o26, mo_i1]; have : (2 : Int32).toInt = 2 := rfl; omega), (by rw [hf_o26, mo_i1]; have : (2 : Int32).toInt = 2 := rfl; omega), (by have : (2 : Int32).toInt = 2 := rfl; omega), hP, hD, hS, lv_sub hl [0, 1, 2] rfl⟩
  intro n0 H locs ls hI ih31
  refine Exists.elim hI (fun f29 hE90 => Exists.elim hE90 (fun w28 hE91 => tn_12 hE91 (fun hn32 hT hR hJ jf33 jf34 jf35 rw28 hP hD hS hl => ?_)))
  clear hE91 hE90 hI
  refine tpk_32 hT y1 (fun g37 hf_o36 => ?_)
  have hI : mo_SH (mo_R g27) (mo_R g37) (547 + 84 * qs + 44) ((w28.toInt) - 2) := by have q9 := hJ; rw [hf_o36, mo_i1] at q9; exact q9
  rw [hf_o36, mo_i1] at jf33
  have hKN := jf33
  rw [hf_o36, mo_i1] at jf34
  rw [hf_o36, mo_i1] at jf35
  refine lv_iload_n hx hb dX12_endOrder_2 rfl (lv_at hl 0 rfl) ?_
  refine lv_iconst (v := 2) hx hb dX12_endOrder_3 (by decide) ?_
  refine lv_aload_n hx hb dX12_endOrder_4 rfl (lv_at hl 1 rfl) ?_
  refine tpk_13 hT ht_h0 (fun o38_x0 o38_x1 o38_x7 o38_x9 o38_x10 o38_x11 o38_x12 o38_x13 o38_x14 o38_x15 o38_x16 o38_x17 o38_x18 o38_x19 o38_x20 o38_x22 o38_x25 o38_x28 o38_x29 o38_x32 o38_x33 o38_x34 o38_x35 o38_x36 o38_x37 o38_x38 o38_x47 o38_x48 hf_o38 ro38_0 ro38_1 ro38_2 ro38_3 ro38_4 ro38_5 ro38_6 ro38_7 ro38_8 ro38_9 ro38_10 ro38_11 ro38_12 ro38_13 ro38_14 => ?_)
  refine tpk_pos (tp_in hG ht_h0 (by decide)) hf_o38 (fun q39 eq39 => ?_)
  refine va_get (D := (dC, dI)) (ci := 12) (v := .ref (ρ h0 2)) (C := RX12) (T := TX12) (N := 53) hx hb hts hfX12 hown hK hP q39 eq39 rfl 2 (by decide) (hts (.fieldLink RX12 7 "ColdShipsModel" "row" "[I") wa_148) (fun _ h9 => h9) rfl dX12_endOrder_5 ?_
  refine lv_iload_n hx hb dX12_endOrder_8 rfl (lv_at hl 2 rfl) ?_
  refine lv_bipush (v := 10) hx hb dX12_endOrder_9 (by decide) ?_
  refine lv_iadd hx hb dX12_endOrder_11 ?_
  refine lv_topi (fun z40 ez40 => ?_)
  have iz40 : z40.toInt = us.toInt + 10 := zi_add ez40 rfl rfl (by omega) (by omega)
  refine tpk_pos (tp_in hG y1 (by decide)) hf_o36 (fun q41 eq41 => ?_)
  refine va_iald hx hb hK hP q41 0 eq41 rfl (vp_in_iff.mpr ⟨by omega, by omega⟩) dX12_endOrder_12 ?_
  refine lv_topi (fun z42 ez42 => ?_)
  have jz42 : z42.toInt = mo_R g37 (547 + 84 * qs + 10) := mo_rd ez42 (by omega)
  have kz42 := hI.out (j := (547 + 84 * qs + 10)) (by omega) (by omega)
  refine lv_imul hx hb dX12_endOrder_13 ?_
  refine lv_topi (fun z43 ez43 => ?_)
  have iz43 : z43.toInt = 2 * z42.toInt := zi_mul ez43 rfl rfl (by omega) (by omega)
  refine lv_icmp_ge (tgt := 47) hx hb dX12_endOrder_14 (by decide) (fun c44 => ?_) (fun c44 => ?_)
  · have ic44 : w28.toInt ≥ z43.toInt := zi_ge rfl rfl c44
    refine lv_aload_n hx hb dX12_endOrder_47 rfl (lv_at hl 1 rfl) ?_
    refine va_get (D := (dC, dI)) (ci := 12) (v := .ref (ρ h0 2)) (C := RX12) (T := TX12) (N := 53) hx hb hts hfX12 hown hK hP q39 eq39 rfl 2 (by decide) (hts (.fieldLink RX12 7 "ColdShipsModel" "row" "[I") wa_148) (fun _ h9 => h9) rfl dX12_endOrder_48 ?_
    refine lv_iload_n hx hb dX12_endOrder_51 rfl (lv_at hl 2 rfl) ?_
    refine lv_bipush (v := 10) hx hb dX12_endOrder_52 (by decide) ?_
    refine lv_iadd hx hb dX12_endOrder_54 ?_
    refine lv_topi (fun z45 ez45 => ?_)
    have iz45 : z45.toInt = us.toInt + 10 := zi_add ez45 rfl rfl (by omega) (by omega)
    refine lv_dup2_11 hx hb dX12_endOrder_55 rfl rfl ?_
    refine va_iald hx hb hK hP q41 0 eq41 rfl (vp_in_iff.mpr ⟨by omega, by omega⟩) dX12_endOrder_56 ?_
    refine lv_topi (fun z46 ez46 => ?_)
    have jz46 : z46.toInt = mo_R g37 (547 + 84 * qs + 10) := mo_rd ez46 (by omega)
    have kz46 := hI.out (j := (547 + 84 * qs + 10)) (by omega) (by omega)
    refine lv_iconst (v := 1) hx hb dX12_endOrder_57 (by decide) ?_
    refine lv_isub hx hb dX12_endOrder_58 ?_
    refine lv_topi (fun z47 ez47 => ?_)
    have iz47 : z47.toInt = z46.toInt - 1 := zi_sub ez47 rfl rfl (by omega) (by omega)
    refine va_iast hx hb hK hP hD hS q41 0 eq41 rfl (vp_in_iff.mpr ⟨by omega, by omega⟩) dX12_endOrder_59 (tp_k (.inl (κ 0, 12967, .inl (upd g37 z45.toNatClampNeg z47))) hD (tp_in hG y1 (by decide)) eq41 (fun f48 H locs hP hD hS g50 k49 => ?_))
    have hT := hT.up y1 g50 k49 tp_o32
    have hR := hR.up y1 (by decide) k49
    have hU : mo_U (mo_R g37) (mo_R (upd g37 z45.toNatClampNeg z47)) (547 + 84 * qs + 10) (z47.toInt) := mo_up (by omega) (rfl : z47.toInt = _) (by omega)
    generalize (upd g37 z45.toNatClampNeg z47) = g51 at g50 hU
    have hu10 : mo_R g51 (547 + 84 * qs + 10) = z47.toInt := hU.eq (by omega)
    have hI := hI0.ords qs (by omega) (fun j j0 j1 j2 => (hU.ne j0 j1).trans (hI.out j0 (by omega))) (by omega) (fun o o0 o1 => by rw [(hU.ne (by omega) (by omega)).trans (hI.inn (j := 547 + 84 * qs + 44 + 2 * o) (by omega) (by omega) (by omega)), (hU.ne (by omega) (by omega)).trans (hI.inn (j := 547 + 84 * qs + 45 + 2 * o) (by omega) (by omega) (by omega)), show 547 + 84 * qs + 44 + 2 * o + 2 = 547 + 84 * qs + 44 + 2 * (o + 1) by omega, show 547 + 84 * qs + 45 + 2 * o + 2 = 547 + 84 * qs + 45 + 2 * (o + 1) by omega]; exact hI0.P (s := qs) (o := o + 1) (by omega) (by omega) (by omega) (by omega))
    have hKN := hKN.up hU (Or.inl (by omega))
    have pn52 : mo_R g51 (1) = n1 := (hU.ne (by omega) (by omega)).trans jf34
    have pn53 : mo_R g51 (11) = n11 := (hU.ne (by omega) (by omega)).trans jf35
    refine lv_aload_n hx hb dX12_endOrder_60 rfl (lv_at hl 1 rfl) ?_
    refine lv_iload_n hx hb dX12_endOrder_61 rfl (lv_at hl 2 rfl) ?_
    have hf_54 : f48 h0 = .inr (12, [.int o38_x0, .int o38_x1, .ref (ρ h0 2), .ref (ρ h0 3), .ref (ρ h0 4), .ref (ρ h0 5), .ref (ρ h0 6), .int o38_x7, .ref (ρ h0 8), .int o38_x9, .int o38_x10, .int o38_x11, .int o38_x12, .long o38_x13, .int o38_x14, .int o38_x15, .int o38_x16, .int o38_x17, .int o38_x18, .int o38_x19, .int o38_x20, .ref (ρ h0 21), .int o38_x22, .ref (ρ h0 23), .ref (ρ h0 24), .int o38_x25, .ref (ρ h0 26), .ref (ρ h0 27), .int o38_x28, .int o38_x29, .ref (ρ h0 30), .ref (ρ h0 31), .int o38_x32, .long o38_x33, .long o38_x34, .long o38_x35, .int o38_x36, .int o38_x37, .int o38_x38, .ref (ρ h0 39), .ref (ρ h0 40), .ref (ρ h0 41), .ref (ρ h0 42), .ref (ρ h0 43), .ref (ρ h0 44), .ref (ρ h0 45), .ref (ρ h0 46), .int o38_x47, .int o38_x48, .ref (ρ h0 49), .ref (ρ h0 50), .ref (ρ h0 51), .ref (ρ h0 52)]) := (k49 _ (tp_ne ht_h0 y1 (by decide))).trans hf_o38
    refine tpk_pos (tp_in hG ht_h0 (by decide)) hf_54 (fun q55 eq55 => ?_)
    have hFc := tp_fr hD hS hA
    refine va_callv (va_runV (As := [.int us]) (rest := []) ⟨hx, hb, hml, hown, hts⟩ (t_X12_beginOrder l dC dI _ κ Θ τ ν ρ L f48 hG hT h0 us x b qs ht_h0 (by omega) (by omega) (by omega) (by rw [g50, mo_i1]; exact hI) (by first | (simp only [g50, hf_o26, mo_i1]; omega) | (simp only [g50, hf_o26, mo_i1]; trivial) | (simp only [g50, hf_o26, mo_i1]; done) | omega)) (cwV 1 hts gX12_endOrder_X12_beginOrder rfl rfl rfl ⟨rfl, pd_X12_beginOrder⟩ ⟨Nat.le_of_ble_eq_true rfl, Nat.le_of_ble_eq_true rfl⟩) ⟨pz_blind, va_recv hK hP (ci := 12) (q0 := q55) rfl eq55, pz_pre hP hK hD hN⟩ rfl rfl hl.1 rfl (lv_room (Nat.le_of_ble_eq_true rfl)) dX12_endOrder_62 ⟨Nat.le_of_ble_eq_true rfl, Nat.le_of_ble_eq_true rfl⟩) hS (fun q _ h => hFc q h) hFc (fun f58 t H1 locs ht hvm hw57 hB hz1 hk1 hS => ?_)
    refine tn_3 hw57 (fun hT hF59 hw57p => ?_); clear hw57
    have hR := hR.then hF59 (by decide)
    have hP := hB.1; rw [ht] at hP; have hD := tp_ad f58 hD; clear hB hFc hz1 hk1; subst ht; generalize t.heap = H at hP hS ⊢
    obtain ⟨hJ, hw57pe⟩ := hw57p
    refine tpk_32 hT y1 (fun g61 hf_o60 => ?_)
    have hI : mo_RI x b (mo_R g61) := by have q9 := hJ; rw [hf_o60, mo_i1] at q9; exact q9
    rw [g50, mo_i1] at hw57pe
    rw [hf_o60, mo_i1] at hw57pe
    obtain ⟨hw57pek, hw57peq⟩ := hw57pe
    have hKN := hKN.th hw57pek (fun k q9 => False.elim q9)
    have pn62 : mo_R g61 (1) = n1 := (hw57peq.1).trans pn52
    have pn63 : mo_R g61 (11) = n11 := (hw57peq.2.1).trans pn53
    exact W.vret hx hb hr (fun t ht hW => ⟨⟨f58, rfl, ⟨hT, hR, ⟨(by rw [hf_o60, mo_i1]; exact hI), (by rw [hf_o60, mo_i1, hf_o26, mo_i1]; exact hKN), (by first | (simp only [hf_o60, hf_o26, mo_i1]; omega) | (simp only [hf_o60, hf_o26, mo_i1]; trivial) | (simp only [hf_o60, hf_o26, mo_i1]; done) | omega)⟩⟩, by rw [ht]; exact hP, va_K.moved hW.alike hK, hD⟩, hS.F ht⟩) hS.2.2 dX12_endOrder_65
  · have ic44 : w28.toInt < z43.toInt := zi_gef rfl rfl c44
    refine lv_aload_n hx hb dX12_endOrder_17 rfl (lv_at hl 1 rfl) ?_
    refine va_get (D := (dC, dI)) (ci := 12) (v := .ref (ρ h0 2)) (C := RX12) (T := TX12) (N := 53) hx hb hts hfX12 hown hK hP q39 eq39 rfl 2 (by decide) (hts (.fieldLink RX12 7 "ColdShipsModel" "row" "[I") wa_148) (fun _ h9 => h9) rfl dX12_endOrder_18 ?_
    refine lv_iload_n hx hb dX12_endOrder_21 rfl (lv_at hl 2 rfl) ?_
    refine lv_bipush (v := 44) hx hb dX12_endOrder_22 (by decide) ?_
    refine lv_iadd hx hb dX12_endOrder_24 ?_
    refine lv_topi (fun z64 ez64 => ?_)
    have iz64 : z64.toInt = us.toInt + 44 := zi_add ez64 rfl rfl (by omega) (by omega)
    refine lv_iload_n hx hb dX12_endOrder_25 rfl (lv_at hl 0 rfl) ?_
    refine lv_iadd hx hb dX12_endOrder_26 ?_
    refine lv_topi (fun z65 ez65 => ?_)
    have iz65 : z65.toInt = z64.toInt + w28.toInt := zi_add ez65 rfl rfl (by omega) (by omega)
    refine lv_iconst (v := 2) hx hb dX12_endOrder_27 (by decide) ?_
    refine lv_isub hx hb dX12_endOrder_28 ?_
    refine lv_topi (fun z66 ez66 => ?_)
    have iz66 : z66.toInt = z65.toInt - 2 := zi_sub ez66 rfl rfl (by omega) (by omega)
    refine lv_aload_n hx hb dX12_endOrder_29 rfl (lv_at hl 1 rfl) ?_
    refine va_get (D := (dC, dI)) (ci := 12) (v := .ref (ρ h0 2)) (C := RX12) (T := TX12) (N := 53) hx hb hts hfX12 hown hK hP q39 eq39 rfl 2 (by decide) (hts (.fieldLink RX12 7 "ColdShipsModel" "row" "[I") wa_148) (fun _ h9 => h9) rfl dX12_endOrder_30 ?_
    refine lv_iload_n hx hb dX12_endOrder_33 rfl (lv_at hl 2 rfl) ?_
    refine lv_bipush (v := 44) hx hb dX12_endOrder_34 (by decide) ?_
    refine lv_iadd hx hb dX12_endOrder_36 ?_
    refine lv_topi (fun z67 ez67 => ?_)
    have iz67 : z67.toInt = us.toInt + 44 := zi_add ez67 rfl rfl (by omega) (by omega)
    refine lv_iload_n hx hb dX12_endOrder_37 rfl (lv_at hl 0 rfl) ?_
    refine lv_iadd hx hb dX12_endOrder_38 ?_
    refine lv_topi (fun z68 ez68 => ?_)
    have iz68 : z68.toInt = z67.toInt + w28.toInt := zi_add ez68 rfl rfl (by omega) (by omega)
    refine va_iald hx hb hK hP q41 0 eq41 rfl (vp_in_iff.mpr ⟨by omega, by omega⟩) dX12_endOrder_39 ?_
    refine lv_topi (fun z69 ez69 => ?_)
    have jz69 : z69.toInt = mo_R g37 (547 + 84 * qs + 44 + w28.toInt) := mo_rd ez69 (by omega)
    have kz69 := hI.out (j := (547 + 84 * qs + 44 + w28.toInt)) (by omega) (by omega)
    refine va_iast hx hb hK hP hD hS q41 0 eq41 rfl (vp_in_iff.mpr ⟨by omega, by omega⟩) dX12_endOrder_40 (tp_k (.inl (κ 0, 12967, .inl (upd g37 z66.toNatClampNeg z69))) hD (tp_in hG y1 (by decide)) eq41 (fun f70 H locs hP hD hS g72 k71 => ?_))
    have hT := hT.up y1 g72 k71 tp_o32
    have hR := hR.up y1 (by decide) k71
    have hU : mo_U (mo_R g37) (mo_R (upd g37 z66.toNatClampNeg z69)) (547 + 84 * qs + 42 + w28.toInt) (z69.toInt) := mo_up (by omega) (rfl : z69.toInt = _) (by omega)
    generalize (upd g37 z66.toNatClampNeg z69) = g73 at g72 hU
    have e9 : mo_R g27 (547 + 84 * qs + 44 + (w28.toInt - 2) + 2) = z69.toInt := by rw [show 547 + 84 * qs + 44 + (w28.toInt - 2) + 2 = 547 + 84 * qs + 44 + w28.toInt by omega]; omega
    have hI := mo_SH.up hI hU (by omega) e9.symm (by omega) (w28.toInt - 1) (by omega)
    have hKN := hKN.up hU (Or.inl (by omega))
    have pn74 : mo_R g73 (1) = n1 := (hU.ne (by omega) (by omega)).trans jf34
    have pn75 : mo_R g73 (11) = n11 := (hU.ne (by omega) (by omega)).trans jf35
    obtain ⟨z76, ez76⟩ : ∃ y : Int32, y = w28 + 1 := ⟨_, rfl⟩
    refine lv_iinc (v := z76) (lv' := [(2, .int z76), (0, .ref h0), (1, .int us)]) hx hb dX12_endOrder_41 hl (k := 0) rfl (by rw [ez76]; rfl) (by decide) rfl (fun ls hl => ?_)
    have iz76 : z76.toInt = w28.toInt + 1 := zi_add ez76 rfl rfl (by omega) (by omega)
    refine lv_goto (tgt := 2) hx hb dX12_endOrder_44 (by decide) ?_
    exact ih31 _ _ _ _ (by rw [hn32]; omega) ⟨f70, z76, rfl, hT, hR, (by rw [g72, mo_i1]; exact hI.to (by omega)), (by rw [g72, mo_i1]; exact hKN), (by rw [g72, mo_i1]; omega), (by rw [g72, mo_i1]; omega), (by omega), hP, hD, hS, lv_sub hl [0, 1, 2] rfl⟩
set_option maxHeartbeats 4000000 in
set_option maxRecDepth 100000 in
theorem t_X12_take (l : Launch) (dC : Nat → ClassId) (dI : Nat → Nat → Nat) (sz : Nat) (κ : Nat → ClassId) (Θ : Nat → Option Int) (τ ν : Nat → Nat) (ρ : Nat → Nat → Nat) (L : List Nat) (f : Nat → va_E) (hG : tp_G τ ν ρ L) (hT : tp_T (mo_O κ Θ) κ τ ν ρ f) (h0 : Nat) (us : Int32) (v : Int32) (x : Int) (b : Int) (qs : Int) (ht_h0 : τ h0 = 13) (hL_us : us.toInt = 547 + 84 * qs) (hq_us : 0 ≤ qs ∧ qs ≤ 5) (hbb : 0 ≤ b ∧ b ≤ 1000) (hJ : mo_RI x b (mo_R (mo_i (f (ρ h0 2))))) (hv : 0 ≤ v.toInt ∧ v.toInt ≤ (mo_R (mo_i (f (ρ h0 2)))) (547 + 84 * qs + 4)) (hn1 : qs < (mo_R (mo_i (f (ρ h0 2)))) (1)) : Met l yX12_take wqX12_take ({ frames := 2, cells := 0, slots := 0, locals := 400 }) (va_Pc [.ref h0, .int us, .int v] (pz_B dC dI (tp_K κ) (va_pl L f) sz)) (va_Qv (fun (f1 : Nat → va_E) => tp_T (mo_O κ Θ) κ τ ν ρ f1 ∧ tp_F τ [32, 35, 36] f f1 ∧ mo_RI x b (mo_R (mo_i (f1 (ρ h0 2)))) ∧ mo_KN (fun k => False) (mo_R (mo_i (f (ρ h0 2)))) (mo_R (mo_i (f1 (ρ h0 2)))) ∧ (mo_R (mo_i (f1 (ρ h0 2)))) (1) = (mo_R (mo_i (f (ρ h0 2)))) (1) ∧ (mo_R (mo_i (f1 (ρ h0 2)))) (11) = (mo_R (mo_i (f (ρ h0 2)))) (11) ∧ (mo_R (mo_i (f1 (ρ h0 2)))) (547 + 84 * qs + 10) = (mo_R (mo_i (f (ρ h0 2)))) (547 + 84 * qs + 10) ∧ (mo_R (mo_i (f1 (ρ h0 2)))) (547 + 84 * qs + 5) = (mo_R (mo_i (f (ρ h0 2)))) (547 + 84 * qs + 5)) (fun (f1 : Nat → va_E) (t : State) => pz_E dC dI (tp_K κ) (va_A (va_pl L f) sz) (va_pl L f1) t) (va_A (va_pl L f) sz)) 0 0 (va_A (va_pl L f) sz) := by
  refine Met.ofW (cc := cX12_take) (maxL := 8) (ret := none) (by decide) rfl ?_
  intro p e s m args below meth c s₁ B hml hv
  obtain ⟨rfl, hsz, hP, hK, hD0, hN⟩ := hv
  have hx := B.exec
  have hb := B.bytes
  have hr := B.returns
  have hts := fun (w : Cond) (h : w ∈ WALL) => atoms_spec (ws := wqX12_take) B.pre w (List.mem_cons_of_mem _ h)
  have hown : s.vm.findClass RX12 = some m.cls := findClass_of_methodNamed B.named
  have hlocks := B.notSynchronized
  subst hsz
  have hD := hD0.self (sz := s.heap.size)
  generalize hAe : va_A (va_pl L f) s.heap.size = A at hD ⊢
  have hA : ∀ q : Nat, s.heap.size ≤ q → A q := fun q h => by rw [← hAe]; exact Or.inr h
  have hS : va_S A s.heap s.heap [] := va_S.rf
  have hR : tp_F τ [32, 35, 36] f f := tp_F.rf
  have hl := lv_entry ([.ref h0, .int us, .int v]) (n := 8) (Nat.le_of_ble_eq_true rfl)
  rw [lg_entry_eq]
  generalize (lg_sl ([.ref h0, .int us, .int v]) ++ List.replicate (8 - (lg_sl ([.ref h0, .int us, .int v])).length) Slot.unset).toArray = ls at hl ⊢
  have hl : lv_has ls 8 [(0, .ref h0), (1, .int us), (2, .int v)] := hl
  refine tgk_13 hG ht_h0 (fun y1 y2 y3 y4 y5 y6 y7 y8 y9 y10 y11 y12 y13 y14 y15 y16 y17 y18 y19 y20 y21 y22 y23 y24 y25 => ?_)
  refine tpk_32 hT y1 (fun g27 hf_o26 => ?_)
  have hI : mo_RI x b (mo_R g27) := by have q9 := hJ; rw [hf_o26, mo_i1] at q9; exact q9
  rw [hf_o26, mo_i1] at hv
  rw [hf_o26, mo_i1] at hn1
  obtain ⟨n1, en1⟩ : ∃ n : Int, n = mo_R g27 (1) := ⟨_, rfl⟩
  have kn1 := hI.k1
  obtain ⟨n11, en11⟩ : ∃ n : Int, n = mo_R g27 (11) := ⟨_, rfl⟩
  have kn11 := hI.k11
  obtain ⟨ns10, ens10⟩ : ∃ n : Int, n = mo_R g27 (547 + 84 * qs + 10) := ⟨_, rfl⟩
  obtain ⟨ns5, ens5⟩ : ∃ n : Int, n = mo_R g27 (547 + 84 * qs + 5) := ⟨_, rfl⟩
  have hKN : mo_KN (fun k => False) (mo_R g27) (mo_R g27) := mo_KN.rf
  refine lv_aload_n hx hb dX12_take_0 rfl (lv_at hl 0 rfl) ?_
  refine tpk_13 hT ht_h0 (fun o28_x0 o28_x1 o28_x7 o28_x9 o28_x10 o28_x11 o28_x12 o28_x13 o28_x14 o28_x15 o28_x16 o28_x17 o28_x18 o28_x19 o28_x20 o28_x22 o28_x25 o28_x28 o28_x29 o28_x32 o28_x33 o28_x34 o28_x35 o28_x36 o28_x37 o28_x38 o28_x47 o28_x48 hf_o28 ro28_0 ro28_1 ro28_2 ro28_3 ro28_4 ro28_5 ro28_6 ro28_7 ro28_8 ro28_9 ro28_10 ro28_11 ro28_12 ro28_13 ro28_14 => ?_)
  refine tpk_pos (tp_in hG ht_h0 (by decide)) hf_o28 (fun q29 eq29 => ?_)
  refine va_get (D := (dC, dI)) (ci := 12) (v := .ref (ρ h0 2)) (C := RX12) (T := TX12) (N := 53) hx hb hts hfX12 hown hK hP q29 eq29 rfl 2 (by decide) (hts (.fieldLink RX12 7 "ColdShipsModel" "row" "[I") wa_148) (fun _ h9 => h9) rfl dX12_take_1 ?_
  refine lv_iload_n hx hb dX12_take_4 rfl (lv_at hl 1 rfl) ?_
  refine lv_iconst (v := 4) hx hb dX12_take_5 (by decide) ?_
  refine lv_iadd hx hb dX12_take_6 ?_
  refine lv_topi (fun z30 ez30 => ?_)
  have iz30 : z30.toInt = us.toInt + 4 := zi_add ez30 rfl rfl (by omega) (by omega)
  refine tpk_pos (tp_in hG y1 (by decide)) hf_o26 (fun q31 eq31 => ?_)
  refine va_iald hx hb hK hP q31 0 eq31 rfl (vp_in_iff.mpr ⟨by omega, by omega⟩) dX12_take_7 ?_
  refine lv_topi (fun z32 ez32 => ?_)
  have := hI.GC (s := qs) (by omega) (by omega)
  have jz32 : z32.toInt = mo_R g27 (547 + 84 * qs + 4) := mo_rd ez32 (by omega)
  have kz32 := hI.GG (s := qs) (by omega) (by omega)
  refine lv_istore_n (lv' := [(3, .int z32), (0, .ref h0), (1, .int us), (2, .int v)]) hx hb dX12_take_8 rfl hl (by decide) rfl (fun ls hl => ?_)
  refine lv_iload_n hx hb dX12_take_9 rfl (lv_at hl 3 rfl) ?_
  refine lv_istore (lv' := [(4, .int v), (3, .int z32), (0, .ref h0), (1, .int us), (2, .int v)]) hx hb dX12_take_10 hl (by decide) rfl (fun ls hl => ?_)
  refine lv_iconst (v := 0) hx hb dX12_take_12 (by decide) ?_
  refine lv_istore (lv' := [(5, .int 0), (4, .int v), (3, .int z32), (0, .ref h0), (1, .int us), (2, .int v)]) hx hb dX12_take_13 hl (by decide) rfl (fun ls hl => ?_)
  refine pz_loop (fun n0 H locs ls => ∃ f36 : Nat → va_E, ∃ w33 : Int32, ∃ w34 : Int32, n0 = (6 - (w33.toInt)).toNat ∧ tp_T (mo_O κ Θ) κ τ ν ρ f36 ∧ tp_F τ [32, 35, 36] f f36 ∧ f36 (ρ h0 2) = .inl (κ 0, 12967, .inl g27) ∧ (0 ≤ w33.toInt ∧ w33.toInt ≤ 6) ∧ va_P (dC, dI) vwCl (va_pl L f36) H ∧ va_D A (va_pl L f36) ∧ va_S A s.heap H locs ∧ lv_has ls 8 [(5, .int w33), (4, .int w34), (3, .int z32), (0, .ref h0), (1, .int us), (2, .int v)]) ?_ _ _ _ _ ⟨f, 0, v, rfl, hT, hR, hf_o26, (by have : (0 : Int32).toInt = 0 := rfl; omega), hP, hD, hS, lv_sub hl [0, 1, 2, 3, 4, 5] rfl⟩
  intro n0 H locs ls hI ih38
  refine Exists.elim hI (fun f36 hE90 => Exists.elim hE90 (fun w33 hE91 => Exists.elim hE91 (fun w34 hE92 => tn_9 hE92 (fun hn39 hT hR hk35k rw33 hP hD hS hl => ?_))))
  clear hE92 hE91 hE90 hI
  refine lv_iload hx hb dX12_take_15 (lv_at hl 0 rfl) ?_
  refine lv_bipush (v := 6) hx hb dX12_take_17 (by decide) ?_
  refine lv_icmp_ge (tgt := 99) hx hb dX12_take_19 (by decide) (fun c40 => ?_) (fun c40 => ?_)
  · have ic40 : w33.toInt ≥ 6 := zi_ge rfl rfl c40
    refine pz_loop (fun n0 H locs ls => ∃ f44 : Nat → va_E, ∃ w41 : Int32, ∃ w42 : Int32, n0 = ((w42.toInt)).toNat ∧ tp_T (mo_O κ Θ) κ τ ν ρ f44 ∧ tp_F τ [32, 35, 36] f f44 ∧ f44 (ρ h0 2) = .inl (κ 0, 12967, .inl g27) ∧ va_P (dC, dI) vwCl (va_pl L f44) H ∧ va_D A (va_pl L f44) ∧ va_S A s.heap H locs ∧ lv_has ls 8 [(5, .int w41), (4, .int w42), (3, .int z32), (0, .ref h0), (1, .int us), (2, .int v)]) ?_ _ _ _ _ ⟨f36, w33, w34, rfl, hT, hR, hk35k, hP, hD, hS, lv_sub hl [0, 1, 2, 3, 4, 5] rfl⟩
    intro n0 H locs ls hI ih46
    refine Exists.elim hI (fun f44 hE90 => Exists.elim hE90 (fun w41 hE91 => Exists.elim hE91 (fun w42 hE92 => tn_8 hE92 (fun hn47 hT hR hk43k hP hD hS hl => ?_))))
    clear hE92 hE91 hE90 hI
    refine lv_iload hx hb dX12_take_99 (lv_at hl 1 rfl) ?_
    refine lv_if_le (tgt := 177) hx hb dX12_take_101 (by decide) (fun c48 => ?_) (fun c48 => ?_)
    · have ic48 : w42.toInt ≤ 0 := zi_le rfl rfl c48
      refine lv_iconst (v := 0) hx hb dX12_take_177 (by decide) ?_
      refine lv_istore (lv' := [(5, .int 0), (4, .int w42), (3, .int z32), (0, .ref h0), (1, .int us), (2, .int v)]) hx hb dX12_take_178 hl (by decide) rfl (fun ls hl => ?_)
      refine pz_loop (fun n0 H locs ls => ∃ f50 : Nat → va_E, ∃ w49 : Int32, n0 = (6 - (w49.toInt)).toNat ∧ tp_T (mo_O κ Θ) κ τ ν ρ f50 ∧ tp_F τ [32, 35, 36] f f50 ∧ ((mo_RI x b (mo_R (mo_i (f50 (ρ h0 2)))))) ∧ ((mo_KN (fun k => False) (mo_R g27) (mo_R (mo_i (f50 (ρ h0 2)))))) ∧ (((mo_R (mo_i (f50 (ρ h0 2)))) (1) = n1)) ∧ (((mo_R (mo_i (f50 (ρ h0 2)))) (11) = n11)) ∧ (((mo_R (mo_i (f50 (ρ h0 2)))) (547 + 84 * qs + 10) = ns10)) ∧ (((mo_R (mo_i (f50 (ρ h0 2)))) (547 + 84 * qs + 5) = ns5)) ∧ (((mo_R (mo_i (f50 (ρ h0 2)))) (547 + 84 * qs + 4) = z32.toInt)) ∧ (0 ≤ w49.toInt ∧ w49.toInt ≤ 6) ∧ va_P (dC, dI) vwCl (va_pl L f50) H ∧ va_D A (va_pl L f50) ∧ va_S A s.heap H locs ∧ lv_has ls 8 [(5, .int w49), (4, .int w42), (3, .int z32), (0, .ref h0), (1, .int us), (2, .int v)]) ?_ _ _ _ _ ⟨f44, 0, rfl, hT, hR, (by rw [hk43k, mo_i1]; exact hI), (by rw [hk43k, mo_i1]; exact hKN), (by rw [hk43k, mo_i1]; have : (0 : Int32).toInt = 0 := rfl; omega), (by rw [hk43k, mo_i1]; have : (0 : Int32).toInt = 0 := rfl; omega), (by rw [hk43k, mo_i1]; have : (0 : Int32).toInt = 0 := rfl; omega), (by rw [hk43k, mo_i1]; have : (0 : Int32).toInt = 0 := rfl; omega), (by rw [hk43k, mo_i1]; have : (0 : Int32).toInt = 0 := rfl; omega), (by have : (0 : Int32).toInt = 0 := rfl; omega), hP, hD, hS, lv_sub hl [0, 1, 2, 3, 4, 5] rfl⟩
      intro n0 H locs ls hI ih52
      refine Exists.elim hI (fun f50 hE90 => Exists.elim hE90 (fun w49 hE91 => tn_15 hE91 (fun hn53 hT hR hJ jf54 jf55 jf56 jf57 jf58 jf59 rw49 hP hD hS hl => ?_)))
      clear hE91 hE90 hI
      refine tpk_32 hT y1 (fun g61 hf_o60 => ?_)
      have hI : mo_RI x b (mo_R g61) := by have q9 := hJ; rw [hf_o60, mo_i1] at q9; exact q9
      rw [hf_o60, mo_i1] at jf54
      have hKN := jf54
      rw [hf_o60, mo_i1] at jf55
      rw [hf_o60, mo_i1] at jf56
      rw [hf_o60, mo_i1] at jf57
      rw [hf_o60, mo_i1] at jf58
      rw [hf_o60, mo_i1] at jf59
      refine lv_iload hx hb dX12_take_180 (lv_at hl 0 rfl) ?_
      refine lv_bipush (v := 6) hx hb dX12_take_182 (by decide) ?_
      refine lv_icmp_ge (tgt := 215) hx hb dX12_take_184 (by decide) (fun c62 => ?_) (fun c62 => ?_)
      · have ic62 : w49.toInt ≥ 6 := zi_ge rfl rfl c62
        refine lv_aload_n hx hb dX12_take_215 rfl (lv_at hl 3 rfl) ?_
        refine tpk_13 hT ht_h0 (fun o63_x0 o63_x1 o63_x7 o63_x9 o63_x10 o63_x11 o63_x12 o63_x13 o63_x14 o63_x15 o63_x16 o63_x17 o63_x18 o63_x19 o63_x20 o63_x22 o63_x25 o63_x28 o63_x29 o63_x32 o63_x33 o63_x34 o63_x35 o63_x36 o63_x37 o63_x38 o63_x47 o63_x48 hf_o63 ro63_0 ro63_1 ro63_2 ro63_3 ro63_4 ro63_5 ro63_6 ro63_7 ro63_8 ro63_9 ro63_10 ro63_11 ro63_12 ro63_13 ro63_14 => ?_)
        refine tpk_pos (tp_in hG ht_h0 (by decide)) hf_o63 (fun q64 eq64 => ?_)
        refine va_get (D := (dC, dI)) (ci := 12) (v := .ref (ρ h0 2)) (C := RX12) (T := TX12) (N := 53) hx hb hts hfX12 hown hK hP q64 eq64 rfl 2 (by decide) (hts (.fieldLink RX12 7 "ColdShipsModel" "row" "[I") wa_148) (fun _ h9 => h9) rfl dX12_take_216 ?_
        refine lv_iload_n hx hb dX12_take_219 rfl (lv_at hl 4 rfl) ?_
        refine lv_iconst (v := 4) hx hb dX12_take_220 (by decide) ?_
        refine lv_iadd hx hb dX12_take_221 ?_
        refine lv_topi (fun z65 ez65 => ?_)
        have iz65 : z65.toInt = us.toInt + 4 := zi_add ez65 rfl rfl (by omega) (by omega)
        refine lv_dup2_11 hx hb dX12_take_222 rfl rfl ?_
        refine tpk_pos (tp_in hG y1 (by decide)) hf_o60 (fun q66 eq66 => ?_)
        refine va_iald hx hb hK hP q66 0 eq66 rfl (vp_in_iff.mpr ⟨by omega, by omega⟩) dX12_take_223 ?_
        refine lv_topi (fun z67 ez67 => ?_)
        have := hI.GC (s := qs) (by omega) (by omega)
        have jz67 : z67.toInt = mo_R g61 (547 + 84 * qs + 4) := mo_rd ez67 (by omega)
        have kz67 := hI.GG (s := qs) (by omega) (by omega)
        have vz67 : z67.toInt = z32.toInt := jz67.trans jf59
        refine lv_iload_n hx hb dX12_take_224 rfl (lv_at hl 5 rfl) ?_
        refine lv_isub hx hb dX12_take_225 ?_
        refine lv_topi (fun z68 ez68 => ?_)
        have iz68 : z68.toInt = z67.toInt - v.toInt := zi_sub ez68 rfl rfl (by omega) (by omega)
        refine va_iast hx hb hK hP hD hS q66 0 eq66 rfl (vp_in_iff.mpr ⟨by omega, by omega⟩) dX12_take_226 (tp_k (.inl (κ 0, 12967, .inl (upd g61 z65.toNatClampNeg z68))) hD (tp_in hG y1 (by decide)) eq66 (fun f69 H locs hP hD hS g71 k70 => ?_))
        have hT := hT.up y1 g71 k70 tp_o32
        have hR := hR.up y1 (by decide) k70
        have hU : mo_U (mo_R g61) (mo_R (upd g61 z65.toNatClampNeg z68)) (547 + 84 * qs + 4) (z68.toInt) := mo_up (by omega) (rfl : z68.toInt = _) (by omega)
        generalize (upd g61 z65.toNatClampNeg z68) = g72 at g71 hU
        have hI := mo_w_GAS hI hU qs (by omega) (by omega) (by omega)
        have hKN := hKN.up hU (Or.inl (by omega))
        have pn73 : mo_R g72 (1) = n1 := (hU.ne (by omega) (by omega)).trans jf55
        have pn74 : mo_R g72 (11) = n11 := (hU.ne (by omega) (by omega)).trans jf56
        have pn75 : mo_R g72 (547 + 84 * qs + 10) = ns10 := (hU.ne (by omega) (by omega)).trans jf57
        have pn76 : mo_R g72 (547 + 84 * qs + 5) = ns5 := (hU.ne (by omega) (by omega)).trans jf58
        have pn77 : mo_R g72 (547 + 84 * qs + 4) = z68.toInt := hU.eq (by omega)
        exact W.vret hx hb hr (fun t ht hW => ⟨⟨f69, rfl, ⟨hT, hR, ⟨(by rw [g71, mo_i1]; exact hI), (by rw [g71, mo_i1, hf_o26, mo_i1]; exact hKN), (by first | (simp only [g71, hf_o26, mo_i1]; omega) | (simp only [g71, hf_o26, mo_i1]; trivial) | (simp only [g71, hf_o26, mo_i1]; done) | omega)⟩⟩, by rw [ht]; exact hP, va_K.moved hW.alike hK, hD⟩, hS.F ht⟩) hS.2.2 dX12_take_227
      · have ic62 : w49.toInt < 6 := zi_gef rfl rfl c62
        refine lv_aload_n hx hb dX12_take_187 rfl (lv_at hl 3 rfl) ?_
        refine tpk_13 hT ht_h0 (fun o78_x0 o78_x1 o78_x7 o78_x9 o78_x10 o78_x11 o78_x12 o78_x13 o78_x14 o78_x15 o78_x16 o78_x17 o78_x18 o78_x19 o78_x20 o78_x22 o78_x25 o78_x28 o78_x29 o78_x32 o78_x33 o78_x34 o78_x35 o78_x36 o78_x37 o78_x38 o78_x47 o78_x48 hf_o78 ro78_0 ro78_1 ro78_2 ro78_3 ro78_4 ro78_5 ro78_6 ro78_7 ro78_8 ro78_9 ro78_10 ro78_11 ro78_12 ro78_13 ro78_14 => ?_)
        refine tpk_pos (tp_in hG ht_h0 (by decide)) hf_o78 (fun q79 eq79 => ?_)
        refine va_get (D := (dC, dI)) (ci := 12) (v := .ref (ρ h0 2)) (C := RX12) (T := TX12) (N := 53) hx hb hts hfX12 hown hK hP q79 eq79 rfl 2 (by decide) (hts (.fieldLink RX12 7 "ColdShipsModel" "row" "[I") wa_148) (fun _ h9 => h9) rfl dX12_take_188 ?_
        refine lv_iload_n hx hb dX12_take_191 rfl (lv_at hl 4 rfl) ?_
        refine lv_bipush (v := 16) hx hb dX12_take_192 (by decide) ?_
        refine lv_iadd hx hb dX12_take_194 ?_
        refine lv_topi (fun z80 ez80 => ?_)
        have iz80 : z80.toInt = us.toInt + 16 := zi_add ez80 rfl rfl (by omega) (by omega)
        refine lv_iload hx hb dX12_take_195 (lv_at hl 0 rfl) ?_
        refine lv_iadd hx hb dX12_take_197 ?_
        refine lv_topi (fun z81 ez81 => ?_)
        have iz81 : z81.toInt = z80.toInt + w49.toInt := zi_add ez81 rfl rfl (by omega) (by omega)
        refine lv_dup2_11 hx hb dX12_take_198 rfl rfl ?_
        refine tpk_pos (tp_in hG y1 (by decide)) hf_o60 (fun q82 eq82 => ?_)
        refine va_iald hx hb hK hP q82 0 eq82 rfl (vp_in_iff.mpr ⟨by omega, by omega⟩) dX12_take_199 ?_
        refine lv_topi (fun z83 ez83 => ?_)
        refine lv_aload_n hx hb dX12_take_200 rfl (lv_at hl 3 rfl) ?_
        refine va_get (D := (dC, dI)) (ci := 12) (v := .ref (ρ h0 5)) (C := RX12) (T := TX12) (N := 53) hx hb hts hfX12 hown hK hP q79 eq79 rfl 5 (by decide) (hts (.fieldLink RX12 20 "ColdShipsModel" "moved" "[I") wa_152) (fun _ h9 => h9) rfl dX12_take_201 ?_
        refine lv_iload hx hb dX12_take_204 (lv_at hl 0 rfl) ?_
        refine tpk_35 hT y4 (fun g85 hf_o84 => ?_)
        refine tpk_pos (tp_in hG y4 (by decide)) hf_o84 (fun q86 eq86 => ?_)
        refine va_iald hx hb hK hP q86 0 eq86 rfl (vp_in_iff.mpr ⟨by omega, by omega⟩) dX12_take_206 ?_
        refine lv_topi (fun z87 ez87 => ?_)
        refine lv_isub hx hb dX12_take_207 ?_
        refine lv_topi (fun z88 ez88 => ?_)
        refine va_iast hx hb hK hP hD hS q82 0 eq82 rfl (vp_in_iff.mpr ⟨by omega, by omega⟩) dX12_take_208 (tp_k (.inl (κ 0, 12967, .inl (upd g61 z81.toNatClampNeg z88))) hD (tp_in hG y1 (by decide)) eq82 (fun f89 H locs hP hD hS g91 k90 => ?_))
        have hT := hT.up y1 g91 k90 tp_o32
        have hR := hR.up y1 (by decide) k90
        have hU : mo_U (mo_R g61) (mo_R (upd g61 z81.toNatClampNeg z88)) (547 + 84 * qs + 16 + w49.toInt) (z88.toInt) := mo_up (by omega) (rfl : z88.toInt = _) (by omega)
        generalize (upd g61 z81.toNatClampNeg z88) = g92 at g91 hU
        have hI := mo_w_sfree hI hU qs (16 + w49.toInt) (by omega) (by omega) (by omega)
        have hKN := hKN.up hU (Or.inl (by omega))
        have pn93 : mo_R g92 (1) = n1 := (hU.ne (by omega) (by omega)).trans jf55
        have pn94 : mo_R g92 (11) = n11 := (hU.ne (by omega) (by omega)).trans jf56
        have pn95 : mo_R g92 (547 + 84 * qs + 10) = ns10 := (hU.ne (by omega) (by omega)).trans jf57
        have pn96 : mo_R g92 (547 + 84 * qs + 5) = ns5 := (hU.ne (by omega) (by omega)).trans jf58
        have pn97 : mo_R g92 (547 + 84 * qs + 4) = z32.toInt := (hU.ne (by omega) (by omega)).trans jf59
        obtain ⟨z98, ez98⟩ : ∃ y : Int32, y = w49 + 1 := ⟨_, rfl⟩
        refine lv_iinc (v := z98) (lv' := [(5, .int z98), (4, .int w42), (3, .int z32), (0, .ref h0), (1, .int us), (2, .int v)]) hx hb dX12_take_209 hl (k := 0) rfl (by rw [ez98]; rfl) (by decide) rfl (fun ls hl => ?_)
        have iz98 : z98.toInt = w49.toInt + 1 := zi_add ez98 rfl rfl (by omega) (by omega)
        refine lv_goto (tgt := 180) hx hb dX12_take_212 (by decide) ?_
        exact ih52 _ _ _ _ (by rw [hn53]; omega) ⟨f89, z98, rfl, hT, hR, (by rw [g91, mo_i1]; exact hI), (by rw [g91, mo_i1]; exact hKN), (by rw [g91, mo_i1]; omega), (by rw [g91, mo_i1]; omega), (by rw [g91, mo_i1]; omega), (by rw [g91, mo_i1]; omega), (by rw [g91, mo_i1]; omega), (by omega), hP, hD, hS, lv_sub hl [0, 1, 2, 3, 4, 5] rfl⟩
    · have ic48 : w42.toInt > 0 := zi_lef rfl rfl c48
      refine lv_iconst (v := 0) hx hb dX12_take_104 (by decide) ?_
      refine lv_istore (lv' := [(5, .int 0), (4, .int w42), (3, .int z32), (0, .ref h0), (1, .int us), (2, .int v)]) hx hb dX12_take_105 hl (by decide) rfl (fun ls hl => ?_)
      refine lv_iconst (v := 1) hx hb dX12_take_107 (by decide) ?_
      refine lv_istore (lv' := [(6, .int 1), (5, .int 0), (4, .int w42), (3, .int z32), (0, .ref h0), (1, .int us), (2, .int v)]) hx hb dX12_take_108 hl (by decide) rfl (fun ls hl => ?_)
      refine pz_loop (fun n0 H locs ls => ∃ w99 : Int32, ∃ w100 : Int32, n0 = (6 - (w99.toInt)).toNat ∧ (1 ≤ w99.toInt ∧ w99.toInt ≤ 6) ∧ (0 ≤ w100.toInt ∧ w100.toInt ≤ 5) ∧ va_P (dC, dI) vwCl (va_pl L f44) H ∧ va_D A (va_pl L f44) ∧ va_S A s.heap H locs ∧ lv_has ls 8 [(6, .int w99), (5, .int w100), (4, .int w42), (3, .int z32), (0, .ref h0), (1, .int us), (2, .int v)]) ?_ _ _ _ _ ⟨1, 0, rfl, (by have : (1 : Int32).toInt = 1 := rfl; have : (0 : Int32).toInt = 0 := rfl; omega), (by have : (1 : Int32).toInt = 1 := rfl; have : (0 : Int32).toInt = 0 := rfl; omega), hP, hD, hS, lv_sub hl [0, 1, 2, 3, 4, 5, 6] rfl⟩
      intro n0 H locs ls hI ih101
      refine Exists.elim hI (fun w99 hE90 => Exists.elim hE90 (fun w100 hE91 => tn_7 hE91 (fun hn102 rw99 rw100 hP hD hS hl => ?_)))
      clear hE91 hE90 hI
      refine lv_iload hx hb dX12_take_110 (lv_at hl 0 rfl) ?_
      refine lv_bipush (v := 6) hx hb dX12_take_112 (by decide) ?_
      refine lv_icmp_ge (tgt := 150) hx hb dX12_take_114 (by decide) (fun c103 => ?_) (fun c103 => ?_)
      · have ic103 : w99.toInt ≥ 6 := zi_ge rfl rfl c103
        refine lv_aload_n hx hb dX12_take_150 rfl (lv_at hl 4 rfl) ?_
        refine tpk_13 hT ht_h0 (fun o104_x0 o104_x1 o104_x7 o104_x9 o104_x10 o104_x11 o104_x12 o104_x13 o104_x14 o104_x15 o104_x16 o104_x17 o104_x18 o104_x19 o104_x20 o104_x22 o104_x25 o104_x28 o104_x29 o104_x32 o104_x33 o104_x34 o104_x35 o104_x36 o104_x37 o104_x38 o104_x47 o104_x48 hf_o104 ro104_0 ro104_1 ro104_2 ro104_3 ro104_4 ro104_5 ro104_6 ro104_7 ro104_8 ro104_9 ro104_10 ro104_11 ro104_12 ro104_13 ro104_14 => ?_)
        refine tpk_pos (tp_in hG ht_h0 (by decide)) hf_o104 (fun q105 eq105 => ?_)
        refine va_get (D := (dC, dI)) (ci := 12) (v := .ref (ρ h0 5)) (C := RX12) (T := TX12) (N := 53) hx hb hts hfX12 hown hK hP q105 eq105 rfl 5 (by decide) (hts (.fieldLink RX12 20 "ColdShipsModel" "moved" "[I") wa_152) (fun _ h9 => h9) rfl dX12_take_151 ?_
        refine lv_iload hx hb dX12_take_154 (lv_at hl 1 rfl) ?_
        refine lv_dup2_11 hx hb dX12_take_156 rfl rfl ?_
        refine tpk_35 hT y4 (fun g107 hf_o106 => ?_)
        refine tpk_pos (tp_in hG y4 (by decide)) hf_o106 (fun q108 eq108 => ?_)
        refine va_iald hx hb hK hP q108 0 eq108 rfl (vp_in_iff.mpr ⟨by omega, by omega⟩) dX12_take_157 ?_
        refine lv_topi (fun z109 ez109 => ?_)
        refine lv_iconst (v := 1) hx hb dX12_take_158 (by decide) ?_
        refine lv_iadd hx hb dX12_take_159 ?_
        refine lv_topi (fun z110 ez110 => ?_)
        refine va_iast hx hb hK hP hD hS q108 0 eq108 rfl (vp_in_iff.mpr ⟨by omega, by omega⟩) dX12_take_160 (tp_k (.inl (κ 0, 6, .inl (upd g107 w100.toNatClampNeg z110))) hD (tp_in hG y4 (by decide)) eq108 (fun f111 H locs hP hD hS g113 k112 => ?_))
        have hT := hT.up y4 g113 k112 tp_o35
        have hR := hR.up y4 (by decide) k112
        generalize (upd g107 w100.toNatClampNeg z110) = g114 at g113
        refine lv_aload_n hx hb dX12_take_161 rfl (lv_at hl 4 rfl) ?_
        have hf_115 : f111 h0 = .inr (12, [.int o104_x0, .int o104_x1, .ref (ρ h0 2), .ref (ρ h0 3), .ref (ρ h0 4), .ref (ρ h0 5), .ref (ρ h0 6), .int o104_x7, .ref (ρ h0 8), .int o104_x9, .int o104_x10, .int o104_x11, .int o104_x12, .long o104_x13, .int o104_x14, .int o104_x15, .int o104_x16, .int o104_x17, .int o104_x18, .int o104_x19, .int o104_x20, .ref (ρ h0 21), .int o104_x22, .ref (ρ h0 23), .ref (ρ h0 24), .int o104_x25, .ref (ρ h0 26), .ref (ρ h0 27), .int o104_x28, .int o104_x29, .ref (ρ h0 30), .ref (ρ h0 31), .int o104_x32, .long o104_x33, .long o104_x34, .long o104_x35, .int o104_x36, .int o104_x37, .int o104_x38, .ref (ρ h0 39), .ref (ρ h0 40), .ref (ρ h0 41), .ref (ρ h0 42), .ref (ρ h0 43), .ref (ρ h0 44), .ref (ρ h0 45), .ref (ρ h0 46), .int o104_x47, .int o104_x48, .ref (ρ h0 49), .ref (ρ h0 50), .ref (ρ h0 51), .ref (ρ h0 52)]) := (k112 _ (tp_ne ht_h0 y4 (by decide))).trans hf_o104
        refine tpk_pos (tp_in hG ht_h0 (by decide)) hf_115 (fun q116 eq116 => ?_)
        refine va_get (D := (dC, dI)) (ci := 12) (v := .ref (ρ h0 6)) (C := RX12) (T := TX12) (N := 53) hx hb hts hfX12 hown hK hP q116 eq116 rfl 6 (by decide) (hts (.fieldLink RX12 23 "ColdShipsModel" "rests" "[J") wa_153) (fun _ h9 => h9) rfl dX12_take_162 ?_
        refine lv_iload hx hb dX12_take_165 (lv_at hl 1 rfl) ?_
        refine lv_ldc2 (own := RX12) (v := (-1)) hx hb hown (hts (.constantLong RX12 158 (-1)) wa_557) dX12_take_167 ?_
        refine tpk_36 hT y5 (fun g118 hf_o117 => ?_)
        refine tpk_pos (tp_in hG y5 (by decide)) hf_o117 (fun q119 eq119 => ?_)
        refine va_last hx hb hK hP hD hS q119 1 eq119 rfl (vp_in_iff.mpr ⟨by omega, by omega⟩) dX12_take_170 (tp_k (.inl (κ 1, 6, .inr (.inl (vp_updL g118 w100.toNatClampNeg ((-1) : Int64))))) hD (tp_in hG y5 (by decide)) eq119 (fun f120 H locs hP hD hS g122 k121 => ?_))
        have hT := hT.up y5 g122 k121 tp_o36
        have hR := hR.up y5 (by decide) k121
        generalize (vp_updL g118 w100.toNatClampNeg ((-1) : Int64)) = g123 at g122
        obtain ⟨z124, ez124⟩ : ∃ y : Int32, y = w42 + (-1) := ⟨_, rfl⟩
        refine lv_iinc (v := z124) (lv' := [(4, .int z124), (6, .int w99), (5, .int w100), (3, .int z32), (0, .ref h0), (1, .int us), (2, .int v)]) hx hb dX12_take_171 hl (k := 2) rfl (by rw [ez124]; rfl) (by decide) rfl (fun ls hl => ?_)
        have := zi_bd w42
        have iz124 : z124.toInt = w42.toInt + (-1) := zi_add ez124 rfl rfl (by omega) (by omega)
        refine lv_goto (tgt := 99) hx hb dX12_take_174 (by decide) ?_
        have hf_125 : f111 (ρ h0 2) = .inl (κ 0, 12967, .inl g27) := (k112 _ (tp_ne y1 y4 (by decide))).trans hk43k
        have hf_126 : f120 (ρ h0 2) = .inl (κ 0, 12967, .inl g27) := (k121 _ (tp_ne y1 y5 (by decide))).trans hf_125
        exact ih46 _ _ _ _ (by rw [hn47]; omega) ⟨f120, w100, z124, rfl, hT, hR, hf_126, hP, hD, hS, lv_sub hl [2, 0, 3, 4, 5, 6] rfl⟩
      · have ic103 : w99.toInt < 6 := zi_gef rfl rfl c103
        refine lv_aload_n hx hb dX12_take_117 rfl (lv_at hl 4 rfl) ?_
        refine tpk_13 hT ht_h0 (fun o127_x0 o127_x1 o127_x7 o127_x9 o127_x10 o127_x11 o127_x12 o127_x13 o127_x14 o127_x15 o127_x16 o127_x17 o127_x18 o127_x19 o127_x20 o127_x22 o127_x25 o127_x28 o127_x29 o127_x32 o127_x33 o127_x34 o127_x35 o127_x36 o127_x37 o127_x38 o127_x47 o127_x48 hf_o127 ro127_0 ro127_1 ro127_2 ro127_3 ro127_4 ro127_5 ro127_6 ro127_7 ro127_8 ro127_9 ro127_10 ro127_11 ro127_12 ro127_13 ro127_14 => ?_)
        refine tpk_pos (tp_in hG ht_h0 (by decide)) hf_o127 (fun q128 eq128 => ?_)
        refine va_get (D := (dC, dI)) (ci := 12) (v := .ref (ρ h0 6)) (C := RX12) (T := TX12) (N := 53) hx hb hts hfX12 hown hK hP q128 eq128 rfl 6 (by decide) (hts (.fieldLink RX12 23 "ColdShipsModel" "rests" "[J") wa_153) (fun _ h9 => h9) rfl dX12_take_118 ?_
        refine lv_iload hx hb dX12_take_121 (lv_at hl 0 rfl) ?_
        refine tpk_36 hT y5 (fun g130 hf_o129 => ?_)
        refine tpk_pos (tp_in hG y5 (by decide)) hf_o129 (fun q131 eq131 => ?_)
        refine va_lald hx hb hK hP q131 1 eq131 rfl (vp_in_iff.mpr ⟨by omega, by omega⟩) dX12_take_123 ?_
        refine lv_topl (fun z132 ez132 => ?_)
        refine lv_aload_n hx hb dX12_take_124 rfl (lv_at hl 4 rfl) ?_
        refine va_get (D := (dC, dI)) (ci := 12) (v := .ref (ρ h0 6)) (C := RX12) (T := TX12) (N := 53) hx hb hts hfX12 hown hK hP q128 eq128 rfl 6 (by decide) (hts (.fieldLink RX12 23 "ColdShipsModel" "rests" "[J") wa_153) (fun _ h9 => h9) rfl dX12_take_125 ?_
        refine lv_iload hx hb dX12_take_128 (lv_at hl 1 rfl) ?_
        refine va_lald hx hb hK hP q131 1 eq131 rfl (vp_in_iff.mpr ⟨by omega, by omega⟩) dX12_take_130 ?_
        refine lv_topl (fun z133 ez133 => ?_)
        refine W.lcmp hx hb dX12_take_131 ?_
        refine lv_if_le (tgt := 140) hx hb dX12_take_132 (by decide) (fun c134 => ?_) (fun c134 => ?_)
        · have ic134 : z132.toInt ≤ z133.toInt := zl_le rfl rfl c134
          refine lv_iload hx hb dX12_take_140 (lv_at hl 1 rfl) ?_
          refine lv_istore (lv' := [(5, .int w100), (6, .int w99), (4, .int w42), (3, .int z32), (0, .ref h0), (1, .int us), (2, .int v)]) hx hb dX12_take_142 hl (by decide) rfl (fun ls hl => ?_)
          obtain ⟨z135, ez135⟩ : ∃ y : Int32, y = w99 + 1 := ⟨_, rfl⟩
          refine lv_iinc (v := z135) (lv' := [(6, .int z135), (5, .int w100), (4, .int w42), (3, .int z32), (0, .ref h0), (1, .int us), (2, .int v)]) hx hb dX12_take_144 hl (k := 1) rfl (by rw [ez135]; rfl) (by decide) rfl (fun ls hl => ?_)
          have iz135 : z135.toInt = w99.toInt + 1 := zi_add ez135 rfl rfl (by omega) (by omega)
          refine lv_goto (tgt := 110) hx hb dX12_take_147 (by decide) ?_
          exact ih101 _ _ _ _ (by rw [hn102]; omega) ⟨z135, w100, rfl, (by omega), (by omega), hP, hD, hS, lv_sub hl [0, 1, 2, 3, 4, 5, 6] rfl⟩
        · have ic134 : z132.toInt > z133.toInt := zl_lef rfl rfl c134
          refine lv_iload hx hb dX12_take_135 (lv_at hl 0 rfl) ?_
          refine lv_goto (tgt := 142) hx hb dX12_take_137 (by decide) ?_
          refine lv_istore (lv' := [(5, .int w99), (6, .int w99), (4, .int w42), (3, .int z32), (0, .ref h0), (1, .int us), (2, .int v)]) hx hb dX12_take_142 hl (by decide) rfl (fun ls hl => ?_)
          obtain ⟨z136, ez136⟩ : ∃ y : Int32, y = w99 + 1 := ⟨_, rfl⟩
          refine lv_iinc (v := z136) (lv' := [(6, .int z136), (5, .int w99), (4, .int w42), (3, .int z32), (0, .ref h0), (1, .int us), (2, .int v)]) hx hb dX12_take_144 hl (k := 1) rfl (by rw [ez136]; rfl) (by decide) rfl (fun ls hl => ?_)
          have iz136 : z136.toInt = w99.toInt + 1 := zi_add ez136 rfl rfl (by omega) (by omega)
          refine lv_goto (tgt := 110) hx hb dX12_take_147 (by decide) ?_
          exact ih101 _ _ _ _ (by rw [hn102]; omega) ⟨z136, w99, rfl, (by omega), (by omega), hP, hD, hS, lv_sub hl [0, 1, 2, 3, 4, 5, 6] rfl⟩
  · have ic40 : w33.toInt < 6 := zi_gef rfl rfl c40
    refine lv_iload_n hx hb dX12_take_22 rfl (lv_at hl 5 rfl) ?_
    refine lv_i2l hx hb dX12_take_23 rfl ?_
    refine lv_aload_n hx hb dX12_take_24 rfl (lv_at hl 3 rfl) ?_
    refine tpk_13 hT ht_h0 (fun o137_x0 o137_x1 o137_x7 o137_x9 o137_x10 o137_x11 o137_x12 o137_x13 o137_x14 o137_x15 o137_x16 o137_x17 o137_x18 o137_x19 o137_x20 o137_x22 o137_x25 o137_x28 o137_x29 o137_x32 o137_x33 o137_x34 o137_x35 o137_x36 o137_x37 o137_x38 o137_x47 o137_x48 hf_o137 ro137_0 ro137_1 ro137_2 ro137_3 ro137_4 ro137_5 ro137_6 ro137_7 ro137_8 ro137_9 ro137_10 ro137_11 ro137_12 ro137_13 ro137_14 => ?_)
    refine tpk_pos (tp_in hG ht_h0 (by decide)) hf_o137 (fun q138 eq138 => ?_)
    refine va_get (D := (dC, dI)) (ci := 12) (v := .ref (ρ h0 2)) (C := RX12) (T := TX12) (N := 53) hx hb hts hfX12 hown hK hP q138 eq138 rfl 2 (by decide) (hts (.fieldLink RX12 7 "ColdShipsModel" "row" "[I") wa_148) (fun _ h9 => h9) rfl dX12_take_25 ?_
    refine lv_iload_n hx hb dX12_take_28 rfl (lv_at hl 4 rfl) ?_
    refine lv_bipush (v := 16) hx hb dX12_take_29 (by decide) ?_
    refine lv_iadd hx hb dX12_take_31 ?_
    refine lv_topi (fun z139 ez139 => ?_)
    have iz139 : z139.toInt = us.toInt + 16 := zi_add ez139 rfl rfl (by omega) (by omega)
    refine lv_iload hx hb dX12_take_32 (lv_at hl 0 rfl) ?_
    refine lv_iadd hx hb dX12_take_34 ?_
    refine lv_topi (fun z140 ez140 => ?_)
    have iz140 : z140.toInt = z139.toInt + w33.toInt := zi_add ez140 rfl rfl (by omega) (by omega)
    refine tpk_pos (tp_in hG y1 (by decide)) hk35k (fun q141 eq141 => ?_)
    refine va_iald hx hb hK hP q141 0 eq141 rfl (vp_in_iff.mpr ⟨by omega, by omega⟩) dX12_take_35 ?_
    refine lv_topi (fun z142 ez142 => ?_)
    refine lv_i2l hx hb dX12_take_36 rfl ?_
    refine lv_lmul hx hb dX12_take_37 ?_
    refine lv_topl (fun z143 ez143 => ?_)
    refine lv_lstore (lv' := [(6, .long z143), (5, .int w33), (4, .int w34), (3, .int z32), (0, .ref h0), (1, .int us), (2, .int v)]) hx hb dX12_take_38 hl (by decide) rfl (fun ls hl => ?_)
    refine lv_aload_n hx hb dX12_take_40 rfl (lv_at hl 4 rfl) ?_
    refine va_get (D := (dC, dI)) (ci := 12) (v := .ref (ρ h0 5)) (C := RX12) (T := TX12) (N := 53) hx hb hts hfX12 hown hK hP q138 eq138 rfl 5 (by decide) (hts (.fieldLink RX12 20 "ColdShipsModel" "moved" "[I") wa_152) (fun _ h9 => h9) rfl dX12_take_41 ?_
    refine lv_iload hx hb dX12_take_44 (lv_at hl 1 rfl) ?_
    refine lv_iload_n hx hb dX12_take_46 rfl (lv_at hl 3 rfl) ?_
    refine tp_join 60 (fun H locs ls stk => ∃ w144 : Int32, stk = [.int w144, .int w33, .ref (ρ h0 5)] ∧ va_P (dC, dI) vwCl (va_pl L f36) H ∧ va_D A (va_pl L f36) ∧ va_S A s.heap H locs ∧ lv_has ls 8 [(6, .long z143), (5, .int w33), (4, .int w34), (3, .int z32), (0, .ref h0), (1, .int us), (2, .int v)]) ?_ (fun hj145 => ?_)
    · intro H locs ls stk hI
      refine Exists.elim hI (fun w144 hE90 => tn_5 hE90 (fun e90 hP hD hS hl => ?_))
      clear hE90 hI; subst e90
      refine tpk_35 hT y4 (fun g147 hf_o146 => ?_)
      refine tpk_pos (tp_in hG y4 (by decide)) hf_o146 (fun q148 eq148 => ?_)
      refine va_iast hx hb hK hP hD hS q148 0 eq148 rfl (vp_in_iff.mpr ⟨by omega, by omega⟩) dX12_take_60 (tp_k (.inl (κ 0, 6, .inl (upd g147 w33.toNatClampNeg w144))) hD (tp_in hG y4 (by decide)) eq148 (fun f149 H locs hP hD hS g151 k150 => ?_))
      have hT := hT.up y4 g151 k150 tp_o35
      have hR := hR.up y4 (by decide) k150
      generalize (upd g147 w33.toNatClampNeg w144) = g152 at g151
      refine lv_aload_n hx hb dX12_take_61 rfl (lv_at hl 4 rfl) ?_
      have hf_153 : f149 h0 = .inr (12, [.int o137_x0, .int o137_x1, .ref (ρ h0 2), .ref (ρ h0 3), .ref (ρ h0 4), .ref (ρ h0 5), .ref (ρ h0 6), .int o137_x7, .ref (ρ h0 8), .int o137_x9, .int o137_x10, .int o137_x11, .int o137_x12, .long o137_x13, .int o137_x14, .int o137_x15, .int o137_x16, .int o137_x17, .int o137_x18, .int o137_x19, .int o137_x20, .ref (ρ h0 21), .int o137_x22, .ref (ρ h0 23), .ref (ρ h0 24), .int o137_x25, .ref (ρ h0 26), .ref (ρ h0 27), .int o137_x28, .int o137_x29, .ref (ρ h0 30), .ref (ρ h0 31), .int o137_x32, .long o137_x33, .long o137_x34, .long o137_x35, .int o137_x36, .int o137_x37, .int o137_x38, .ref (ρ h0 39), .ref (ρ h0 40), .ref (ρ h0 41), .ref (ρ h0 42), .ref (ρ h0 43), .ref (ρ h0 44), .ref (ρ h0 45), .ref (ρ h0 46), .int o137_x47, .int o137_x48, .ref (ρ h0 49), .ref (ρ h0 50), .ref (ρ h0 51), .ref (ρ h0 52)]) := (k150 _ (tp_ne ht_h0 y4 (by decide))).trans hf_o137
      refine tpk_pos (tp_in hG ht_h0 (by decide)) hf_153 (fun q154 eq154 => ?_)
      refine va_get (D := (dC, dI)) (ci := 12) (v := .ref (ρ h0 6)) (C := RX12) (T := TX12) (N := 53) hx hb hts hfX12 hown hK hP q154 eq154 rfl 6 (by decide) (hts (.fieldLink RX12 23 "ColdShipsModel" "rests" "[J") wa_153) (fun _ h9 => h9) rfl dX12_take_62 ?_
      refine lv_iload hx hb dX12_take_65 (lv_at hl 1 rfl) ?_
      refine lv_iload_n hx hb dX12_take_67 rfl (lv_at hl 3 rfl) ?_
      refine tp_join 80 (fun H locs ls stk => ∃ w155 : Int64, stk = [.long w155, .int w33, .ref (ρ h0 6)] ∧ va_P (dC, dI) vwCl (va_pl L f149) H ∧ va_D A (va_pl L f149) ∧ va_S A s.heap H locs ∧ lv_has ls 8 [(6, .long z143), (5, .int w33), (4, .int w34), (3, .int z32), (0, .ref h0), (1, .int us), (2, .int v)]) ?_ (fun hj156 => ?_)
      · intro H locs ls stk hI
        refine Exists.elim hI (fun w155 hE90 => tn_5 hE90 (fun e90 hP hD hS hl => ?_))
        clear hE90 hI; subst e90
        refine tpk_36 hT y5 (fun g158 hf_o157 => ?_)
        refine tpk_pos (tp_in hG y5 (by decide)) hf_o157 (fun q159 eq159 => ?_)
        refine va_last hx hb hK hP hD hS q159 1 eq159 rfl (vp_in_iff.mpr ⟨by omega, by omega⟩) dX12_take_80 (tp_k (.inl (κ 1, 6, .inr (.inl (vp_updL g158 w33.toNatClampNeg w155)))) hD (tp_in hG y5 (by decide)) eq159 (fun f160 H locs hP hD hS g162 k161 => ?_))
        have hT := hT.up y5 g162 k161 tp_o36
        have hR := hR.up y5 (by decide) k161
        generalize (vp_updL g158 w33.toNatClampNeg w155) = g163 at g162
        refine lv_iload hx hb dX12_take_81 (lv_at hl 2 rfl) ?_
        refine lv_aload_n hx hb dX12_take_83 rfl (lv_at hl 4 rfl) ?_
        have hf_164 : f160 h0 = .inr (12, [.int o137_x0, .int o137_x1, .ref (ρ h0 2), .ref (ρ h0 3), .ref (ρ h0 4), .ref (ρ h0 5), .ref (ρ h0 6), .int o137_x7, .ref (ρ h0 8), .int o137_x9, .int o137_x10, .int o137_x11, .int o137_x12, .long o137_x13, .int o137_x14, .int o137_x15, .int o137_x16, .int o137_x17, .int o137_x18, .int o137_x19, .int o137_x20, .ref (ρ h0 21), .int o137_x22, .ref (ρ h0 23), .ref (ρ h0 24), .int o137_x25, .ref (ρ h0 26), .ref (ρ h0 27), .int o137_x28, .int o137_x29, .ref (ρ h0 30), .ref (ρ h0 31), .int o137_x32, .long o137_x33, .long o137_x34, .long o137_x35, .int o137_x36, .int o137_x37, .int o137_x38, .ref (ρ h0 39), .ref (ρ h0 40), .ref (ρ h0 41), .ref (ρ h0 42), .ref (ρ h0 43), .ref (ρ h0 44), .ref (ρ h0 45), .ref (ρ h0 46), .int o137_x47, .int o137_x48, .ref (ρ h0 49), .ref (ρ h0 50), .ref (ρ h0 51), .ref (ρ h0 52)]) := (k161 _ (tp_ne ht_h0 y5 (by decide))).trans hf_153
        refine tpk_pos (tp_in hG ht_h0 (by decide)) hf_164 (fun q165 eq165 => ?_)
        refine va_get (D := (dC, dI)) (ci := 12) (v := .ref (ρ h0 5)) (C := RX12) (T := TX12) (N := 53) hx hb hts hfX12 hown hK hP q165 eq165 rfl 5 (by decide) (hts (.fieldLink RX12 20 "ColdShipsModel" "moved" "[I") wa_152) (fun _ h9 => h9) rfl dX12_take_84 ?_
        refine lv_iload hx hb dX12_take_87 (lv_at hl 1 rfl) ?_
        have hf_166 : f160 (ρ h0 5) = .inl (κ 0, 6, .inl g152) := (k161 _ (tp_ne y4 y5 (by decide))).trans g151
        refine tpk_pos (tp_in hG y4 (by decide)) hf_166 (fun q167 eq167 => ?_)
        refine va_iald hx hb hK hP q167 0 eq167 rfl (vp_in_iff.mpr ⟨by omega, by omega⟩) dX12_take_89 ?_
        refine lv_topi (fun z168 ez168 => ?_)
        refine lv_isub hx hb dX12_take_90 ?_
        refine lv_topi (fun z169 ez169 => ?_)
        refine lv_istore (lv' := [(4, .int z169), (6, .long z143), (5, .int w33), (3, .int z32), (0, .ref h0), (1, .int us), (2, .int v)]) hx hb dX12_take_91 hl (by decide) rfl (fun ls hl => ?_)
        obtain ⟨z170, ez170⟩ : ∃ y : Int32, y = w33 + 1 := ⟨_, rfl⟩
        refine lv_iinc (v := z170) (lv' := [(5, .int z170), (4, .int z169), (6, .long z143), (3, .int z32), (0, .ref h0), (1, .int us), (2, .int v)]) hx hb dX12_take_93 hl (k := 2) rfl (by rw [ez170]; rfl) (by decide) rfl (fun ls hl => ?_)
        have iz170 : z170.toInt = w33.toInt + 1 := zi_add ez170 rfl rfl (by omega) (by omega)
        refine lv_goto (tgt := 15) hx hb dX12_take_96 (by decide) ?_
        have hf_171 : f149 (ρ h0 2) = .inl (κ 0, 12967, .inl g27) := (k150 _ (tp_ne y1 y4 (by decide))).trans hk35k
        have hf_172 : f160 (ρ h0 2) = .inl (κ 0, 12967, .inl g27) := (k161 _ (tp_ne y1 y5 (by decide))).trans hf_171
        exact ih38 _ _ _ _ (by rw [hn39]; omega) ⟨f160, z170, z169, rfl, hT, hR, hf_172, (by omega), hP, hD, hS, lv_sub hl [0, 1, 3, 4, 5, 6] rfl⟩
      · refine lv_if_ne (tgt := 75) hx hb dX12_take_68 (by decide) (fun c173 => ?_) (fun c173 => ?_)
        · have ic173 : z32.toInt ≠ 0 := zi_ne rfl rfl c173
          replace ic173 : 1 ≤ z32.toInt := by omega
          refine lv_lload hx hb dX12_take_75 (lv_at hl 0 rfl) ?_
          refine lv_iload_n hx hb dX12_take_77 rfl (lv_at hl 3 rfl) ?_
          refine lv_i2l hx hb dX12_take_78 rfl ?_
          refine lv_lrem hx hb dX12_take_79 (zl_nz (by omega) (Int32.toInt_toInt64 z32)) ?_
          refine lv_topl (fun z174 ez174 => ?_)
          exact hj156 _ _ _ _ ⟨z174, rfl, hP, hD, hS, lv_sub hl [0, 1, 2, 3, 4, 5, 6] rfl⟩
        · have ic173 : z32.toInt = 0 := zi_nef rfl rfl c173
          refine lv_lconst (v := 0) hx hb dX12_take_71 (by decide) ?_
          refine lv_goto (tgt := 80) hx hb dX12_take_72 (by decide) ?_
          exact hj156 _ _ _ _ ⟨0, rfl, hP, hD, hS, lv_sub hl [0, 1, 2, 3, 4, 5, 6] rfl⟩
    · refine lv_if_ne (tgt := 54) hx hb dX12_take_47 (by decide) (fun c175 => ?_) (fun c175 => ?_)
      · have ic175 : z32.toInt ≠ 0 := zi_ne rfl rfl c175
        replace ic175 : 1 ≤ z32.toInt := by omega
        refine lv_lload hx hb dX12_take_54 (lv_at hl 0 rfl) ?_
        refine lv_iload_n hx hb dX12_take_56 rfl (lv_at hl 3 rfl) ?_
        refine lv_i2l hx hb dX12_take_57 rfl ?_
        refine lv_ldiv hx hb dX12_take_58 (zl_nz (by omega) (Int32.toInt_toInt64 z32)) ?_
        refine lv_topl (fun z176 ez176 => ?_)
        refine lv_l2i hx hb dX12_take_59 rfl ?_
        refine lv_topi (fun z177 ez177 => ?_)
        exact hj145 _ _ _ _ ⟨z177, rfl, hP, hD, hS, lv_sub hl [0, 1, 2, 3, 4, 5, 6] rfl⟩
      · have ic175 : z32.toInt = 0 := zi_nef rfl rfl c175
        refine lv_iconst (v := 0) hx hb dX12_take_50 (by decide) ?_
        refine lv_goto (tgt := 60) hx hb dX12_take_51 (by decide) ?_
        exact hj145 _ _ _ _ ⟨0, rfl, hP, hD, hS, lv_sub hl [0, 1, 2, 3, 4, 5, 6] rfl⟩
set_option maxHeartbeats 4000000 in
set_option maxRecDepth 100000 in
theorem t_X12_heelOf (l : Launch) (dC : Nat → ClassId) (dI : Nat → Nat → Nat) (sz : Nat) (κ : Nat → ClassId) (Θ : Nat → Option Int) (τ ν : Nat → Nat) (ρ : Nat → Nat → Nat) (L : List Nat) (f : Nat → va_E) (hG : tp_G τ ν ρ L) (hT : tp_T (mo_O κ Θ) κ τ ν ρ f) (h0 : Nat) (us : Int32) (x : Int) (b : Int) (qs : Int) (ht_h0 : τ h0 = 13) (hL_us : us.toInt = 547 + 84 * qs) (hq_us : 0 ≤ qs ∧ qs ≤ 5) (hbb : 0 ≤ b ∧ b ≤ 1000) (hJ : mo_RI x b (mo_R (mo_i (f (ρ h0 2))))) (hn1 : qs < (mo_R (mo_i (f (ρ h0 2)))) (1)) : Met l yX12_heelOf wqX12_heelOf ({ frames := 2, cells := 0, slots := 0, locals := 400 }) (va_Pc [.ref h0, .int us] (pz_B dC dI (tp_K κ) (va_pl L f) sz)) (vp_Si (fun r => True ∧ 0 ≤ r.toInt ∧ r.toInt ≤ 4000)) 0 0 (fun _ => False) := by
  refine Met.ofW (cc := cX12_heelOf) (maxL := 2) (ret := some .int) (by decide) rfl ?_
  intro p e s m args below meth c s₁ B hml hv
  obtain ⟨rfl, hsz, hP, hK, hD0, hN⟩ := hv
  have hx := B.exec
  have hb := B.bytes
  have hr := B.returns
  have hts := fun (w : Cond) (h : w ∈ WALL) => atoms_spec (ws := wqX12_heelOf) B.pre w (List.mem_cons_of_mem _ h)
  have hown : s.vm.findClass RX12 = some m.cls := findClass_of_methodNamed B.named
  have hlocks := B.notSynchronized
  subst hsz
  have hD := hD0
  have hS : va_S (fun _ => True) s.heap s.heap [] := va_S.rf
  have hl := lv_entry ([.ref h0, .int us]) (n := 2) (Nat.le_of_ble_eq_true rfl)
  rw [lg_entry_eq]
  generalize (lg_sl ([.ref h0, .int us]) ++ List.replicate (2 - (lg_sl ([.ref h0, .int us])).length) Slot.unset).toArray = ls at hl ⊢
  have hl : lv_has ls 2 [(0, .ref h0), (1, .int us)] := hl
  refine tgk_13 hG ht_h0 (fun y1 y2 y3 y4 y5 y6 y7 y8 y9 y10 y11 y12 y13 y14 y15 y16 y17 y18 y19 y20 y21 y22 y23 y24 y25 => ?_)
  refine tpk_32 hT y1 (fun g27 hf_o26 => ?_)
  have hI : mo_RI x b (mo_R g27) := by have q9 := hJ; rw [hf_o26, mo_i1] at q9; exact q9
  rw [hf_o26, mo_i1] at hn1
  obtain ⟨n1, en1⟩ : ∃ n : Int, n = mo_R g27 (1) := ⟨_, rfl⟩
  have kn1 := hI.k1
  obtain ⟨n11, en11⟩ : ∃ n : Int, n = mo_R g27 (11) := ⟨_, rfl⟩
  have kn11 := hI.k11
  refine lv_aload_n hx hb dX12_heelOf_0 rfl (lv_at hl 0 rfl) ?_
  refine tpk_13 hT ht_h0 (fun o28_x0 o28_x1 o28_x7 o28_x9 o28_x10 o28_x11 o28_x12 o28_x13 o28_x14 o28_x15 o28_x16 o28_x17 o28_x18 o28_x19 o28_x20 o28_x22 o28_x25 o28_x28 o28_x29 o28_x32 o28_x33 o28_x34 o28_x35 o28_x36 o28_x37 o28_x38 o28_x47 o28_x48 hf_o28 ro28_0 ro28_1 ro28_2 ro28_3 ro28_4 ro28_5 ro28_6 ro28_7 ro28_8 ro28_9 ro28_10 ro28_11 ro28_12 ro28_13 ro28_14 => ?_)
  refine tpk_pos (tp_in hG ht_h0 (by decide)) hf_o28 (fun q29 eq29 => ?_)
  refine va_get (D := (dC, dI)) (ci := 12) (v := .ref (ρ h0 2)) (C := RX12) (T := TX12) (N := 53) hx hb hts hfX12 hown hK hP q29 eq29 rfl 2 (by decide) (hts (.fieldLink RX12 7 "ColdShipsModel" "row" "[I") wa_148) (fun _ h9 => h9) rfl dX12_heelOf_1 ?_
  refine lv_iload_n hx hb dX12_heelOf_4 rfl (lv_at hl 1 rfl) ?_
  refine lv_bipush (v := 7) hx hb dX12_heelOf_5 (by decide) ?_
  refine lv_iadd hx hb dX12_heelOf_7 ?_
  refine lv_topi (fun z30 ez30 => ?_)
  have iz30 : z30.toInt = us.toInt + 7 := zi_add ez30 rfl rfl (by omega) (by omega)
  refine tpk_pos (tp_in hG y1 (by decide)) hf_o26 (fun q31 eq31 => ?_)
  refine va_iald hx hb hK hP q31 0 eq31 rfl (vp_in_iff.mpr ⟨by omega, by omega⟩) dX12_heelOf_8 ?_
  refine lv_topi (fun z32 ez32 => ?_)
  have jz32 : z32.toInt = mo_R g27 (547 + 84 * qs + 7) := mo_rd ez32 (by omega)
  have kz32 := hI.GC (s := qs) (by omega) (by omega)
  refine lv_iconst (v := 2) hx hb dX12_heelOf_9 (by decide) ?_
  refine lv_imul hx hb dX12_heelOf_10 ?_
  refine lv_topi (fun z33 ez33 => ?_)
  have iz33 : z33.toInt = z32.toInt * 2 := zi_mul ez33 rfl rfl (by omega) (by omega)
  refine lv_bipush (v := 100) hx hb dX12_heelOf_11 (by decide) ?_
  refine lv_idiv hx hb dX12_heelOf_13 (by decide) ?_
  refine lv_topi (fun z34 ez34 => ?_)
  have iz34 : z34.toInt = z33.toInt / 100 := zi_div ez34 rfl (show (100 : Int32).toInt = 100 from rfl) (by omega) (by omega)
  exact W.iret (v := z34) hx hb hr (fun t ht hW => ⟨z34, rfl, ⟨trivial, (by first | (simp only [hf_o26, mo_i1]; omega) | (simp only [hf_o26, mo_i1]; trivial) | (simp only [hf_o26, mo_i1]; done) | omega)⟩, ht⟩) (fun _ h => by cases h) dX12_heelOf_14
set_option maxHeartbeats 4000000 in
set_option maxRecDepth 100000 in
theorem t_X12_topOf (l : Launch) (dC : Nat → ClassId) (dI : Nat → Nat → Nat) (sz : Nat) (κ : Nat → ClassId) (Θ : Nat → Option Int) (τ ν : Nat → Nat) (ρ : Nat → Nat → Nat) (L : List Nat) (f : Nat → va_E) (hG : tp_G τ ν ρ L) (hT : tp_T (mo_O κ Θ) κ τ ν ρ f) (h0 : Nat) (us : Int32) (x : Int) (b : Int) (qs : Int) (ht_h0 : τ h0 = 13) (hL_us : us.toInt = 547 + 84 * qs) (hq_us : 0 ≤ qs ∧ qs ≤ 5) (hbb : 0 ≤ b ∧ b ≤ 1000) (hJ : mo_RI x b (mo_R (mo_i (f (ρ h0 2))))) (hn1 : qs < (mo_R (mo_i (f (ρ h0 2)))) (1)) : Met l yX12_topOf wqX12_topOf ({ frames := 2, cells := 0, slots := 0, locals := 400 }) (va_Pc [.ref h0, .int us] (pz_B dC dI (tp_K κ) (va_pl L f) sz)) (vp_Si (fun r => True ∧ 0 ≤ r.toInt ∧ r.toInt ≤ (mo_R (mo_i (f (ρ h0 2)))) (547 + 84 * qs + 7) ∧ r.toInt ≤ 200000)) 0 0 (fun _ => False) := by
  refine Met.ofW (cc := cX12_topOf) (maxL := 2) (ret := some .int) (by decide) rfl ?_
  intro p e s m args below meth c s₁ B hml hv
  obtain ⟨rfl, hsz, hP, hK, hD0, hN⟩ := hv
  have hx := B.exec
  have hb := B.bytes
  have hr := B.returns
  have hts := fun (w : Cond) (h : w ∈ WALL) => atoms_spec (ws := wqX12_topOf) B.pre w (List.mem_cons_of_mem _ h)
  have hown : s.vm.findClass RX12 = some m.cls := findClass_of_methodNamed B.named
  have hlocks := B.notSynchronized
  subst hsz
  have hD := hD0
  have hS : va_S (fun _ => True) s.heap s.heap [] := va_S.rf
  have hl := lv_entry ([.ref h0, .int us]) (n := 2) (Nat.le_of_ble_eq_true rfl)
  rw [lg_entry_eq]
  generalize (lg_sl ([.ref h0, .int us]) ++ List.replicate (2 - (lg_sl ([.ref h0, .int us])).length) Slot.unset).toArray = ls at hl ⊢
  have hl : lv_has ls 2 [(0, .ref h0), (1, .int us)] := hl
  refine tgk_13 hG ht_h0 (fun y1 y2 y3 y4 y5 y6 y7 y8 y9 y10 y11 y12 y13 y14 y15 y16 y17 y18 y19 y20 y21 y22 y23 y24 y25 => ?_)
  refine tpk_32 hT y1 (fun g27 hf_o26 => ?_)
  have hI : mo_RI x b (mo_R g27) := by have q9 := hJ; rw [hf_o26, mo_i1] at q9; exact q9
  rw [hf_o26, mo_i1] at hn1
  obtain ⟨n1, en1⟩ : ∃ n : Int, n = mo_R g27 (1) := ⟨_, rfl⟩
  have kn1 := hI.k1
  obtain ⟨n11, en11⟩ : ∃ n : Int, n = mo_R g27 (11) := ⟨_, rfl⟩
  have kn11 := hI.k11
  refine lv_aload_n hx hb dX12_topOf_0 rfl (lv_at hl 0 rfl) ?_
  refine tpk_13 hT ht_h0 (fun o28_x0 o28_x1 o28_x7 o28_x9 o28_x10 o28_x11 o28_x12 o28_x13 o28_x14 o28_x15 o28_x16 o28_x17 o28_x18 o28_x19 o28_x20 o28_x22 o28_x25 o28_x28 o28_x29 o28_x32 o28_x33 o28_x34 o28_x35 o28_x36 o28_x37 o28_x38 o28_x47 o28_x48 hf_o28 ro28_0 ro28_1 ro28_2 ro28_3 ro28_4 ro28_5 ro28_6 ro28_7 ro28_8 ro28_9 ro28_10 ro28_11 ro28_12 ro28_13 ro28_14 => ?_)
  refine tpk_pos (tp_in hG ht_h0 (by decide)) hf_o28 (fun q29 eq29 => ?_)
  refine va_get (D := (dC, dI)) (ci := 12) (v := .ref (ρ h0 2)) (C := RX12) (T := TX12) (N := 53) hx hb hts hfX12 hown hK hP q29 eq29 rfl 2 (by decide) (hts (.fieldLink RX12 7 "ColdShipsModel" "row" "[I") wa_148) (fun _ h9 => h9) rfl dX12_topOf_1 ?_
  refine lv_iload_n hx hb dX12_topOf_4 rfl (lv_at hl 1 rfl) ?_
  refine lv_bipush (v := 7) hx hb dX12_topOf_5 (by decide) ?_
  refine lv_iadd hx hb dX12_topOf_7 ?_
  refine lv_topi (fun z30 ez30 => ?_)
  have iz30 : z30.toInt = us.toInt + 7 := zi_add ez30 rfl rfl (by omega) (by omega)
  refine tpk_pos (tp_in hG y1 (by decide)) hf_o26 (fun q31 eq31 => ?_)
  refine va_iald hx hb hK hP q31 0 eq31 rfl (vp_in_iff.mpr ⟨by omega, by omega⟩) dX12_topOf_8 ?_
  refine lv_topi (fun z32 ez32 => ?_)
  have jz32 : z32.toInt = mo_R g27 (547 + 84 * qs + 7) := mo_rd ez32 (by omega)
  have kz32 := hI.GC (s := qs) (by omega) (by omega)
  refine lv_i2l hx hb dX12_topOf_9 rfl ?_
  refine lv_ldc2 (own := RX12) (v := 98) hx hb hown (hts (.constantLong RX12 160 (98)) wa_606) dX12_topOf_10 ?_
  refine lv_lmul hx hb dX12_topOf_13 ?_
  refine lv_topl (fun z33 ez33 => ?_)
  have iz33 : z33.toInt = z32.toInt * 98 := zl_mul ez33 (Int32.toInt_toInt64 z32) rfl (by omega) (by omega)
  refine lv_ldc2 (own := RX12) (v := 100) hx hb hown (hts (.constantLong RX12 150 (100)) wa_375) dX12_topOf_14 ?_
  refine lv_ldiv hx hb dX12_topOf_17 (by decide) ?_
  refine lv_topl (fun z34 ez34 => ?_)
  have iz34 : z34.toInt = z33.toInt / 100 := zl_div ez34 (rfl : z33.toInt = _) (show (100 : Int64).toInt = 100 from rfl) (by omega) (by decide)
  refine lv_l2i hx hb dX12_topOf_18 rfl ?_
  refine lv_topi (fun z35 ez35 => ?_)
  have iz35 : z35.toInt = z34.toInt := zi_l2i ez35 (rfl : z34.toInt = _) (by omega) (by omega)
  exact W.iret (v := z35) hx hb hr (fun t ht hW => ⟨z35, rfl, ⟨trivial, (by first | (simp only [hf_o26, mo_i1]; omega) | (simp only [hf_o26, mo_i1]; trivial) | (simp only [hf_o26, mo_i1]; done) | omega)⟩, ht⟩) (fun _ h => by cases h) dX12_topOf_19
set_option maxHeartbeats 4000000 in
set_option maxRecDepth 100000 in
theorem t_X12_draftOf (l : Launch) (dC : Nat → ClassId) (dI : Nat → Nat → Nat) (sz : Nat) (κ : Nat → ClassId) (Θ : Nat → Option Int) (τ ν : Nat → Nat) (ρ : Nat → Nat → Nat) (L : List Nat) (f : Nat → va_E) (hG : tp_G τ ν ρ L) (hT : tp_T (mo_O κ Θ) κ τ ν ρ f) (h0 : Nat) (us : Int32) (x : Int) (b : Int) (qs : Int) (ht_h0 : τ h0 = 13) (hL_us : us.toInt = 547 + 84 * qs) (hq_us : 0 ≤ qs ∧ qs ≤ 5) (hbb : 0 ≤ b ∧ b ≤ 1000) (hJ : mo_RI x b (mo_R (mo_i (f (ρ h0 2))))) (hn1 : qs < (mo_R (mo_i (f (ρ h0 2)))) (1)) : Met l yX12_draftOf wqX12_draftOf ({ frames := 2, cells := 0, slots := 0, locals := 400 }) (va_Pc [.ref h0, .int us] (pz_B dC dI (tp_K κ) (va_pl L f) sz)) (vp_Si (fun r => True ∧ True)) 0 0 (fun _ => False) := by
  refine Met.ofW (cc := cX12_draftOf) (maxL := 2) (ret := some .int) (by decide) rfl ?_
  intro p e s m args below meth c s₁ B hml hv
  obtain ⟨rfl, hsz, hP, hK, hD0, hN⟩ := hv
  have hx := B.exec
  have hb := B.bytes
  have hr := B.returns
  have hts := fun (w : Cond) (h : w ∈ WALL) => atoms_spec (ws := wqX12_draftOf) B.pre w (List.mem_cons_of_mem _ h)
  have hown : s.vm.findClass RX12 = some m.cls := findClass_of_methodNamed B.named
  have hlocks := B.notSynchronized
  subst hsz
  have hD := hD0
  have hS : va_S (fun _ => True) s.heap s.heap [] := va_S.rf
  have hl := lv_entry ([.ref h0, .int us]) (n := 2) (Nat.le_of_ble_eq_true rfl)
  rw [lg_entry_eq]
  generalize (lg_sl ([.ref h0, .int us]) ++ List.replicate (2 - (lg_sl ([.ref h0, .int us])).length) Slot.unset).toArray = ls at hl ⊢
  have hl : lv_has ls 2 [(0, .ref h0), (1, .int us)] := hl
  refine tgk_13 hG ht_h0 (fun y1 y2 y3 y4 y5 y6 y7 y8 y9 y10 y11 y12 y13 y14 y15 y16 y17 y18 y19 y20 y21 y22 y23 y24 y25 => ?_)
  refine tpk_32 hT y1 (fun g27 hf_o26 => ?_)
  have hI : mo_RI x b (mo_R g27) := by have q9 := hJ; rw [hf_o26, mo_i1] at q9; exact q9
  rw [hf_o26, mo_i1] at hn1
  obtain ⟨n1, en1⟩ : ∃ n : Int, n = mo_R g27 (1) := ⟨_, rfl⟩
  have kn1 := hI.k1
  obtain ⟨n11, en11⟩ : ∃ n : Int, n = mo_R g27 (11) := ⟨_, rfl⟩
  have kn11 := hI.k11
  refine lv_bipush (v := 8) hx hb dX12_draftOf_0 (by decide) ?_
  refine lv_ldc2 (own := RX12) (v := 8) hx hb hown (hts (.constantLong RX12 162 (8)) wa_594) dX12_draftOf_2 ?_
  refine lv_aload_n hx hb dX12_draftOf_5 rfl (lv_at hl 0 rfl) ?_
  refine tpk_13 hT ht_h0 (fun o28_x0 o28_x1 o28_x7 o28_x9 o28_x10 o28_x11 o28_x12 o28_x13 o28_x14 o28_x15 o28_x16 o28_x17 o28_x18 o28_x19 o28_x20 o28_x22 o28_x25 o28_x28 o28_x29 o28_x32 o28_x33 o28_x34 o28_x35 o28_x36 o28_x37 o28_x38 o28_x47 o28_x48 hf_o28 ro28_0 ro28_1 ro28_2 ro28_3 ro28_4 ro28_5 ro28_6 ro28_7 ro28_8 ro28_9 ro28_10 ro28_11 ro28_12 ro28_13 ro28_14 => ?_)
  refine tpk_pos (tp_in hG ht_h0 (by decide)) hf_o28 (fun q29 eq29 => ?_)
  refine va_get (D := (dC, dI)) (ci := 12) (v := .ref (ρ h0 2)) (C := RX12) (T := TX12) (N := 53) hx hb hts hfX12 hown hK hP q29 eq29 rfl 2 (by decide) (hts (.fieldLink RX12 7 "ColdShipsModel" "row" "[I") wa_148) (fun _ h9 => h9) rfl dX12_draftOf_6 ?_
  refine lv_iload_n hx hb dX12_draftOf_9 rfl (lv_at hl 1 rfl) ?_
  refine lv_iconst (v := 4) hx hb dX12_draftOf_10 (by decide) ?_
  refine lv_iadd hx hb dX12_draftOf_11 ?_
  refine lv_topi (fun z30 ez30 => ?_)
  have iz30 : z30.toInt = us.toInt + 4 := zi_add ez30 rfl rfl (by omega) (by omega)
  refine tpk_pos (tp_in hG y1 (by decide)) hf_o26 (fun q31 eq31 => ?_)
  refine va_iald hx hb hK hP q31 0 eq31 rfl (vp_in_iff.mpr ⟨by omega, by omega⟩) dX12_draftOf_12 ?_
  refine lv_topi (fun z32 ez32 => ?_)
  have := hI.GC (s := qs) (by omega) (by omega)
  have jz32 : z32.toInt = mo_R g27 (547 + 84 * qs + 4) := mo_rd ez32 (by omega)
  have kz32 := hI.GG (s := qs) (by omega) (by omega)
  refine lv_i2l hx hb dX12_draftOf_13 rfl ?_
  refine lv_lmul hx hb dX12_draftOf_14 ?_
  refine lv_topl (fun z33 ez33 => ?_)
  have iz33 : z33.toInt = 8 * z32.toInt := zl_mul ez33 rfl (Int32.toInt_toInt64 z32) (by omega) (by omega)
  refine lv_aload_n hx hb dX12_draftOf_15 rfl (lv_at hl 0 rfl) ?_
  refine va_get (D := (dC, dI)) (ci := 12) (v := .ref (ρ h0 2)) (C := RX12) (T := TX12) (N := 53) hx hb hts hfX12 hown hK hP q29 eq29 rfl 2 (by decide) (hts (.fieldLink RX12 7 "ColdShipsModel" "row" "[I") wa_148) (fun _ h9 => h9) rfl dX12_draftOf_16 ?_
  refine lv_iload_n hx hb dX12_draftOf_19 rfl (lv_at hl 1 rfl) ?_
  refine lv_bipush (v := 7) hx hb dX12_draftOf_20 (by decide) ?_
  refine lv_iadd hx hb dX12_draftOf_22 ?_
  refine lv_topi (fun z34 ez34 => ?_)
  have iz34 : z34.toInt = us.toInt + 7 := zi_add ez34 rfl rfl (by omega) (by omega)
  refine va_iald hx hb hK hP q31 0 eq31 rfl (vp_in_iff.mpr ⟨by omega, by omega⟩) dX12_draftOf_23 ?_
  refine lv_topi (fun z35 ez35 => ?_)
  have jz35 : z35.toInt = mo_R g27 (547 + 84 * qs + 7) := mo_rd ez35 (by omega)
  have kz35 := hI.GC (s := qs) (by omega) (by omega)
  refine lv_i2l hx hb dX12_draftOf_24 rfl ?_
  refine lv_ldiv hx hb dX12_draftOf_25 (zl_nz (by omega) (Int32.toInt_toInt64 z35)) ?_
  refine lv_topl (fun z36 ez36 => ?_)
  refine lv_l2i hx hb dX12_draftOf_26 rfl ?_
  refine lv_topi (fun z37 ez37 => ?_)
  refine lv_iadd hx hb dX12_draftOf_27 ?_
  refine lv_topi (fun z38 ez38 => ?_)
  exact W.iret (v := z38) hx hb hr (fun t ht hW => ⟨z38, rfl, ⟨trivial, trivial⟩, ht⟩) (fun _ h => by cases h) dX12_draftOf_28
set_option maxHeartbeats 4000000 in
set_option maxRecDepth 100000 in
theorem t_X12_roomOf (l : Launch) (dC : Nat → ClassId) (dI : Nat → Nat → Nat) (sz : Nat) (κ : Nat → ClassId) (Θ : Nat → Option Int) (τ ν : Nat → Nat) (ρ : Nat → Nat → Nat) (L : List Nat) (f : Nat → va_E) (hG : tp_G τ ν ρ L) (hT : tp_T (mo_O κ Θ) κ τ ν ρ f) (h0 : Nat) (us : Int32) (x : Int) (b : Int) (qs : Int) (ht_h0 : τ h0 = 13) (hL_us : us.toInt = 547 + 84 * qs) (hq_us : 0 ≤ qs ∧ qs ≤ 5) (hbb : 0 ≤ b ∧ b ≤ 1000) (hJ : mo_RI x b (mo_R (mo_i (f (ρ h0 2))))) (hn1 : qs < (mo_R (mo_i (f (ρ h0 2)))) (1)) : Met l yX12_roomOf wqX12_roomOf ({ frames := 2, cells := 0, slots := 0, locals := 400 }) (va_Pc [.ref h0, .int us] (pz_B dC dI (tp_K κ) (va_pl L f) sz)) (vp_Si (fun r => True ∧ 10 ≤ r.toInt ∧ r.toInt ≤ 202000)) 0 0 (fun _ => False) := by
  refine Met.ofW (cc := cX12_roomOf) (maxL := 2) (ret := some .int) (by decide) rfl ?_
  intro p e s m args below meth c s₁ B hml hv
  obtain ⟨rfl, hsz, hP, hK, hD0, hN⟩ := hv
  have hx := B.exec
  have hb := B.bytes
  have hr := B.returns
  have hts := fun (w : Cond) (h : w ∈ WALL) => atoms_spec (ws := wqX12_roomOf) B.pre w (List.mem_cons_of_mem _ h)
  have hown : s.vm.findClass RX12 = some m.cls := findClass_of_methodNamed B.named
  have hlocks := B.notSynchronized
  subst hsz
  have hD := hD0
  have hS : va_S (fun _ => True) s.heap s.heap [] := va_S.rf
  have hl := lv_entry ([.ref h0, .int us]) (n := 2) (Nat.le_of_ble_eq_true rfl)
  rw [lg_entry_eq]
  generalize (lg_sl ([.ref h0, .int us]) ++ List.replicate (2 - (lg_sl ([.ref h0, .int us])).length) Slot.unset).toArray = ls at hl ⊢
  have hl : lv_has ls 2 [(0, .ref h0), (1, .int us)] := hl
  refine tgk_13 hG ht_h0 (fun y1 y2 y3 y4 y5 y6 y7 y8 y9 y10 y11 y12 y13 y14 y15 y16 y17 y18 y19 y20 y21 y22 y23 y24 y25 => ?_)
  refine tpk_32 hT y1 (fun g27 hf_o26 => ?_)
  have hI : mo_RI x b (mo_R g27) := by have q9 := hJ; rw [hf_o26, mo_i1] at q9; exact q9
  rw [hf_o26, mo_i1] at hn1
  obtain ⟨n1, en1⟩ : ∃ n : Int, n = mo_R g27 (1) := ⟨_, rfl⟩
  have kn1 := hI.k1
  obtain ⟨n11, en11⟩ : ∃ n : Int, n = mo_R g27 (11) := ⟨_, rfl⟩
  have kn11 := hI.k11
  refine lv_aload_n hx hb dX12_roomOf_0 rfl (lv_at hl 0 rfl) ?_
  refine tpk_13 hT ht_h0 (fun o28_x0 o28_x1 o28_x7 o28_x9 o28_x10 o28_x11 o28_x12 o28_x13 o28_x14 o28_x15 o28_x16 o28_x17 o28_x18 o28_x19 o28_x20 o28_x22 o28_x25 o28_x28 o28_x29 o28_x32 o28_x33 o28_x34 o28_x35 o28_x36 o28_x37 o28_x38 o28_x47 o28_x48 hf_o28 ro28_0 ro28_1 ro28_2 ro28_3 ro28_4 ro28_5 ro28_6 ro28_7 ro28_8 ro28_9 ro28_10 ro28_11 ro28_12 ro28_13 ro28_14 => ?_)
  refine tpk_pos (tp_in hG ht_h0 (by decide)) hf_o28 (fun q29 eq29 => ?_)
  refine va_get (D := (dC, dI)) (ci := 12) (v := .ref (ρ h0 2)) (C := RX12) (T := TX12) (N := 53) hx hb hts hfX12 hown hK hP q29 eq29 rfl 2 (by decide) (hts (.fieldLink RX12 7 "ColdShipsModel" "row" "[I") wa_148) (fun _ h9 => h9) rfl dX12_roomOf_1 ?_
  refine lv_iload_n hx hb dX12_roomOf_4 rfl (lv_at hl 1 rfl) ?_
  refine lv_bipush (v := 7) hx hb dX12_roomOf_5 (by decide) ?_
  refine lv_iadd hx hb dX12_roomOf_7 ?_
  refine lv_topi (fun z30 ez30 => ?_)
  have iz30 : z30.toInt = us.toInt + 7 := zi_add ez30 rfl rfl (by omega) (by omega)
  refine tpk_pos (tp_in hG y1 (by decide)) hf_o26 (fun q31 eq31 => ?_)
  refine va_iald hx hb hK hP q31 0 eq31 rfl (vp_in_iff.mpr ⟨by omega, by omega⟩) dX12_roomOf_8 ?_
  refine lv_topi (fun z32 ez32 => ?_)
  have jz32 : z32.toInt = mo_R g27 (547 + 84 * qs + 7) := mo_rd ez32 (by omega)
  have kz32 := hI.GC (s := qs) (by omega) (by omega)
  refine lv_aload_n hx hb dX12_roomOf_9 rfl (lv_at hl 0 rfl) ?_
  refine va_get (D := (dC, dI)) (ci := 12) (v := .ref (ρ h0 2)) (C := RX12) (T := TX12) (N := 53) hx hb hts hfX12 hown hK hP q29 eq29 rfl 2 (by decide) (hts (.fieldLink RX12 7 "ColdShipsModel" "row" "[I") wa_148) (fun _ h9 => h9) rfl dX12_roomOf_10 ?_
  refine lv_iload_n hx hb dX12_roomOf_13 rfl (lv_at hl 1 rfl) ?_
  refine lv_iconst (v := 4) hx hb dX12_roomOf_14 (by decide) ?_
  refine lv_iadd hx hb dX12_roomOf_15 ?_
  refine lv_topi (fun z33 ez33 => ?_)
  have iz33 : z33.toInt = us.toInt + 4 := zi_add ez33 rfl rfl (by omega) (by omega)
  refine va_iald hx hb hK hP q31 0 eq31 rfl (vp_in_iff.mpr ⟨by omega, by omega⟩) dX12_roomOf_16 ?_
  refine lv_topi (fun z34 ez34 => ?_)
  have := hI.GC (s := qs) (by omega) (by omega)
  have jz34 : z34.toInt = mo_R g27 (547 + 84 * qs + 4) := mo_rd ez34 (by omega)
  have kz34 := hI.GG (s := qs) (by omega) (by omega)
  refine lv_isub hx hb dX12_roomOf_17 ?_
  refine lv_topi (fun z35 ez35 => ?_)
  have iz35 : z35.toInt = z32.toInt - z34.toInt := zi_sub ez35 rfl rfl (by omega) (by omega)
  refine lv_aload_n hx hb dX12_roomOf_18 rfl (lv_at hl 0 rfl) ?_
  refine va_get (D := (dC, dI)) (ci := 12) (v := .ref (ρ h0 2)) (C := RX12) (T := TX12) (N := 53) hx hb hts hfX12 hown hK hP q29 eq29 rfl 2 (by decide) (hts (.fieldLink RX12 7 "ColdShipsModel" "row" "[I") wa_148) (fun _ h9 => h9) rfl dX12_roomOf_19 ?_
  refine lv_iload_n hx hb dX12_roomOf_22 rfl (lv_at hl 1 rfl) ?_
  refine lv_bipush (v := 7) hx hb dX12_roomOf_23 (by decide) ?_
  refine lv_iadd hx hb dX12_roomOf_25 ?_
  refine lv_topi (fun z36 ez36 => ?_)
  have iz36 : z36.toInt = us.toInt + 7 := zi_add ez36 rfl rfl (by omega) (by omega)
  refine va_iald hx hb hK hP q31 0 eq31 rfl (vp_in_iff.mpr ⟨by omega, by omega⟩) dX12_roomOf_26 ?_
  refine lv_topi (fun z37 ez37 => ?_)
  have jz37 : z37.toInt = mo_R g27 (547 + 84 * qs + 7) := mo_rd ez37 (by omega)
  have kz37 := hI.GC (s := qs) (by omega) (by omega)
  have vz37 : z37.toInt = z32.toInt := jz37.trans (jz32).symm
  refine lv_bipush (v := 100) hx hb dX12_roomOf_27 (by decide) ?_
  refine lv_idiv hx hb dX12_roomOf_29 (by decide) ?_
  refine lv_topi (fun z38 ez38 => ?_)
  have iz38 : z38.toInt = z37.toInt / 100 := zi_div ez38 rfl (show (100 : Int32).toInt = 100 from rfl) (by omega) (by omega)
  refine lv_iadd hx hb dX12_roomOf_30 ?_
  refine lv_topi (fun z39 ez39 => ?_)
  have iz39 : z39.toInt = z35.toInt + z38.toInt := zi_add ez39 rfl rfl (by omega) (by omega)
  exact W.iret (v := z39) hx hb hr (fun t ht hW => ⟨z39, rfl, ⟨trivial, (by first | (simp only [hf_o26, mo_i1]; omega) | (simp only [hf_o26, mo_i1]; trivial) | (simp only [hf_o26, mo_i1]; done) | omega)⟩, ht⟩) (fun _ h => by cases h) dX12_roomOf_31
set_option maxHeartbeats 4000000 in
set_option maxRecDepth 100000 in
theorem t_X12_pressOf (l : Launch) (dC : Nat → ClassId) (dI : Nat → Nat → Nat) (sz : Nat) (κ : Nat → ClassId) (Θ : Nat → Option Int) (τ ν : Nat → Nat) (ρ : Nat → Nat → Nat) (L : List Nat) (f : Nat → va_E) (hG : tp_G τ ν ρ L) (hT : tp_T (mo_O κ Θ) κ τ ν ρ f) (h0 : Nat) (us : Int32) (x : Int) (b : Int) (qs : Int) (ht_h0 : τ h0 = 13) (hL_us : us.toInt = 547 + 84 * qs) (hq_us : 0 ≤ qs ∧ qs ≤ 5) (hbb : 0 ≤ b ∧ b ≤ 1000) (hJ : mo_RI x b (mo_R (mo_i (f (ρ h0 2))))) (hn1 : qs < (mo_R (mo_i (f (ρ h0 2)))) (1)) : Met l yX12_pressOf wqX12_pressOf ({ frames := 3, cells := 0, slots := 0, locals := 800 }) (va_Pc [.ref h0, .int us] (pz_B dC dI (tp_K κ) (va_pl L f) sz)) (vp_Si (fun r => True ∧ True)) 0 0 (fun _ => False) := by
  refine Met.ofW (cc := cX12_pressOf) (maxL := 2) (ret := some .int) (by decide) rfl ?_
  intro p e s m args below meth c s₁ B hml hv
  obtain ⟨rfl, hsz, hP, hK, hD0, hN⟩ := hv
  have hx := B.exec
  have hb := B.bytes
  have hr := B.returns
  have hts := fun (w : Cond) (h : w ∈ WALL) => atoms_spec (ws := wqX12_pressOf) B.pre w (List.mem_cons_of_mem _ h)
  have hown : s.vm.findClass RX12 = some m.cls := findClass_of_methodNamed B.named
  have hlocks := B.notSynchronized
  subst hsz
  have hD := hD0
  have hS : va_S (fun _ => True) s.heap s.heap [] := va_S.rf
  have hl := lv_entry ([.ref h0, .int us]) (n := 2) (Nat.le_of_ble_eq_true rfl)
  rw [lg_entry_eq]
  generalize (lg_sl ([.ref h0, .int us]) ++ List.replicate (2 - (lg_sl ([.ref h0, .int us])).length) Slot.unset).toArray = ls at hl ⊢
  have hl : lv_has ls 2 [(0, .ref h0), (1, .int us)] := hl
  refine tgk_13 hG ht_h0 (fun y1 y2 y3 y4 y5 y6 y7 y8 y9 y10 y11 y12 y13 y14 y15 y16 y17 y18 y19 y20 y21 y22 y23 y24 y25 => ?_)
  refine tpk_32 hT y1 (fun g27 hf_o26 => ?_)
  have hI : mo_RI x b (mo_R g27) := by have q9 := hJ; rw [hf_o26, mo_i1] at q9; exact q9
  rw [hf_o26, mo_i1] at hn1
  obtain ⟨n1, en1⟩ : ∃ n : Int, n = mo_R g27 (1) := ⟨_, rfl⟩
  have kn1 := hI.k1
  obtain ⟨n11, en11⟩ : ∃ n : Int, n = mo_R g27 (11) := ⟨_, rfl⟩
  have kn11 := hI.k11
  refine lv_aload_n hx hb dX12_pressOf_0 rfl (lv_at hl 0 rfl) ?_
  refine tpk_13 hT ht_h0 (fun o28_x0 o28_x1 o28_x7 o28_x9 o28_x10 o28_x11 o28_x12 o28_x13 o28_x14 o28_x15 o28_x16 o28_x17 o28_x18 o28_x19 o28_x20 o28_x22 o28_x25 o28_x28 o28_x29 o28_x32 o28_x33 o28_x34 o28_x35 o28_x36 o28_x37 o28_x38 o28_x47 o28_x48 hf_o28 ro28_0 ro28_1 ro28_2 ro28_3 ro28_4 ro28_5 ro28_6 ro28_7 ro28_8 ro28_9 ro28_10 ro28_11 ro28_12 ro28_13 ro28_14 => ?_)
  refine tpk_pos (tp_in hG ht_h0 (by decide)) hf_o28 (fun q29 eq29 => ?_)
  refine va_get (D := (dC, dI)) (ci := 12) (v := .ref (ρ h0 2)) (C := RX12) (T := TX12) (N := 53) hx hb hts hfX12 hown hK hP q29 eq29 rfl 2 (by decide) (hts (.fieldLink RX12 7 "ColdShipsModel" "row" "[I") wa_148) (fun _ h9 => h9) rfl dX12_pressOf_1 ?_
  refine lv_iload_n hx hb dX12_pressOf_4 rfl (lv_at hl 1 rfl) ?_
  refine lv_iconst (v := 5) hx hb dX12_pressOf_5 (by decide) ?_
  refine lv_iadd hx hb dX12_pressOf_6 ?_
  refine lv_topi (fun z30 ez30 => ?_)
  have iz30 : z30.toInt = us.toInt + 5 := zi_add ez30 rfl rfl (by omega) (by omega)
  refine tpk_pos (tp_in hG y1 (by decide)) hf_o26 (fun q31 eq31 => ?_)
  refine va_iald hx hb hK hP q31 0 eq31 rfl (vp_in_iff.mpr ⟨by omega, by omega⟩) dX12_pressOf_7 ?_
  refine lv_topi (fun z32 ez32 => ?_)
  have jz32 : z32.toInt = mo_R g27 (547 + 84 * qs + 5) := mo_rd ez32 (by omega)
  have kz32 := hI.V (s := qs) (by omega) (by omega)
  refine lv_i2l hx hb dX12_pressOf_8 rfl ?_
  refine lv_ldc2 (own := RX12) (v := 1000) hx hb hown (hts (.constantLong RX12 122 (1000)) wa_271) dX12_pressOf_9 ?_
  refine lv_lmul hx hb dX12_pressOf_12 ?_
  refine lv_topl (fun z33 ez33 => ?_)
  have iz33 : z33.toInt = z32.toInt * 1000 := zl_mul ez33 (Int32.toInt_toInt64 z32) rfl (by omega) (by omega)
  refine lv_aload_n hx hb dX12_pressOf_13 rfl (lv_at hl 0 rfl) ?_
  refine lv_iload_n hx hb dX12_pressOf_14 rfl (lv_at hl 1 rfl) ?_
  refine pz_calli (va_runV (As := [.int us]) (rest := [.long z33]) ⟨hx, hb, hml, hown, hts⟩ (t_X12_roomOf l dC dI _ κ Θ τ ν ρ L f hG hT h0 us x b qs ht_h0 (by omega) (by omega) (by omega) (by rw [hf_o26, mo_i1]; exact hI) (by first | (simp only [hf_o26, mo_i1]; omega) | (simp only [hf_o26, mo_i1]; trivial) | (simp only [hf_o26, mo_i1]; done) | omega)) (cwV 1 hts gX12_pressOf_X12_roomOf rfl rfl rfl ⟨rfl, pd_X12_roomOf⟩ ⟨Nat.le_of_ble_eq_true rfl, Nat.le_of_ble_eq_true rfl⟩) ⟨pz_blind, va_recv hK hP (ci := 12) (q0 := q29) rfl eq29, pz_pre hP hK hD hN⟩ rfl rfl hl.1 rfl (lv_room (Nat.le_of_ble_eq_true rfl)) dX12_pressOf_15 ⟨Nat.le_of_ble_eq_true rfl, Nat.le_of_ble_eq_true rfl⟩) (fun r34 hw35 => ?_)
  obtain ⟨hw35r, hw35p⟩ := hw35
  refine lv_i2l hx hb dX12_pressOf_18 rfl ?_
  refine lv_ldiv hx hb dX12_pressOf_19 (zl_nz (by omega) (Int32.toInt_toInt64 r34)) ?_
  refine lv_topl (fun z36 ez36 => ?_)
  refine lv_l2i hx hb dX12_pressOf_20 rfl ?_
  refine lv_topi (fun z37 ez37 => ?_)
  exact W.iret (v := z37) hx hb hr (fun t ht hW => ⟨z37, rfl, ⟨trivial, trivial⟩, ht⟩) (fun _ h => by cases h) dX12_pressOf_21
set_option maxHeartbeats 4000000 in
set_option maxRecDepth 100000 in
theorem t_X12_burn (l : Launch) (dC : Nat → ClassId) (dI : Nat → Nat → Nat) (sz : Nat) (κ : Nat → ClassId) (Θ : Nat → Option Int) (τ ν : Nat → Nat) (ρ : Nat → Nat → Nat) (L : List Nat) (f : Nat → va_E) (hG : tp_G τ ν ρ L) (hT : tp_T (mo_O κ Θ) κ τ ν ρ f) (h0 : Nat) (us : Int32) (x : Int) (b : Int) (qs : Int) (ht_h0 : τ h0 = 13) (hL_us : us.toInt = 547 + 84 * qs) (hq_us : 0 ≤ qs ∧ qs ≤ 5) (hbb : 0 ≤ b ∧ b ≤ 1000) (hJ : mo_RI x b (mo_R (mo_i (f (ρ h0 2))))) (hn1 : qs < (mo_R (mo_i (f (ρ h0 2)))) (1)) : Met l yX12_burn wqX12_burn ({ frames := 3, cells := 0, slots := 0, locals := 800 }) (va_Pc [.ref h0, .int us] (pz_B dC dI (tp_K κ) (va_pl L f) sz)) (va_Qv (fun (f1 : Nat → va_E) => tp_T (mo_O κ Θ) κ τ ν ρ f1 ∧ tp_F τ [32, 35, 36] f f1 ∧ mo_RI x b (mo_R (mo_i (f1 (ρ h0 2)))) ∧ mo_KN (fun k => False) (mo_R (mo_i (f (ρ h0 2)))) (mo_R (mo_i (f1 (ρ h0 2)))) ∧ (mo_R (mo_i (f1 (ρ h0 2)))) (1) = (mo_R (mo_i (f (ρ h0 2)))) (1) ∧ (mo_R (mo_i (f1 (ρ h0 2)))) (11) = (mo_R (mo_i (f (ρ h0 2)))) (11)) (fun (f1 : Nat → va_E) (t : State) => pz_E dC dI (tp_K κ) (va_A (va_pl L f) sz) (va_pl L f1) t) (va_A (va_pl L f) sz)) 0 0 (va_A (va_pl L f) sz) := by
  refine Met.ofW (cc := cX12_burn) (maxL := 5) (ret := none) (by decide) rfl ?_
  intro p e s m args below meth c s₁ B hml hv
  obtain ⟨rfl, hsz, hP, hK, hD0, hN⟩ := hv
  have hx := B.exec
  have hb := B.bytes
  have hr := B.returns
  have hts := fun (w : Cond) (h : w ∈ WALL) => atoms_spec (ws := wqX12_burn) B.pre w (List.mem_cons_of_mem _ h)
  have hown : s.vm.findClass RX12 = some m.cls := findClass_of_methodNamed B.named
  have hlocks := B.notSynchronized
  subst hsz
  have hD := hD0.self (sz := s.heap.size)
  generalize hAe : va_A (va_pl L f) s.heap.size = A at hD ⊢
  have hA : ∀ q : Nat, s.heap.size ≤ q → A q := fun q h => by rw [← hAe]; exact Or.inr h
  have hS : va_S A s.heap s.heap [] := va_S.rf
  have hR : tp_F τ [32, 35, 36] f f := tp_F.rf
  have hl := lv_entry ([.ref h0, .int us]) (n := 5) (Nat.le_of_ble_eq_true rfl)
  rw [lg_entry_eq]
  generalize (lg_sl ([.ref h0, .int us]) ++ List.replicate (5 - (lg_sl ([.ref h0, .int us])).length) Slot.unset).toArray = ls at hl ⊢
  have hl : lv_has ls 5 [(0, .ref h0), (1, .int us)] := hl
  refine tgk_13 hG ht_h0 (fun y1 y2 y3 y4 y5 y6 y7 y8 y9 y10 y11 y12 y13 y14 y15 y16 y17 y18 y19 y20 y21 y22 y23 y24 y25 => ?_)
  refine tpk_32 hT y1 (fun g27 hf_o26 => ?_)
  have hI : mo_RI x b (mo_R g27) := by have q9 := hJ; rw [hf_o26, mo_i1] at q9; exact q9
  rw [hf_o26, mo_i1] at hn1
  obtain ⟨n1, en1⟩ : ∃ n : Int, n = mo_R g27 (1) := ⟨_, rfl⟩
  have kn1 := hI.k1
  obtain ⟨n11, en11⟩ : ∃ n : Int, n = mo_R g27 (11) := ⟨_, rfl⟩
  have kn11 := hI.k11
  have hKN : mo_KN (fun k => False) (mo_R g27) (mo_R g27) := mo_KN.rf
  refine lv_aload_n hx hb dX12_burn_0 rfl (lv_at hl 0 rfl) ?_
  refine tpk_13 hT ht_h0 (fun o28_x0 o28_x1 o28_x7 o28_x9 o28_x10 o28_x11 o28_x12 o28_x13 o28_x14 o28_x15 o28_x16 o28_x17 o28_x18 o28_x19 o28_x20 o28_x22 o28_x25 o28_x28 o28_x29 o28_x32 o28_x33 o28_x34 o28_x35 o28_x36 o28_x37 o28_x38 o28_x47 o28_x48 hf_o28 ro28_0 ro28_1 ro28_2 ro28_3 ro28_4 ro28_5 ro28_6 ro28_7 ro28_8 ro28_9 ro28_10 ro28_11 ro28_12 ro28_13 ro28_14 => ?_)
  refine tpk_pos (tp_in hG ht_h0 (by decide)) hf_o28 (fun q29 eq29 => ?_)
  refine va_get (D := (dC, dI)) (ci := 12) (v := .ref (ρ h0 2)) (C := RX12) (T := TX12) (N := 53) hx hb hts hfX12 hown hK hP q29 eq29 rfl 2 (by decide) (hts (.fieldLink RX12 7 "ColdShipsModel" "row" "[I") wa_148) (fun _ h9 => h9) rfl dX12_burn_1 ?_
  refine lv_iload_n hx hb dX12_burn_4 rfl (lv_at hl 1 rfl) ?_
  refine lv_iconst (v := 1) hx hb dX12_burn_5 (by decide) ?_
  refine lv_iadd hx hb dX12_burn_6 ?_
  refine lv_topi (fun z30 ez30 => ?_)
  have iz30 : z30.toInt = us.toInt + 1 := zi_add ez30 rfl rfl (by omega) (by omega)
  refine tpk_pos (tp_in hG y1 (by decide)) hf_o26 (fun q31 eq31 => ?_)
  refine va_iald hx hb hK hP q31 0 eq31 rfl (vp_in_iff.mpr ⟨by omega, by omega⟩) dX12_burn_7 ?_
  refine lv_topi (fun z32 ez32 => ?_)
  refine lv_if_le (tgt := 23) hx hb dX12_burn_8 (by decide) (fun c33 => ?_) (fun c33 => ?_)
  · have ic33 : z32.toInt ≤ 0 := zi_le rfl rfl c33
    refine lv_aload_n hx hb dX12_burn_23 rfl (lv_at hl 0 rfl) ?_
    refine va_get (D := (dC, dI)) (ci := 12) (v := .ref (ρ h0 2)) (C := RX12) (T := TX12) (N := 53) hx hb hts hfX12 hown hK hP q29 eq29 rfl 2 (by decide) (hts (.fieldLink RX12 7 "ColdShipsModel" "row" "[I") wa_148) (fun _ h9 => h9) rfl dX12_burn_24 ?_
    refine lv_iload_n hx hb dX12_burn_27 rfl (lv_at hl 1 rfl) ?_
    refine lv_bipush (v := 8) hx hb dX12_burn_28 (by decide) ?_
    refine lv_iadd hx hb dX12_burn_30 ?_
    refine lv_topi (fun z34 ez34 => ?_)
    have iz34 : z34.toInt = us.toInt + 8 := zi_add ez34 rfl rfl (by omega) (by omega)
    refine va_iald hx hb hK hP q31 0 eq31 rfl (vp_in_iff.mpr ⟨by omega, by omega⟩) dX12_burn_31 ?_
    refine lv_topi (fun z35 ez35 => ?_)
    have jz35 : z35.toInt = mo_R g27 (547 + 84 * qs + 8) := mo_rd ez35 (by omega)
    have kz35 := hI.SF (s := qs) (by omega) (by omega)
    refine lv_iconst (v := 4) hx hb dX12_burn_32 (by decide) ?_
    refine lv_idiv hx hb dX12_burn_33 (by decide) ?_
    refine lv_topi (fun z36 ez36 => ?_)
    have iz36 : z36.toInt = z35.toInt / 4 := zi_div ez36 rfl (show (4 : Int32).toInt = 4 from rfl) (by omega) (by omega)
    refine lv_istore_n (lv' := [(2, .int z36), (0, .ref h0), (1, .int us)]) hx hb dX12_burn_34 rfl hl (by decide) rfl (fun ls hl => ?_)
    refine lv_iload_n hx hb dX12_burn_35 rfl (lv_at hl 0 rfl) ?_
    refine lv_aload_n hx hb dX12_burn_36 rfl (lv_at hl 1 rfl) ?_
    refine va_get (D := (dC, dI)) (ci := 12) (v := .ref (ρ h0 2)) (C := RX12) (T := TX12) (N := 53) hx hb hts hfX12 hown hK hP q29 eq29 rfl 2 (by decide) (hts (.fieldLink RX12 7 "ColdShipsModel" "row" "[I") wa_148) (fun _ h9 => h9) rfl dX12_burn_37 ?_
    refine lv_iload_n hx hb dX12_burn_40 rfl (lv_at hl 2 rfl) ?_
    refine lv_iconst (v := 5) hx hb dX12_burn_41 (by decide) ?_
    refine lv_iadd hx hb dX12_burn_42 ?_
    refine lv_topi (fun z37 ez37 => ?_)
    have iz37 : z37.toInt = us.toInt + 5 := zi_add ez37 rfl rfl (by omega) (by omega)
    refine va_iald hx hb hK hP q31 0 eq31 rfl (vp_in_iff.mpr ⟨by omega, by omega⟩) dX12_burn_43 ?_
    refine lv_topi (fun z38 ez38 => ?_)
    have jz38 : z38.toInt = mo_R g27 (547 + 84 * qs + 5) := mo_rd ez38 (by omega)
    have kz38 := hI.V (s := qs) (by omega) (by omega)
    refine lv_icmp_ge (tgt := 51) hx hb dX12_burn_44 (by decide) (fun c39 => ?_) (fun c39 => ?_)
    · have ic39 : z36.toInt ≥ z38.toInt := zi_ge rfl rfl c39
      refine lv_aload_n hx hb dX12_burn_51 rfl (lv_at hl 1 rfl) ?_
      refine va_get (D := (dC, dI)) (ci := 12) (v := .ref (ρ h0 2)) (C := RX12) (T := TX12) (N := 53) hx hb hts hfX12 hown hK hP q29 eq29 rfl 2 (by decide) (hts (.fieldLink RX12 7 "ColdShipsModel" "row" "[I") wa_148) (fun _ h9 => h9) rfl dX12_burn_52 ?_
      refine lv_iload_n hx hb dX12_burn_55 rfl (lv_at hl 2 rfl) ?_
      refine lv_iconst (v := 5) hx hb dX12_burn_56 (by decide) ?_
      refine lv_iadd hx hb dX12_burn_57 ?_
      refine lv_topi (fun z40 ez40 => ?_)
      have iz40 : z40.toInt = us.toInt + 5 := zi_add ez40 rfl rfl (by omega) (by omega)
      refine va_iald hx hb hK hP q31 0 eq31 rfl (vp_in_iff.mpr ⟨by omega, by omega⟩) dX12_burn_58 ?_
      refine lv_topi (fun z41 ez41 => ?_)
      have jz41 : z41.toInt = mo_R g27 (547 + 84 * qs + 5) := mo_rd ez41 (by omega)
      have kz41 := hI.V (s := qs) (by omega) (by omega)
      have vz41 : z41.toInt = z38.toInt := jz41.trans (jz38).symm
      refine lv_istore_n (lv' := [(3, .int z41), (2, .int z36), (0, .ref h0), (1, .int us)]) hx hb dX12_burn_59 rfl hl (by decide) rfl (fun ls hl => ?_)
      refine lv_iload_n hx hb dX12_burn_60 rfl (lv_at hl 1 rfl) ?_
      refine lv_iload_n hx hb dX12_burn_61 rfl (lv_at hl 0 rfl) ?_
      refine lv_isub hx hb dX12_burn_62 ?_
      refine lv_topi (fun z42 ez42 => ?_)
      have iz42 : z42.toInt = z36.toInt - z41.toInt := zi_sub ez42 rfl rfl (by omega) (by omega)
      refine lv_aload_n hx hb dX12_burn_63 rfl (lv_at hl 2 rfl) ?_
      refine va_get (D := (dC, dI)) (ci := 12) (v := .ref (ρ h0 2)) (C := RX12) (T := TX12) (N := 53) hx hb hts hfX12 hown hK hP q29 eq29 rfl 2 (by decide) (hts (.fieldLink RX12 7 "ColdShipsModel" "row" "[I") wa_148) (fun _ h9 => h9) rfl dX12_burn_64 ?_
      refine lv_iload_n hx hb dX12_burn_67 rfl (lv_at hl 3 rfl) ?_
      refine lv_iconst (v := 4) hx hb dX12_burn_68 (by decide) ?_
      refine lv_iadd hx hb dX12_burn_69 ?_
      refine lv_topi (fun z43 ez43 => ?_)
      have iz43 : z43.toInt = us.toInt + 4 := zi_add ez43 rfl rfl (by omega) (by omega)
      refine va_iald hx hb hK hP q31 0 eq31 rfl (vp_in_iff.mpr ⟨by omega, by omega⟩) dX12_burn_70 ?_
      refine lv_topi (fun z44 ez44 => ?_)
      have := hI.GC (s := qs) (by omega) (by omega)
      have jz44 : z44.toInt = mo_R g27 (547 + 84 * qs + 4) := mo_rd ez44 (by omega)
      have kz44 := hI.GG (s := qs) (by omega) (by omega)
      refine lv_icmp_ge (tgt := 80) hx hb dX12_burn_71 (by decide) (fun c45 => ?_) (fun c45 => ?_)
      · have ic45 : z42.toInt ≥ z44.toInt := zi_ge rfl rfl c45
        refine lv_aload_n hx hb dX12_burn_80 rfl (lv_at hl 2 rfl) ?_
        refine va_get (D := (dC, dI)) (ci := 12) (v := .ref (ρ h0 2)) (C := RX12) (T := TX12) (N := 53) hx hb hts hfX12 hown hK hP q29 eq29 rfl 2 (by decide) (hts (.fieldLink RX12 7 "ColdShipsModel" "row" "[I") wa_148) (fun _ h9 => h9) rfl dX12_burn_81 ?_
        refine lv_iload_n hx hb dX12_burn_84 rfl (lv_at hl 3 rfl) ?_
        refine lv_iconst (v := 4) hx hb dX12_burn_85 (by decide) ?_
        refine lv_iadd hx hb dX12_burn_86 ?_
        refine lv_topi (fun z46 ez46 => ?_)
        have iz46 : z46.toInt = us.toInt + 4 := zi_add ez46 rfl rfl (by omega) (by omega)
        refine va_iald hx hb hK hP q31 0 eq31 rfl (vp_in_iff.mpr ⟨by omega, by omega⟩) dX12_burn_87 ?_
        refine lv_topi (fun z47 ez47 => ?_)
        have := hI.GC (s := qs) (by omega) (by omega)
        have jz47 : z47.toInt = mo_R g27 (547 + 84 * qs + 4) := mo_rd ez47 (by omega)
        have kz47 := hI.GG (s := qs) (by omega) (by omega)
        have vz47 : z47.toInt = z44.toInt := jz47.trans (jz44).symm
        refine lv_istore (lv' := [(4, .int z47), (3, .int z41), (2, .int z36), (0, .ref h0), (1, .int us)]) hx hb dX12_burn_88 hl (by decide) rfl (fun ls hl => ?_)
        refine lv_aload_n hx hb dX12_burn_90 rfl (lv_at hl 3 rfl) ?_
        refine va_get (D := (dC, dI)) (ci := 12) (v := .ref (ρ h0 2)) (C := RX12) (T := TX12) (N := 53) hx hb hts hfX12 hown hK hP q29 eq29 rfl 2 (by decide) (hts (.fieldLink RX12 7 "ColdShipsModel" "row" "[I") wa_148) (fun _ h9 => h9) rfl dX12_burn_91 ?_
        refine lv_iload_n hx hb dX12_burn_94 rfl (lv_at hl 4 rfl) ?_
        refine lv_iconst (v := 5) hx hb dX12_burn_95 (by decide) ?_
        refine lv_iadd hx hb dX12_burn_96 ?_
        refine lv_topi (fun z48 ez48 => ?_)
        have iz48 : z48.toInt = us.toInt + 5 := zi_add ez48 rfl rfl (by omega) (by omega)
        refine lv_dup2_11 hx hb dX12_burn_97 rfl rfl ?_
        refine va_iald hx hb hK hP q31 0 eq31 rfl (vp_in_iff.mpr ⟨by omega, by omega⟩) dX12_burn_98 ?_
        refine lv_topi (fun z49 ez49 => ?_)
        have jz49 : z49.toInt = mo_R g27 (547 + 84 * qs + 5) := mo_rd ez49 (by omega)
        have kz49 := hI.V (s := qs) (by omega) (by omega)
        have vz49 : z49.toInt = z38.toInt := jz49.trans (jz38).symm
        refine lv_iload_n hx hb dX12_burn_99 rfl (lv_at hl 1 rfl) ?_
        refine lv_isub hx hb dX12_burn_100 ?_
        refine lv_topi (fun z50 ez50 => ?_)
        have iz50 : z50.toInt = z49.toInt - z41.toInt := zi_sub ez50 rfl rfl (by omega) (by omega)
        refine va_iast hx hb hK hP hD hS q31 0 eq31 rfl (vp_in_iff.mpr ⟨by omega, by omega⟩) dX12_burn_101 (tp_k (.inl (κ 0, 12967, .inl (upd g27 z48.toNatClampNeg z50))) hD (tp_in hG y1 (by decide)) eq31 (fun f51 H locs hP hD hS g53 k52 => ?_))
        have hT := hT.up y1 g53 k52 tp_o32
        have hR := hR.up y1 (by decide) k52
        have hU : mo_U (mo_R g27) (mo_R (upd g27 z48.toNatClampNeg z50)) (547 + 84 * qs + 5) (z50.toInt) := mo_up (by omega) (rfl : z50.toInt = _) (by omega)
        generalize (upd g27 z48.toNatClampNeg z50) = g54 at g53 hU
        have hI := mo_w_VAP hI hU qs (by omega) (by omega) (by omega)
        have hKN := hKN.up hU (Or.inl (by omega))
        have pn55 : mo_R g54 (1) = n1 := (hU.ne (by omega) (by omega)).trans en1.symm
        have pn56 : mo_R g54 (11) = n11 := (hU.ne (by omega) (by omega)).trans en11.symm
        have pn57 : mo_R g54 (547 + 84 * qs + 4) = z44.toInt := (hU.ne (by omega) (by omega)).trans (jz44).symm
        have pn58 : mo_R g54 (547 + 84 * qs + 5) = z50.toInt := hU.eq (by omega)
        refine lv_aload_n hx hb dX12_burn_102 rfl (lv_at hl 3 rfl) ?_
        refine lv_iload_n hx hb dX12_burn_103 rfl (lv_at hl 4 rfl) ?_
        refine lv_iload hx hb dX12_burn_104 (lv_at hl 0 rfl) ?_
        have hf_59 : f51 h0 = .inr (12, [.int o28_x0, .int o28_x1, .ref (ρ h0 2), .ref (ρ h0 3), .ref (ρ h0 4), .ref (ρ h0 5), .ref (ρ h0 6), .int o28_x7, .ref (ρ h0 8), .int o28_x9, .int o28_x10, .int o28_x11, .int o28_x12, .long o28_x13, .int o28_x14, .int o28_x15, .int o28_x16, .int o28_x17, .int o28_x18, .int o28_x19, .int o28_x20, .ref (ρ h0 21), .int o28_x22, .ref (ρ h0 23), .ref (ρ h0 24), .int o28_x25, .ref (ρ h0 26), .ref (ρ h0 27), .int o28_x28, .int o28_x29, .ref (ρ h0 30), .ref (ρ h0 31), .int o28_x32, .long o28_x33, .long o28_x34, .long o28_x35, .int o28_x36, .int o28_x37, .int o28_x38, .ref (ρ h0 39), .ref (ρ h0 40), .ref (ρ h0 41), .ref (ρ h0 42), .ref (ρ h0 43), .ref (ρ h0 44), .ref (ρ h0 45), .ref (ρ h0 46), .int o28_x47, .int o28_x48, .ref (ρ h0 49), .ref (ρ h0 50), .ref (ρ h0 51), .ref (ρ h0 52)]) := (k52 _ (tp_ne ht_h0 y1 (by decide))).trans hf_o28
        refine tpk_pos (tp_in hG ht_h0 (by decide)) hf_59 (fun q60 eq60 => ?_)
        have hFc := tp_fr hD hS hA
        refine va_callv (va_runV (As := [.int us, .int z47]) (rest := []) ⟨hx, hb, hml, hown, hts⟩ (t_X12_take l dC dI _ κ Θ τ ν ρ L f51 hG hT h0 us z47 x b qs ht_h0 (by omega) (by omega) (by omega) (by rw [g53, mo_i1]; exact hI) (by first | (simp only [g53, hf_o26, mo_i1]; omega) | (simp only [g53, hf_o26, mo_i1]; trivial) | (simp only [g53, hf_o26, mo_i1]; done) | omega) (by first | (simp only [g53, hf_o26, mo_i1]; omega) | (simp only [g53, hf_o26, mo_i1]; trivial) | (simp only [g53, hf_o26, mo_i1]; done) | omega)) (cwV 2 hts gX12_burn_X12_take rfl rfl rfl ⟨rfl, pd_X12_take⟩ ⟨Nat.le_of_ble_eq_true rfl, Nat.le_of_ble_eq_true rfl⟩) ⟨pz_blind, va_recv hK hP (ci := 12) (q0 := q60) rfl eq60, pz_pre hP hK hD hN⟩ rfl rfl hl.1 rfl (lv_room (Nat.le_of_ble_eq_true rfl)) dX12_burn_106 ⟨Nat.le_of_ble_eq_true rfl, Nat.le_of_ble_eq_true rfl⟩) hS (fun q _ h => hFc q h) hFc (fun f63 t H1 locs ht hvm hw62 hB hz1 hk1 hS => ?_)
        refine tn_3 hw62 (fun hT hF64 hw62p => ?_); clear hw62
        have hR := hR.then hF64 (by decide)
        have hP := hB.1; rw [ht] at hP; have hD := tp_ad f63 hD; clear hB hFc hz1 hk1; subst ht; generalize t.heap = H at hP hS ⊢
        obtain ⟨hJ, hw62pe⟩ := hw62p
        refine tpk_32 hT y1 (fun g66 hf_o65 => ?_)
        have hI : mo_RI x b (mo_R g66) := by have q9 := hJ; rw [hf_o65, mo_i1] at q9; exact q9
        rw [g53, mo_i1] at hw62pe
        rw [hf_o65, mo_i1] at hw62pe
        obtain ⟨hw62pek, hw62peq⟩ := hw62pe
        have hKN := hKN.th hw62pek (fun k q9 => False.elim q9)
        have pn67 : mo_R g66 (1) = n1 := (hw62peq.1).trans pn55
        have pn68 : mo_R g66 (11) = n11 := (hw62peq.2.1).trans pn56
        have pn69 : mo_R g66 (547 + 84 * qs + 5) = z50.toInt := (hw62peq.2.2.2).trans pn58
        refine lv_aload_n hx hb dX12_burn_109 rfl (lv_at hl 3 rfl) ?_
        have hf_70 : f63 h0 = .inr (12, [.int o28_x0, .int o28_x1, .ref (ρ h0 2), .ref (ρ h0 3), .ref (ρ h0 4), .ref (ρ h0 5), .ref (ρ h0 6), .int o28_x7, .ref (ρ h0 8), .int o28_x9, .int o28_x10, .int o28_x11, .int o28_x12, .long o28_x13, .int o28_x14, .int o28_x15, .int o28_x16, .int o28_x17, .int o28_x18, .int o28_x19, .int o28_x20, .ref (ρ h0 21), .int o28_x22, .ref (ρ h0 23), .ref (ρ h0 24), .int o28_x25, .ref (ρ h0 26), .ref (ρ h0 27), .int o28_x28, .int o28_x29, .ref (ρ h0 30), .ref (ρ h0 31), .int o28_x32, .long o28_x33, .long o28_x34, .long o28_x35, .int o28_x36, .int o28_x37, .int o28_x38, .ref (ρ h0 39), .ref (ρ h0 40), .ref (ρ h0 41), .ref (ρ h0 42), .ref (ρ h0 43), .ref (ρ h0 44), .ref (ρ h0 45), .ref (ρ h0 46), .int o28_x47, .int o28_x48, .ref (ρ h0 49), .ref (ρ h0 50), .ref (ρ h0 51), .ref (ρ h0 52)]) := (hF64 _ (by rw [ht_h0]; decide)).trans hf_59
        refine tpk_pos (tp_in hG ht_h0 (by decide)) hf_70 (fun q71 eq71 => ?_)
        refine va_get (D := (dC, dI)) (ci := 12) (v := .ref (ρ h0 2)) (C := RX12) (T := TX12) (N := 53) hx hb hts hfX12 hown hK hP q71 eq71 rfl 2 (by decide) (hts (.fieldLink RX12 7 "ColdShipsModel" "row" "[I") wa_148) (fun _ h9 => h9) rfl dX12_burn_110 ?_
        refine lv_iload_n hx hb dX12_burn_113 rfl (lv_at hl 4 rfl) ?_
        refine lv_bipush (v := 12) hx hb dX12_burn_114 (by decide) ?_
        refine lv_iadd hx hb dX12_burn_116 ?_
        refine lv_topi (fun z72 ez72 => ?_)
        have iz72 : z72.toInt = us.toInt + 12 := zi_add ez72 rfl rfl (by omega) (by omega)
        refine lv_iconst (v := 1) hx hb dX12_burn_117 (by decide) ?_
        refine lv_iadd hx hb dX12_burn_118 ?_
        refine lv_topi (fun z73 ez73 => ?_)
        have iz73 : z73.toInt = z72.toInt + 1 := zi_add ez73 rfl rfl (by omega) (by omega)
        refine lv_dup2_11 hx hb dX12_burn_119 rfl rfl ?_
        refine tpk_pos (tp_in hG y1 (by decide)) hf_o65 (fun q74 eq74 => ?_)
        refine va_iald hx hb hK hP q74 0 eq74 rfl (vp_in_iff.mpr ⟨by omega, by omega⟩) dX12_burn_120 ?_
        refine lv_topi (fun z75 ez75 => ?_)
        refine lv_iload_n hx hb dX12_burn_121 rfl (lv_at hl 1 rfl) ?_
        refine lv_iload hx hb dX12_burn_122 (lv_at hl 0 rfl) ?_
        refine lv_iadd hx hb dX12_burn_124 ?_
        refine lv_topi (fun z76 ez76 => ?_)
        have iz76 : z76.toInt = z41.toInt + z47.toInt := zi_add ez76 rfl rfl (by omega) (by omega)
        refine lv_iadd hx hb dX12_burn_125 ?_
        refine lv_topi (fun z77 ez77 => ?_)
        refine va_iast hx hb hK hP hD hS q74 0 eq74 rfl (vp_in_iff.mpr ⟨by omega, by omega⟩) dX12_burn_126 (tp_k (.inl (κ 0, 12967, .inl (upd g66 z73.toNatClampNeg z77))) hD (tp_in hG y1 (by decide)) eq74 (fun f78 H locs hP hD hS g80 k79 => ?_))
        have hT := hT.up y1 g80 k79 tp_o32
        have hR := hR.up y1 (by decide) k79
        have hU : mo_U (mo_R g66) (mo_R (upd g66 z73.toNatClampNeg z77)) (547 + 84 * qs + 13) (z77.toInt) := mo_up (by omega) (rfl : z77.toInt = _) (by omega)
        generalize (upd g66 z73.toNatClampNeg z77) = g81 at g80 hU
        have hI := mo_w_sfree hI hU qs 13 (by omega) (by omega) (by omega)
        have hKN := hKN.up hU (Or.inl (by omega))
        have pn82 : mo_R g81 (1) = n1 := (hU.ne (by omega) (by omega)).trans pn67
        have pn83 : mo_R g81 (11) = n11 := (hU.ne (by omega) (by omega)).trans pn68
        have pn84 : mo_R g81 (547 + 84 * qs + 5) = z50.toInt := (hU.ne (by omega) (by omega)).trans pn69
        refine lv_aload_n hx hb dX12_burn_127 rfl (lv_at hl 3 rfl) ?_
        have hf_85 : f78 h0 = .inr (12, [.int o28_x0, .int o28_x1, .ref (ρ h0 2), .ref (ρ h0 3), .ref (ρ h0 4), .ref (ρ h0 5), .ref (ρ h0 6), .int o28_x7, .ref (ρ h0 8), .int o28_x9, .int o28_x10, .int o28_x11, .int o28_x12, .long o28_x13, .int o28_x14, .int o28_x15, .int o28_x16, .int o28_x17, .int o28_x18, .int o28_x19, .int o28_x20, .ref (ρ h0 21), .int o28_x22, .ref (ρ h0 23), .ref (ρ h0 24), .int o28_x25, .ref (ρ h0 26), .ref (ρ h0 27), .int o28_x28, .int o28_x29, .ref (ρ h0 30), .ref (ρ h0 31), .int o28_x32, .long o28_x33, .long o28_x34, .long o28_x35, .int o28_x36, .int o28_x37, .int o28_x38, .ref (ρ h0 39), .ref (ρ h0 40), .ref (ρ h0 41), .ref (ρ h0 42), .ref (ρ h0 43), .ref (ρ h0 44), .ref (ρ h0 45), .ref (ρ h0 46), .int o28_x47, .int o28_x48, .ref (ρ h0 49), .ref (ρ h0 50), .ref (ρ h0 51), .ref (ρ h0 52)]) := (k79 _ (tp_ne ht_h0 y1 (by decide))).trans hf_70
        refine tpk_pos (tp_in hG ht_h0 (by decide)) hf_85 (fun q86 eq86 => ?_)
        refine va_get (D := (dC, dI)) (ci := 12) (v := .ref (ρ h0 2)) (C := RX12) (T := TX12) (N := 53) hx hb hts hfX12 hown hK hP q86 eq86 rfl 2 (by decide) (hts (.fieldLink RX12 7 "ColdShipsModel" "row" "[I") wa_148) (fun _ h9 => h9) rfl dX12_burn_128 ?_
        refine lv_iload_n hx hb dX12_burn_131 rfl (lv_at hl 4 rfl) ?_
        refine lv_bipush (v := 9) hx hb dX12_burn_132 (by decide) ?_
        refine lv_iadd hx hb dX12_burn_134 ?_
        refine lv_topi (fun z87 ez87 => ?_)
        have iz87 : z87.toInt = us.toInt + 9 := zi_add ez87 rfl rfl (by omega) (by omega)
        refine lv_iload_n hx hb dX12_burn_135 rfl (lv_at hl 1 rfl) ?_
        refine lv_iload hx hb dX12_burn_136 (lv_at hl 0 rfl) ?_
        refine lv_iadd hx hb dX12_burn_138 ?_
        refine lv_topi (fun z88 ez88 => ?_)
        have iz88 : z88.toInt = z41.toInt + z47.toInt := zi_add ez88 rfl rfl (by omega) (by omega)
        refine lv_iload_n hx hb dX12_burn_139 rfl (lv_at hl 2 rfl) ?_
        refine lv_icmp_ge (tgt := 147) hx hb dX12_burn_140 (by decide) (fun c89 => ?_) (fun c89 => ?_)
        · have ic89 : z88.toInt ≥ z36.toInt := zi_ge rfl rfl c89
          refine lv_iconst (v := 0) hx hb dX12_burn_147 (by decide) ?_
          refine tpk_pos (tp_in hG y1 (by decide)) g80 (fun q90 eq90 => ?_)
          refine va_iast hx hb hK hP hD hS q90 0 eq90 rfl (vp_in_iff.mpr ⟨by omega, by omega⟩) dX12_burn_148 (tp_k (.inl (κ 0, 12967, .inl (upd g81 z87.toNatClampNeg (0 : Int32)))) hD (tp_in hG y1 (by decide)) eq90 (fun f91 H locs hP hD hS g93 k92 => ?_))
          have hT := hT.up y1 g93 k92 tp_o32
          have hR := hR.up y1 (by decide) k92
          have hU : mo_U (mo_R g81) (mo_R (upd g81 z87.toNatClampNeg (0 : Int32))) (547 + 84 * qs + 9) (0) := mo_up (by omega) (show (0 : Int32).toInt = 0 from rfl) (by omega)
          generalize (upd g81 z87.toNatClampNeg (0 : Int32)) = g94 at g93 hU
          have hI := mo_w_sfree hI hU qs 9 (by omega) (by omega) (by omega)
          have hKN := hKN.up hU (Or.inl (by omega))
          have pn95 : mo_R g94 (1) = n1 := (hU.ne (by omega) (by omega)).trans pn82
          have pn96 : mo_R g94 (11) = n11 := (hU.ne (by omega) (by omega)).trans pn83
          have pn97 : mo_R g94 (547 + 84 * qs + 5) = z50.toInt := (hU.ne (by omega) (by omega)).trans pn84
          exact W.vret hx hb hr (fun t ht hW => ⟨⟨f91, rfl, ⟨hT, hR, ⟨(by rw [g93, mo_i1]; exact hI), (by rw [g93, mo_i1, hf_o26, mo_i1]; exact hKN), (by first | (simp only [g93, hf_o26, mo_i1]; omega) | (simp only [g93, hf_o26, mo_i1]; trivial) | (simp only [g93, hf_o26, mo_i1]; done) | omega)⟩⟩, by rw [ht]; exact hP, va_K.moved hW.alike hK, hD⟩, hS.F ht⟩) hS.2.2 dX12_burn_149
        · have ic89 : z88.toInt < z36.toInt := zi_gef rfl rfl c89
          refine lv_iconst (v := 1) hx hb dX12_burn_143 (by decide) ?_
          refine lv_goto (tgt := 148) hx hb dX12_burn_144 (by decide) ?_
          refine tpk_pos (tp_in hG y1 (by decide)) g80 (fun q98 eq98 => ?_)
          refine va_iast hx hb hK hP hD hS q98 0 eq98 rfl (vp_in_iff.mpr ⟨by omega, by omega⟩) dX12_burn_148 (tp_k (.inl (κ 0, 12967, .inl (upd g81 z87.toNatClampNeg (1 : Int32)))) hD (tp_in hG y1 (by decide)) eq98 (fun f99 H locs hP hD hS g101 k100 => ?_))
          have hT := hT.up y1 g101 k100 tp_o32
          have hR := hR.up y1 (by decide) k100
          have hU : mo_U (mo_R g81) (mo_R (upd g81 z87.toNatClampNeg (1 : Int32))) (547 + 84 * qs + 9) (1) := mo_up (by omega) (show (1 : Int32).toInt = 1 from rfl) (by omega)
          generalize (upd g81 z87.toNatClampNeg (1 : Int32)) = g102 at g101 hU
          have hI := mo_w_sfree hI hU qs 9 (by omega) (by omega) (by omega)
          have hKN := hKN.up hU (Or.inl (by omega))
          have pn103 : mo_R g102 (1) = n1 := (hU.ne (by omega) (by omega)).trans pn82
          have pn104 : mo_R g102 (11) = n11 := (hU.ne (by omega) (by omega)).trans pn83
          have pn105 : mo_R g102 (547 + 84 * qs + 5) = z50.toInt := (hU.ne (by omega) (by omega)).trans pn84
          exact W.vret hx hb hr (fun t ht hW => ⟨⟨f99, rfl, ⟨hT, hR, ⟨(by rw [g101, mo_i1]; exact hI), (by rw [g101, mo_i1, hf_o26, mo_i1]; exact hKN), (by first | (simp only [g101, hf_o26, mo_i1]; omega) | (simp only [g101, hf_o26, mo_i1]; trivial) | (simp only [g101, hf_o26, mo_i1]; done) | omega)⟩⟩, by rw [ht]; exact hP, va_K.moved hW.alike hK, hD⟩, hS.F ht⟩) hS.2.2 dX12_burn_149
      · have ic45 : z42.toInt < z44.toInt := zi_gef rfl rfl c45
        refine lv_iload_n hx hb dX12_burn_74 rfl (lv_at hl 1 rfl) ?_
        refine lv_iload_n hx hb dX12_burn_75 rfl (lv_at hl 0 rfl) ?_
        refine lv_isub hx hb dX12_burn_76 ?_
        refine lv_topi (fun z106 ez106 => ?_)
        have iz106 : z106.toInt = z36.toInt - z41.toInt := zi_sub ez106 rfl rfl (by omega) (by omega)
        refine lv_goto (tgt := 88) hx hb dX12_burn_77 (by decide) ?_
        refine lv_istore (lv' := [(4, .int z106), (3, .int z41), (2, .int z36), (0, .ref h0), (1, .int us)]) hx hb dX12_burn_88 hl (by decide) rfl (fun ls hl => ?_)
        refine lv_aload_n hx hb dX12_burn_90 rfl (lv_at hl 3 rfl) ?_
        refine va_get (D := (dC, dI)) (ci := 12) (v := .ref (ρ h0 2)) (C := RX12) (T := TX12) (N := 53) hx hb hts hfX12 hown hK hP q29 eq29 rfl 2 (by decide) (hts (.fieldLink RX12 7 "ColdShipsModel" "row" "[I") wa_148) (fun _ h9 => h9) rfl dX12_burn_91 ?_
        refine lv_iload_n hx hb dX12_burn_94 rfl (lv_at hl 4 rfl) ?_
        refine lv_iconst (v := 5) hx hb dX12_burn_95 (by decide) ?_
        refine lv_iadd hx hb dX12_burn_96 ?_
        refine lv_topi (fun z107 ez107 => ?_)
        have iz107 : z107.toInt = us.toInt + 5 := zi_add ez107 rfl rfl (by omega) (by omega)
        refine lv_dup2_11 hx hb dX12_burn_97 rfl rfl ?_
        refine va_iald hx hb hK hP q31 0 eq31 rfl (vp_in_iff.mpr ⟨by omega, by omega⟩) dX12_burn_98 ?_
        refine lv_topi (fun z108 ez108 => ?_)
        have jz108 : z108.toInt = mo_R g27 (547 + 84 * qs + 5) := mo_rd ez108 (by omega)
        have kz108 := hI.V (s := qs) (by omega) (by omega)
        have vz108 : z108.toInt = z38.toInt := jz108.trans (jz38).symm
        refine lv_iload_n hx hb dX12_burn_99 rfl (lv_at hl 1 rfl) ?_
        refine lv_isub hx hb dX12_burn_100 ?_
        refine lv_topi (fun z109 ez109 => ?_)
        have iz109 : z109.toInt = z108.toInt - z41.toInt := zi_sub ez109 rfl rfl (by omega) (by omega)
        refine va_iast hx hb hK hP hD hS q31 0 eq31 rfl (vp_in_iff.mpr ⟨by omega, by omega⟩) dX12_burn_101 (tp_k (.inl (κ 0, 12967, .inl (upd g27 z107.toNatClampNeg z109))) hD (tp_in hG y1 (by decide)) eq31 (fun f110 H locs hP hD hS g112 k111 => ?_))
        have hT := hT.up y1 g112 k111 tp_o32
        have hR := hR.up y1 (by decide) k111
        have hU : mo_U (mo_R g27) (mo_R (upd g27 z107.toNatClampNeg z109)) (547 + 84 * qs + 5) (z109.toInt) := mo_up (by omega) (rfl : z109.toInt = _) (by omega)
        generalize (upd g27 z107.toNatClampNeg z109) = g113 at g112 hU
        have hI := mo_w_VAP hI hU qs (by omega) (by omega) (by omega)
        have hKN := hKN.up hU (Or.inl (by omega))
        have pn114 : mo_R g113 (1) = n1 := (hU.ne (by omega) (by omega)).trans en1.symm
        have pn115 : mo_R g113 (11) = n11 := (hU.ne (by omega) (by omega)).trans en11.symm
        have pn116 : mo_R g113 (547 + 84 * qs + 4) = z44.toInt := (hU.ne (by omega) (by omega)).trans (jz44).symm
        have pn117 : mo_R g113 (547 + 84 * qs + 5) = z109.toInt := hU.eq (by omega)
        refine lv_aload_n hx hb dX12_burn_102 rfl (lv_at hl 3 rfl) ?_
        refine lv_iload_n hx hb dX12_burn_103 rfl (lv_at hl 4 rfl) ?_
        refine lv_iload hx hb dX12_burn_104 (lv_at hl 0 rfl) ?_
        have hf_118 : f110 h0 = .inr (12, [.int o28_x0, .int o28_x1, .ref (ρ h0 2), .ref (ρ h0 3), .ref (ρ h0 4), .ref (ρ h0 5), .ref (ρ h0 6), .int o28_x7, .ref (ρ h0 8), .int o28_x9, .int o28_x10, .int o28_x11, .int o28_x12, .long o28_x13, .int o28_x14, .int o28_x15, .int o28_x16, .int o28_x17, .int o28_x18, .int o28_x19, .int o28_x20, .ref (ρ h0 21), .int o28_x22, .ref (ρ h0 23), .ref (ρ h0 24), .int o28_x25, .ref (ρ h0 26), .ref (ρ h0 27), .int o28_x28, .int o28_x29, .ref (ρ h0 30), .ref (ρ h0 31), .int o28_x32, .long o28_x33, .long o28_x34, .long o28_x35, .int o28_x36, .int o28_x37, .int o28_x38, .ref (ρ h0 39), .ref (ρ h0 40), .ref (ρ h0 41), .ref (ρ h0 42), .ref (ρ h0 43), .ref (ρ h0 44), .ref (ρ h0 45), .ref (ρ h0 46), .int o28_x47, .int o28_x48, .ref (ρ h0 49), .ref (ρ h0 50), .ref (ρ h0 51), .ref (ρ h0 52)]) := (k111 _ (tp_ne ht_h0 y1 (by decide))).trans hf_o28
        refine tpk_pos (tp_in hG ht_h0 (by decide)) hf_118 (fun q119 eq119 => ?_)
        have hFc := tp_fr hD hS hA
        refine va_callv (va_runV (As := [.int us, .int z106]) (rest := []) ⟨hx, hb, hml, hown, hts⟩ (t_X12_take l dC dI _ κ Θ τ ν ρ L f110 hG hT h0 us z106 x b qs ht_h0 (by omega) (by omega) (by omega) (by rw [g112, mo_i1]; exact hI) (by first | (simp only [g112, hf_o26, mo_i1]; omega) | (simp only [g112, hf_o26, mo_i1]; trivial) | (simp only [g112, hf_o26, mo_i1]; done) | omega) (by first | (simp only [g112, hf_o26, mo_i1]; omega) | (simp only [g112, hf_o26, mo_i1]; trivial) | (simp only [g112, hf_o26, mo_i1]; done) | omega)) (cwV 2 hts gX12_burn_X12_take rfl rfl rfl ⟨rfl, pd_X12_take⟩ ⟨Nat.le_of_ble_eq_true rfl, Nat.le_of_ble_eq_true rfl⟩) ⟨pz_blind, va_recv hK hP (ci := 12) (q0 := q119) rfl eq119, pz_pre hP hK hD hN⟩ rfl rfl hl.1 rfl (lv_room (Nat.le_of_ble_eq_true rfl)) dX12_burn_106 ⟨Nat.le_of_ble_eq_true rfl, Nat.le_of_ble_eq_true rfl⟩) hS (fun q _ h => hFc q h) hFc (fun f122 t H1 locs ht hvm hw121 hB hz1 hk1 hS => ?_)
        refine tn_3 hw121 (fun hT hF123 hw121p => ?_); clear hw121
        have hR := hR.then hF123 (by decide)
        have hP := hB.1; rw [ht] at hP; have hD := tp_ad f122 hD; clear hB hFc hz1 hk1; subst ht; generalize t.heap = H at hP hS ⊢
        obtain ⟨hJ, hw121pe⟩ := hw121p
        refine tpk_32 hT y1 (fun g125 hf_o124 => ?_)
        have hI : mo_RI x b (mo_R g125) := by have q9 := hJ; rw [hf_o124, mo_i1] at q9; exact q9
        rw [g112, mo_i1] at hw121pe
        rw [hf_o124, mo_i1] at hw121pe
        obtain ⟨hw121pek, hw121peq⟩ := hw121pe
        have hKN := hKN.th hw121pek (fun k q9 => False.elim q9)
        have pn126 : mo_R g125 (1) = n1 := (hw121peq.1).trans pn114
        have pn127 : mo_R g125 (11) = n11 := (hw121peq.2.1).trans pn115
        have pn128 : mo_R g125 (547 + 84 * qs + 5) = z109.toInt := (hw121peq.2.2.2).trans pn117
        refine lv_aload_n hx hb dX12_burn_109 rfl (lv_at hl 3 rfl) ?_
        have hf_129 : f122 h0 = .inr (12, [.int o28_x0, .int o28_x1, .ref (ρ h0 2), .ref (ρ h0 3), .ref (ρ h0 4), .ref (ρ h0 5), .ref (ρ h0 6), .int o28_x7, .ref (ρ h0 8), .int o28_x9, .int o28_x10, .int o28_x11, .int o28_x12, .long o28_x13, .int o28_x14, .int o28_x15, .int o28_x16, .int o28_x17, .int o28_x18, .int o28_x19, .int o28_x20, .ref (ρ h0 21), .int o28_x22, .ref (ρ h0 23), .ref (ρ h0 24), .int o28_x25, .ref (ρ h0 26), .ref (ρ h0 27), .int o28_x28, .int o28_x29, .ref (ρ h0 30), .ref (ρ h0 31), .int o28_x32, .long o28_x33, .long o28_x34, .long o28_x35, .int o28_x36, .int o28_x37, .int o28_x38, .ref (ρ h0 39), .ref (ρ h0 40), .ref (ρ h0 41), .ref (ρ h0 42), .ref (ρ h0 43), .ref (ρ h0 44), .ref (ρ h0 45), .ref (ρ h0 46), .int o28_x47, .int o28_x48, .ref (ρ h0 49), .ref (ρ h0 50), .ref (ρ h0 51), .ref (ρ h0 52)]) := (hF123 _ (by rw [ht_h0]; decide)).trans hf_118
        refine tpk_pos (tp_in hG ht_h0 (by decide)) hf_129 (fun q130 eq130 => ?_)
        refine va_get (D := (dC, dI)) (ci := 12) (v := .ref (ρ h0 2)) (C := RX12) (T := TX12) (N := 53) hx hb hts hfX12 hown hK hP q130 eq130 rfl 2 (by decide) (hts (.fieldLink RX12 7 "ColdShipsModel" "row" "[I") wa_148) (fun _ h9 => h9) rfl dX12_burn_110 ?_
        refine lv_iload_n hx hb dX12_burn_113 rfl (lv_at hl 4 rfl) ?_
        refine lv_bipush (v := 12) hx hb dX12_burn_114 (by decide) ?_
        refine lv_iadd hx hb dX12_burn_116 ?_
        refine lv_topi (fun z131 ez131 => ?_)
        have iz131 : z131.toInt = us.toInt + 12 := zi_add ez131 rfl rfl (by omega) (by omega)
        refine lv_iconst (v := 1) hx hb dX12_burn_117 (by decide) ?_
        refine lv_iadd hx hb dX12_burn_118 ?_
        refine lv_topi (fun z132 ez132 => ?_)
        have iz132 : z132.toInt = z131.toInt + 1 := zi_add ez132 rfl rfl (by omega) (by omega)
        refine lv_dup2_11 hx hb dX12_burn_119 rfl rfl ?_
        refine tpk_pos (tp_in hG y1 (by decide)) hf_o124 (fun q133 eq133 => ?_)
        refine va_iald hx hb hK hP q133 0 eq133 rfl (vp_in_iff.mpr ⟨by omega, by omega⟩) dX12_burn_120 ?_
        refine lv_topi (fun z134 ez134 => ?_)
        refine lv_iload_n hx hb dX12_burn_121 rfl (lv_at hl 1 rfl) ?_
        refine lv_iload hx hb dX12_burn_122 (lv_at hl 0 rfl) ?_
        refine lv_iadd hx hb dX12_burn_124 ?_
        refine lv_topi (fun z135 ez135 => ?_)
        have iz135 : z135.toInt = z41.toInt + z106.toInt := zi_add ez135 rfl rfl (by omega) (by omega)
        refine lv_iadd hx hb dX12_burn_125 ?_
        refine lv_topi (fun z136 ez136 => ?_)
        refine va_iast hx hb hK hP hD hS q133 0 eq133 rfl (vp_in_iff.mpr ⟨by omega, by omega⟩) dX12_burn_126 (tp_k (.inl (κ 0, 12967, .inl (upd g125 z132.toNatClampNeg z136))) hD (tp_in hG y1 (by decide)) eq133 (fun f137 H locs hP hD hS g139 k138 => ?_))
        have hT := hT.up y1 g139 k138 tp_o32
        have hR := hR.up y1 (by decide) k138
        have hU : mo_U (mo_R g125) (mo_R (upd g125 z132.toNatClampNeg z136)) (547 + 84 * qs + 13) (z136.toInt) := mo_up (by omega) (rfl : z136.toInt = _) (by omega)
        generalize (upd g125 z132.toNatClampNeg z136) = g140 at g139 hU
        have hI := mo_w_sfree hI hU qs 13 (by omega) (by omega) (by omega)
        have hKN := hKN.up hU (Or.inl (by omega))
        have pn141 : mo_R g140 (1) = n1 := (hU.ne (by omega) (by omega)).trans pn126
        have pn142 : mo_R g140 (11) = n11 := (hU.ne (by omega) (by omega)).trans pn127
        have pn143 : mo_R g140 (547 + 84 * qs + 5) = z109.toInt := (hU.ne (by omega) (by omega)).trans pn128
        refine lv_aload_n hx hb dX12_burn_127 rfl (lv_at hl 3 rfl) ?_
        have hf_144 : f137 h0 = .inr (12, [.int o28_x0, .int o28_x1, .ref (ρ h0 2), .ref (ρ h0 3), .ref (ρ h0 4), .ref (ρ h0 5), .ref (ρ h0 6), .int o28_x7, .ref (ρ h0 8), .int o28_x9, .int o28_x10, .int o28_x11, .int o28_x12, .long o28_x13, .int o28_x14, .int o28_x15, .int o28_x16, .int o28_x17, .int o28_x18, .int o28_x19, .int o28_x20, .ref (ρ h0 21), .int o28_x22, .ref (ρ h0 23), .ref (ρ h0 24), .int o28_x25, .ref (ρ h0 26), .ref (ρ h0 27), .int o28_x28, .int o28_x29, .ref (ρ h0 30), .ref (ρ h0 31), .int o28_x32, .long o28_x33, .long o28_x34, .long o28_x35, .int o28_x36, .int o28_x37, .int o28_x38, .ref (ρ h0 39), .ref (ρ h0 40), .ref (ρ h0 41), .ref (ρ h0 42), .ref (ρ h0 43), .ref (ρ h0 44), .ref (ρ h0 45), .ref (ρ h0 46), .int o28_x47, .int o28_x48, .ref (ρ h0 49), .ref (ρ h0 50), .ref (ρ h0 51), .ref (ρ h0 52)]) := (k138 _ (tp_ne ht_h0 y1 (by decide))).trans hf_129
        refine tpk_pos (tp_in hG ht_h0 (by decide)) hf_144 (fun q145 eq145 => ?_)
        refine va_get (D := (dC, dI)) (ci := 12) (v := .ref (ρ h0 2)) (C := RX12) (T := TX12) (N := 53) hx hb hts hfX12 hown hK hP q145 eq145 rfl 2 (by decide) (hts (.fieldLink RX12 7 "ColdShipsModel" "row" "[I") wa_148) (fun _ h9 => h9) rfl dX12_burn_128 ?_
        refine lv_iload_n hx hb dX12_burn_131 rfl (lv_at hl 4 rfl) ?_
        refine lv_bipush (v := 9) hx hb dX12_burn_132 (by decide) ?_
        refine lv_iadd hx hb dX12_burn_134 ?_
        refine lv_topi (fun z146 ez146 => ?_)
        have iz146 : z146.toInt = us.toInt + 9 := zi_add ez146 rfl rfl (by omega) (by omega)
        refine lv_iload_n hx hb dX12_burn_135 rfl (lv_at hl 1 rfl) ?_
        refine lv_iload hx hb dX12_burn_136 (lv_at hl 0 rfl) ?_
        refine lv_iadd hx hb dX12_burn_138 ?_
        refine lv_topi (fun z147 ez147 => ?_)
        have iz147 : z147.toInt = z41.toInt + z106.toInt := zi_add ez147 rfl rfl (by omega) (by omega)
        refine lv_iload_n hx hb dX12_burn_139 rfl (lv_at hl 2 rfl) ?_
        refine lv_icmp_ge (tgt := 147) hx hb dX12_burn_140 (by decide) (fun c148 => ?_) (fun c148 => ?_)
        · have ic148 : z147.toInt ≥ z36.toInt := zi_ge rfl rfl c148
          refine lv_iconst (v := 0) hx hb dX12_burn_147 (by decide) ?_
          refine tpk_pos (tp_in hG y1 (by decide)) g139 (fun q149 eq149 => ?_)
          refine va_iast hx hb hK hP hD hS q149 0 eq149 rfl (vp_in_iff.mpr ⟨by omega, by omega⟩) dX12_burn_148 (tp_k (.inl (κ 0, 12967, .inl (upd g140 z146.toNatClampNeg (0 : Int32)))) hD (tp_in hG y1 (by decide)) eq149 (fun f150 H locs hP hD hS g152 k151 => ?_))
          have hT := hT.up y1 g152 k151 tp_o32
          have hR := hR.up y1 (by decide) k151
          have hU : mo_U (mo_R g140) (mo_R (upd g140 z146.toNatClampNeg (0 : Int32))) (547 + 84 * qs + 9) (0) := mo_up (by omega) (show (0 : Int32).toInt = 0 from rfl) (by omega)
          generalize (upd g140 z146.toNatClampNeg (0 : Int32)) = g153 at g152 hU
          have hI := mo_w_sfree hI hU qs 9 (by omega) (by omega) (by omega)
          have hKN := hKN.up hU (Or.inl (by omega))
          have pn154 : mo_R g153 (1) = n1 := (hU.ne (by omega) (by omega)).trans pn141
          have pn155 : mo_R g153 (11) = n11 := (hU.ne (by omega) (by omega)).trans pn142
          have pn156 : mo_R g153 (547 + 84 * qs + 5) = z109.toInt := (hU.ne (by omega) (by omega)).trans pn143
          exact W.vret hx hb hr (fun t ht hW => ⟨⟨f150, rfl, ⟨hT, hR, ⟨(by rw [g152, mo_i1]; exact hI), (by rw [g152, mo_i1, hf_o26, mo_i1]; exact hKN), (by first | (simp only [g152, hf_o26, mo_i1]; omega) | (simp only [g152, hf_o26, mo_i1]; trivial) | (simp only [g152, hf_o26, mo_i1]; done) | omega)⟩⟩, by rw [ht]; exact hP, va_K.moved hW.alike hK, hD⟩, hS.F ht⟩) hS.2.2 dX12_burn_149
        · have ic148 : z147.toInt < z36.toInt := zi_gef rfl rfl c148
          refine lv_iconst (v := 1) hx hb dX12_burn_143 (by decide) ?_
          refine lv_goto (tgt := 148) hx hb dX12_burn_144 (by decide) ?_
          refine tpk_pos (tp_in hG y1 (by decide)) g139 (fun q157 eq157 => ?_)
          refine va_iast hx hb hK hP hD hS q157 0 eq157 rfl (vp_in_iff.mpr ⟨by omega, by omega⟩) dX12_burn_148 (tp_k (.inl (κ 0, 12967, .inl (upd g140 z146.toNatClampNeg (1 : Int32)))) hD (tp_in hG y1 (by decide)) eq157 (fun f158 H locs hP hD hS g160 k159 => ?_))
          have hT := hT.up y1 g160 k159 tp_o32
          have hR := hR.up y1 (by decide) k159
          have hU : mo_U (mo_R g140) (mo_R (upd g140 z146.toNatClampNeg (1 : Int32))) (547 + 84 * qs + 9) (1) := mo_up (by omega) (show (1 : Int32).toInt = 1 from rfl) (by omega)
          generalize (upd g140 z146.toNatClampNeg (1 : Int32)) = g161 at g160 hU
          have hI := mo_w_sfree hI hU qs 9 (by omega) (by omega) (by omega)
          have hKN := hKN.up hU (Or.inl (by omega))
          have pn162 : mo_R g161 (1) = n1 := (hU.ne (by omega) (by omega)).trans pn141
          have pn163 : mo_R g161 (11) = n11 := (hU.ne (by omega) (by omega)).trans pn142
          have pn164 : mo_R g161 (547 + 84 * qs + 5) = z109.toInt := (hU.ne (by omega) (by omega)).trans pn143
          exact W.vret hx hb hr (fun t ht hW => ⟨⟨f158, rfl, ⟨hT, hR, ⟨(by rw [g160, mo_i1]; exact hI), (by rw [g160, mo_i1, hf_o26, mo_i1]; exact hKN), (by first | (simp only [g160, hf_o26, mo_i1]; omega) | (simp only [g160, hf_o26, mo_i1]; trivial) | (simp only [g160, hf_o26, mo_i1]; done) | omega)⟩⟩, by rw [ht]; exact hP, va_K.moved hW.alike hK, hD⟩, hS.F ht⟩) hS.2.2 dX12_burn_149
    · have ic39 : z36.toInt < z38.toInt := zi_gef rfl rfl c39
      refine lv_iload_n hx hb dX12_burn_47 rfl (lv_at hl 0 rfl) ?_
      refine lv_goto (tgt := 59) hx hb dX12_burn_48 (by decide) ?_
      refine lv_istore_n (lv' := [(3, .int z36), (2, .int z36), (0, .ref h0), (1, .int us)]) hx hb dX12_burn_59 rfl hl (by decide) rfl (fun ls hl => ?_)
      refine lv_iload_n hx hb dX12_burn_60 rfl (lv_at hl 1 rfl) ?_
      refine lv_iload_n hx hb dX12_burn_61 rfl (lv_at hl 0 rfl) ?_
      refine lv_isub hx hb dX12_burn_62 ?_
      refine lv_topi (fun z165 ez165 => ?_)
      have iz165 : z165.toInt = z36.toInt - z36.toInt := zi_sub ez165 rfl rfl (by omega) (by omega)
      refine lv_aload_n hx hb dX12_burn_63 rfl (lv_at hl 2 rfl) ?_
      refine va_get (D := (dC, dI)) (ci := 12) (v := .ref (ρ h0 2)) (C := RX12) (T := TX12) (N := 53) hx hb hts hfX12 hown hK hP q29 eq29 rfl 2 (by decide) (hts (.fieldLink RX12 7 "ColdShipsModel" "row" "[I") wa_148) (fun _ h9 => h9) rfl dX12_burn_64 ?_
      refine lv_iload_n hx hb dX12_burn_67 rfl (lv_at hl 3 rfl) ?_
      refine lv_iconst (v := 4) hx hb dX12_burn_68 (by decide) ?_
      refine lv_iadd hx hb dX12_burn_69 ?_
      refine lv_topi (fun z166 ez166 => ?_)
      have iz166 : z166.toInt = us.toInt + 4 := zi_add ez166 rfl rfl (by omega) (by omega)
      refine va_iald hx hb hK hP q31 0 eq31 rfl (vp_in_iff.mpr ⟨by omega, by omega⟩) dX12_burn_70 ?_
      refine lv_topi (fun z167 ez167 => ?_)
      have := hI.GC (s := qs) (by omega) (by omega)
      have jz167 : z167.toInt = mo_R g27 (547 + 84 * qs + 4) := mo_rd ez167 (by omega)
      have kz167 := hI.GG (s := qs) (by omega) (by omega)
      refine lv_icmp_ge (tgt := 80) hx hb dX12_burn_71 (by decide) (fun c168 => ?_) (fun c168 => ?_)
      · have ic168 : z165.toInt ≥ z167.toInt := zi_ge rfl rfl c168
        refine lv_aload_n hx hb dX12_burn_80 rfl (lv_at hl 2 rfl) ?_
        refine va_get (D := (dC, dI)) (ci := 12) (v := .ref (ρ h0 2)) (C := RX12) (T := TX12) (N := 53) hx hb hts hfX12 hown hK hP q29 eq29 rfl 2 (by decide) (hts (.fieldLink RX12 7 "ColdShipsModel" "row" "[I") wa_148) (fun _ h9 => h9) rfl dX12_burn_81 ?_
        refine lv_iload_n hx hb dX12_burn_84 rfl (lv_at hl 3 rfl) ?_
        refine lv_iconst (v := 4) hx hb dX12_burn_85 (by decide) ?_
        refine lv_iadd hx hb dX12_burn_86 ?_
        refine lv_topi (fun z169 ez169 => ?_)
        have iz169 : z169.toInt = us.toInt + 4 := zi_add ez169 rfl rfl (by omega) (by omega)
        refine va_iald hx hb hK hP q31 0 eq31 rfl (vp_in_iff.mpr ⟨by omega, by omega⟩) dX12_burn_87 ?_
        refine lv_topi (fun z170 ez170 => ?_)
        have := hI.GC (s := qs) (by omega) (by omega)
        have jz170 : z170.toInt = mo_R g27 (547 + 84 * qs + 4) := mo_rd ez170 (by omega)
        have kz170 := hI.GG (s := qs) (by omega) (by omega)
        have vz170 : z170.toInt = z167.toInt := jz170.trans (jz167).symm
        refine lv_istore (lv' := [(4, .int z170), (3, .int z36), (2, .int z36), (0, .ref h0), (1, .int us)]) hx hb dX12_burn_88 hl (by decide) rfl (fun ls hl => ?_)
        refine lv_aload_n hx hb dX12_burn_90 rfl (lv_at hl 3 rfl) ?_
        refine va_get (D := (dC, dI)) (ci := 12) (v := .ref (ρ h0 2)) (C := RX12) (T := TX12) (N := 53) hx hb hts hfX12 hown hK hP q29 eq29 rfl 2 (by decide) (hts (.fieldLink RX12 7 "ColdShipsModel" "row" "[I") wa_148) (fun _ h9 => h9) rfl dX12_burn_91 ?_
        refine lv_iload_n hx hb dX12_burn_94 rfl (lv_at hl 4 rfl) ?_
        refine lv_iconst (v := 5) hx hb dX12_burn_95 (by decide) ?_
        refine lv_iadd hx hb dX12_burn_96 ?_
        refine lv_topi (fun z171 ez171 => ?_)
        have iz171 : z171.toInt = us.toInt + 5 := zi_add ez171 rfl rfl (by omega) (by omega)
        refine lv_dup2_11 hx hb dX12_burn_97 rfl rfl ?_
        refine va_iald hx hb hK hP q31 0 eq31 rfl (vp_in_iff.mpr ⟨by omega, by omega⟩) dX12_burn_98 ?_
        refine lv_topi (fun z172 ez172 => ?_)
        have jz172 : z172.toInt = mo_R g27 (547 + 84 * qs + 5) := mo_rd ez172 (by omega)
        have kz172 := hI.V (s := qs) (by omega) (by omega)
        have vz172 : z172.toInt = z38.toInt := jz172.trans (jz38).symm
        refine lv_iload_n hx hb dX12_burn_99 rfl (lv_at hl 1 rfl) ?_
        refine lv_isub hx hb dX12_burn_100 ?_
        refine lv_topi (fun z173 ez173 => ?_)
        have iz173 : z173.toInt = z172.toInt - z36.toInt := zi_sub ez173 rfl rfl (by omega) (by omega)
        refine va_iast hx hb hK hP hD hS q31 0 eq31 rfl (vp_in_iff.mpr ⟨by omega, by omega⟩) dX12_burn_101 (tp_k (.inl (κ 0, 12967, .inl (upd g27 z171.toNatClampNeg z173))) hD (tp_in hG y1 (by decide)) eq31 (fun f174 H locs hP hD hS g176 k175 => ?_))
        have hT := hT.up y1 g176 k175 tp_o32
        have hR := hR.up y1 (by decide) k175
        have hU : mo_U (mo_R g27) (mo_R (upd g27 z171.toNatClampNeg z173)) (547 + 84 * qs + 5) (z173.toInt) := mo_up (by omega) (rfl : z173.toInt = _) (by omega)
        generalize (upd g27 z171.toNatClampNeg z173) = g177 at g176 hU
        have hI := mo_w_VAP hI hU qs (by omega) (by omega) (by omega)
        have hKN := hKN.up hU (Or.inl (by omega))
        have pn178 : mo_R g177 (1) = n1 := (hU.ne (by omega) (by omega)).trans en1.symm
        have pn179 : mo_R g177 (11) = n11 := (hU.ne (by omega) (by omega)).trans en11.symm
        have pn180 : mo_R g177 (547 + 84 * qs + 4) = z167.toInt := (hU.ne (by omega) (by omega)).trans (jz167).symm
        have pn181 : mo_R g177 (547 + 84 * qs + 5) = z173.toInt := hU.eq (by omega)
        refine lv_aload_n hx hb dX12_burn_102 rfl (lv_at hl 3 rfl) ?_
        refine lv_iload_n hx hb dX12_burn_103 rfl (lv_at hl 4 rfl) ?_
        refine lv_iload hx hb dX12_burn_104 (lv_at hl 0 rfl) ?_
        have hf_182 : f174 h0 = .inr (12, [.int o28_x0, .int o28_x1, .ref (ρ h0 2), .ref (ρ h0 3), .ref (ρ h0 4), .ref (ρ h0 5), .ref (ρ h0 6), .int o28_x7, .ref (ρ h0 8), .int o28_x9, .int o28_x10, .int o28_x11, .int o28_x12, .long o28_x13, .int o28_x14, .int o28_x15, .int o28_x16, .int o28_x17, .int o28_x18, .int o28_x19, .int o28_x20, .ref (ρ h0 21), .int o28_x22, .ref (ρ h0 23), .ref (ρ h0 24), .int o28_x25, .ref (ρ h0 26), .ref (ρ h0 27), .int o28_x28, .int o28_x29, .ref (ρ h0 30), .ref (ρ h0 31), .int o28_x32, .long o28_x33, .long o28_x34, .long o28_x35, .int o28_x36, .int o28_x37, .int o28_x38, .ref (ρ h0 39), .ref (ρ h0 40), .ref (ρ h0 41), .ref (ρ h0 42), .ref (ρ h0 43), .ref (ρ h0 44), .ref (ρ h0 45), .ref (ρ h0 46), .int o28_x47, .int o28_x48, .ref (ρ h0 49), .ref (ρ h0 50), .ref (ρ h0 51), .ref (ρ h0 52)]) := (k175 _ (tp_ne ht_h0 y1 (by decide))).trans hf_o28
        refine tpk_pos (tp_in hG ht_h0 (by decide)) hf_182 (fun q183 eq183 => ?_)
        have hFc := tp_fr hD hS hA
        refine va_callv (va_runV (As := [.int us, .int z170]) (rest := []) ⟨hx, hb, hml, hown, hts⟩ (t_X12_take l dC dI _ κ Θ τ ν ρ L f174 hG hT h0 us z170 x b qs ht_h0 (by omega) (by omega) (by omega) (by rw [g176, mo_i1]; exact hI) (by first | (simp only [g176, hf_o26, mo_i1]; omega) | (simp only [g176, hf_o26, mo_i1]; trivial) | (simp only [g176, hf_o26, mo_i1]; done) | omega) (by first | (simp only [g176, hf_o26, mo_i1]; omega) | (simp only [g176, hf_o26, mo_i1]; trivial) | (simp only [g176, hf_o26, mo_i1]; done) | omega)) (cwV 2 hts gX12_burn_X12_take rfl rfl rfl ⟨rfl, pd_X12_take⟩ ⟨Nat.le_of_ble_eq_true rfl, Nat.le_of_ble_eq_true rfl⟩) ⟨pz_blind, va_recv hK hP (ci := 12) (q0 := q183) rfl eq183, pz_pre hP hK hD hN⟩ rfl rfl hl.1 rfl (lv_room (Nat.le_of_ble_eq_true rfl)) dX12_burn_106 ⟨Nat.le_of_ble_eq_true rfl, Nat.le_of_ble_eq_true rfl⟩) hS (fun q _ h => hFc q h) hFc (fun f186 t H1 locs ht hvm hw185 hB hz1 hk1 hS => ?_)
        refine tn_3 hw185 (fun hT hF187 hw185p => ?_); clear hw185
        have hR := hR.then hF187 (by decide)
        have hP := hB.1; rw [ht] at hP; have hD := tp_ad f186 hD; clear hB hFc hz1 hk1; subst ht; generalize t.heap = H at hP hS ⊢
        obtain ⟨hJ, hw185pe⟩ := hw185p
        refine tpk_32 hT y1 (fun g189 hf_o188 => ?_)
        have hI : mo_RI x b (mo_R g189) := by have q9 := hJ; rw [hf_o188, mo_i1] at q9; exact q9
        rw [g176, mo_i1] at hw185pe
        rw [hf_o188, mo_i1] at hw185pe
        obtain ⟨hw185pek, hw185peq⟩ := hw185pe
        have hKN := hKN.th hw185pek (fun k q9 => False.elim q9)
        have pn190 : mo_R g189 (1) = n1 := (hw185peq.1).trans pn178
        have pn191 : mo_R g189 (11) = n11 := (hw185peq.2.1).trans pn179
        have pn192 : mo_R g189 (547 + 84 * qs + 5) = z173.toInt := (hw185peq.2.2.2).trans pn181
        refine lv_aload_n hx hb dX12_burn_109 rfl (lv_at hl 3 rfl) ?_
        have hf_193 : f186 h0 = .inr (12, [.int o28_x0, .int o28_x1, .ref (ρ h0 2), .ref (ρ h0 3), .ref (ρ h0 4), .ref (ρ h0 5), .ref (ρ h0 6), .int o28_x7, .ref (ρ h0 8), .int o28_x9, .int o28_x10, .int o28_x11, .int o28_x12, .long o28_x13, .int o28_x14, .int o28_x15, .int o28_x16, .int o28_x17, .int o28_x18, .int o28_x19, .int o28_x20, .ref (ρ h0 21), .int o28_x22, .ref (ρ h0 23), .ref (ρ h0 24), .int o28_x25, .ref (ρ h0 26), .ref (ρ h0 27), .int o28_x28, .int o28_x29, .ref (ρ h0 30), .ref (ρ h0 31), .int o28_x32, .long o28_x33, .long o28_x34, .long o28_x35, .int o28_x36, .int o28_x37, .int o28_x38, .ref (ρ h0 39), .ref (ρ h0 40), .ref (ρ h0 41), .ref (ρ h0 42), .ref (ρ h0 43), .ref (ρ h0 44), .ref (ρ h0 45), .ref (ρ h0 46), .int o28_x47, .int o28_x48, .ref (ρ h0 49), .ref (ρ h0 50), .ref (ρ h0 51), .ref (ρ h0 52)]) := (hF187 _ (by rw [ht_h0]; decide)).trans hf_182
        refine tpk_pos (tp_in hG ht_h0 (by decide)) hf_193 (fun q194 eq194 => ?_)
        refine va_get (D := (dC, dI)) (ci := 12) (v := .ref (ρ h0 2)) (C := RX12) (T := TX12) (N := 53) hx hb hts hfX12 hown hK hP q194 eq194 rfl 2 (by decide) (hts (.fieldLink RX12 7 "ColdShipsModel" "row" "[I") wa_148) (fun _ h9 => h9) rfl dX12_burn_110 ?_
        refine lv_iload_n hx hb dX12_burn_113 rfl (lv_at hl 4 rfl) ?_
        refine lv_bipush (v := 12) hx hb dX12_burn_114 (by decide) ?_
        refine lv_iadd hx hb dX12_burn_116 ?_
        refine lv_topi (fun z195 ez195 => ?_)
        have iz195 : z195.toInt = us.toInt + 12 := zi_add ez195 rfl rfl (by omega) (by omega)
        refine lv_iconst (v := 1) hx hb dX12_burn_117 (by decide) ?_
        refine lv_iadd hx hb dX12_burn_118 ?_
        refine lv_topi (fun z196 ez196 => ?_)
        have iz196 : z196.toInt = z195.toInt + 1 := zi_add ez196 rfl rfl (by omega) (by omega)
        refine lv_dup2_11 hx hb dX12_burn_119 rfl rfl ?_
        refine tpk_pos (tp_in hG y1 (by decide)) hf_o188 (fun q197 eq197 => ?_)
        refine va_iald hx hb hK hP q197 0 eq197 rfl (vp_in_iff.mpr ⟨by omega, by omega⟩) dX12_burn_120 ?_
        refine lv_topi (fun z198 ez198 => ?_)
        refine lv_iload_n hx hb dX12_burn_121 rfl (lv_at hl 1 rfl) ?_
        refine lv_iload hx hb dX12_burn_122 (lv_at hl 0 rfl) ?_
        refine lv_iadd hx hb dX12_burn_124 ?_
        refine lv_topi (fun z199 ez199 => ?_)
        have iz199 : z199.toInt = z36.toInt + z170.toInt := zi_add ez199 rfl rfl (by omega) (by omega)
        refine lv_iadd hx hb dX12_burn_125 ?_
        refine lv_topi (fun z200 ez200 => ?_)
        refine va_iast hx hb hK hP hD hS q197 0 eq197 rfl (vp_in_iff.mpr ⟨by omega, by omega⟩) dX12_burn_126 (tp_k (.inl (κ 0, 12967, .inl (upd g189 z196.toNatClampNeg z200))) hD (tp_in hG y1 (by decide)) eq197 (fun f201 H locs hP hD hS g203 k202 => ?_))
        have hT := hT.up y1 g203 k202 tp_o32
        have hR := hR.up y1 (by decide) k202
        have hU : mo_U (mo_R g189) (mo_R (upd g189 z196.toNatClampNeg z200)) (547 + 84 * qs + 13) (z200.toInt) := mo_up (by omega) (rfl : z200.toInt = _) (by omega)
        generalize (upd g189 z196.toNatClampNeg z200) = g204 at g203 hU
        have hI := mo_w_sfree hI hU qs 13 (by omega) (by omega) (by omega)
        have hKN := hKN.up hU (Or.inl (by omega))
        have pn205 : mo_R g204 (1) = n1 := (hU.ne (by omega) (by omega)).trans pn190
        have pn206 : mo_R g204 (11) = n11 := (hU.ne (by omega) (by omega)).trans pn191
        have pn207 : mo_R g204 (547 + 84 * qs + 5) = z173.toInt := (hU.ne (by omega) (by omega)).trans pn192
        refine lv_aload_n hx hb dX12_burn_127 rfl (lv_at hl 3 rfl) ?_
        have hf_208 : f201 h0 = .inr (12, [.int o28_x0, .int o28_x1, .ref (ρ h0 2), .ref (ρ h0 3), .ref (ρ h0 4), .ref (ρ h0 5), .ref (ρ h0 6), .int o28_x7, .ref (ρ h0 8), .int o28_x9, .int o28_x10, .int o28_x11, .int o28_x12, .long o28_x13, .int o28_x14, .int o28_x15, .int o28_x16, .int o28_x17, .int o28_x18, .int o28_x19, .int o28_x20, .ref (ρ h0 21), .int o28_x22, .ref (ρ h0 23), .ref (ρ h0 24), .int o28_x25, .ref (ρ h0 26), .ref (ρ h0 27), .int o28_x28, .int o28_x29, .ref (ρ h0 30), .ref (ρ h0 31), .int o28_x32, .long o28_x33, .long o28_x34, .long o28_x35, .int o28_x36, .int o28_x37, .int o28_x38, .ref (ρ h0 39), .ref (ρ h0 40), .ref (ρ h0 41), .ref (ρ h0 42), .ref (ρ h0 43), .ref (ρ h0 44), .ref (ρ h0 45), .ref (ρ h0 46), .int o28_x47, .int o28_x48, .ref (ρ h0 49), .ref (ρ h0 50), .ref (ρ h0 51), .ref (ρ h0 52)]) := (k202 _ (tp_ne ht_h0 y1 (by decide))).trans hf_193
        refine tpk_pos (tp_in hG ht_h0 (by decide)) hf_208 (fun q209 eq209 => ?_)
        refine va_get (D := (dC, dI)) (ci := 12) (v := .ref (ρ h0 2)) (C := RX12) (T := TX12) (N := 53) hx hb hts hfX12 hown hK hP q209 eq209 rfl 2 (by decide) (hts (.fieldLink RX12 7 "ColdShipsModel" "row" "[I") wa_148) (fun _ h9 => h9) rfl dX12_burn_128 ?_
        refine lv_iload_n hx hb dX12_burn_131 rfl (lv_at hl 4 rfl) ?_
        refine lv_bipush (v := 9) hx hb dX12_burn_132 (by decide) ?_
        refine lv_iadd hx hb dX12_burn_134 ?_
        refine lv_topi (fun z210 ez210 => ?_)
        have iz210 : z210.toInt = us.toInt + 9 := zi_add ez210 rfl rfl (by omega) (by omega)
        refine lv_iload_n hx hb dX12_burn_135 rfl (lv_at hl 1 rfl) ?_
        refine lv_iload hx hb dX12_burn_136 (lv_at hl 0 rfl) ?_
        refine lv_iadd hx hb dX12_burn_138 ?_
        refine lv_topi (fun z211 ez211 => ?_)
        have iz211 : z211.toInt = z36.toInt + z170.toInt := zi_add ez211 rfl rfl (by omega) (by omega)
        refine lv_iload_n hx hb dX12_burn_139 rfl (lv_at hl 2 rfl) ?_
        refine lv_icmp_ge (tgt := 147) hx hb dX12_burn_140 (by decide) (fun c212 => ?_) (fun c212 => ?_)
        · have ic212 : z211.toInt ≥ z36.toInt := zi_ge rfl rfl c212
          refine lv_iconst (v := 0) hx hb dX12_burn_147 (by decide) ?_
          refine tpk_pos (tp_in hG y1 (by decide)) g203 (fun q213 eq213 => ?_)
          refine va_iast hx hb hK hP hD hS q213 0 eq213 rfl (vp_in_iff.mpr ⟨by omega, by omega⟩) dX12_burn_148 (tp_k (.inl (κ 0, 12967, .inl (upd g204 z210.toNatClampNeg (0 : Int32)))) hD (tp_in hG y1 (by decide)) eq213 (fun f214 H locs hP hD hS g216 k215 => ?_))
          have hT := hT.up y1 g216 k215 tp_o32
          have hR := hR.up y1 (by decide) k215
          have hU : mo_U (mo_R g204) (mo_R (upd g204 z210.toNatClampNeg (0 : Int32))) (547 + 84 * qs + 9) (0) := mo_up (by omega) (show (0 : Int32).toInt = 0 from rfl) (by omega)
          generalize (upd g204 z210.toNatClampNeg (0 : Int32)) = g217 at g216 hU
          have hI := mo_w_sfree hI hU qs 9 (by omega) (by omega) (by omega)
          have hKN := hKN.up hU (Or.inl (by omega))
          have pn218 : mo_R g217 (1) = n1 := (hU.ne (by omega) (by omega)).trans pn205
          have pn219 : mo_R g217 (11) = n11 := (hU.ne (by omega) (by omega)).trans pn206
          have pn220 : mo_R g217 (547 + 84 * qs + 5) = z173.toInt := (hU.ne (by omega) (by omega)).trans pn207
          exact W.vret hx hb hr (fun t ht hW => ⟨⟨f214, rfl, ⟨hT, hR, ⟨(by rw [g216, mo_i1]; exact hI), (by rw [g216, mo_i1, hf_o26, mo_i1]; exact hKN), (by first | (simp only [g216, hf_o26, mo_i1]; omega) | (simp only [g216, hf_o26, mo_i1]; trivial) | (simp only [g216, hf_o26, mo_i1]; done) | omega)⟩⟩, by rw [ht]; exact hP, va_K.moved hW.alike hK, hD⟩, hS.F ht⟩) hS.2.2 dX12_burn_149
        · have ic212 : z211.toInt < z36.toInt := zi_gef rfl rfl c212
          refine lv_iconst (v := 1) hx hb dX12_burn_143 (by decide) ?_
          refine lv_goto (tgt := 148) hx hb dX12_burn_144 (by decide) ?_
          refine tpk_pos (tp_in hG y1 (by decide)) g203 (fun q221 eq221 => ?_)
          refine va_iast hx hb hK hP hD hS q221 0 eq221 rfl (vp_in_iff.mpr ⟨by omega, by omega⟩) dX12_burn_148 (tp_k (.inl (κ 0, 12967, .inl (upd g204 z210.toNatClampNeg (1 : Int32)))) hD (tp_in hG y1 (by decide)) eq221 (fun f222 H locs hP hD hS g224 k223 => ?_))
          have hT := hT.up y1 g224 k223 tp_o32
          have hR := hR.up y1 (by decide) k223
          have hU : mo_U (mo_R g204) (mo_R (upd g204 z210.toNatClampNeg (1 : Int32))) (547 + 84 * qs + 9) (1) := mo_up (by omega) (show (1 : Int32).toInt = 1 from rfl) (by omega)
          generalize (upd g204 z210.toNatClampNeg (1 : Int32)) = g225 at g224 hU
          have hI := mo_w_sfree hI hU qs 9 (by omega) (by omega) (by omega)
          have hKN := hKN.up hU (Or.inl (by omega))
          have pn226 : mo_R g225 (1) = n1 := (hU.ne (by omega) (by omega)).trans pn205
          have pn227 : mo_R g225 (11) = n11 := (hU.ne (by omega) (by omega)).trans pn206
          have pn228 : mo_R g225 (547 + 84 * qs + 5) = z173.toInt := (hU.ne (by omega) (by omega)).trans pn207
          exact W.vret hx hb hr (fun t ht hW => ⟨⟨f222, rfl, ⟨hT, hR, ⟨(by rw [g224, mo_i1]; exact hI), (by rw [g224, mo_i1, hf_o26, mo_i1]; exact hKN), (by first | (simp only [g224, hf_o26, mo_i1]; omega) | (simp only [g224, hf_o26, mo_i1]; trivial) | (simp only [g224, hf_o26, mo_i1]; done) | omega)⟩⟩, by rw [ht]; exact hP, va_K.moved hW.alike hK, hD⟩, hS.F ht⟩) hS.2.2 dX12_burn_149
      · have ic168 : z165.toInt < z167.toInt := zi_gef rfl rfl c168
        refine lv_iload_n hx hb dX12_burn_74 rfl (lv_at hl 1 rfl) ?_
        refine lv_iload_n hx hb dX12_burn_75 rfl (lv_at hl 0 rfl) ?_
        refine lv_isub hx hb dX12_burn_76 ?_
        refine lv_topi (fun z229 ez229 => ?_)
        have iz229 : z229.toInt = z36.toInt - z36.toInt := zi_sub ez229 rfl rfl (by omega) (by omega)
        refine lv_goto (tgt := 88) hx hb dX12_burn_77 (by decide) ?_
        refine lv_istore (lv' := [(4, .int z229), (3, .int z36), (2, .int z36), (0, .ref h0), (1, .int us)]) hx hb dX12_burn_88 hl (by decide) rfl (fun ls hl => ?_)
        refine lv_aload_n hx hb dX12_burn_90 rfl (lv_at hl 3 rfl) ?_
        refine va_get (D := (dC, dI)) (ci := 12) (v := .ref (ρ h0 2)) (C := RX12) (T := TX12) (N := 53) hx hb hts hfX12 hown hK hP q29 eq29 rfl 2 (by decide) (hts (.fieldLink RX12 7 "ColdShipsModel" "row" "[I") wa_148) (fun _ h9 => h9) rfl dX12_burn_91 ?_
        refine lv_iload_n hx hb dX12_burn_94 rfl (lv_at hl 4 rfl) ?_
        refine lv_iconst (v := 5) hx hb dX12_burn_95 (by decide) ?_
        refine lv_iadd hx hb dX12_burn_96 ?_
        refine lv_topi (fun z230 ez230 => ?_)
        have iz230 : z230.toInt = us.toInt + 5 := zi_add ez230 rfl rfl (by omega) (by omega)
        refine lv_dup2_11 hx hb dX12_burn_97 rfl rfl ?_
        refine va_iald hx hb hK hP q31 0 eq31 rfl (vp_in_iff.mpr ⟨by omega, by omega⟩) dX12_burn_98 ?_
        refine lv_topi (fun z231 ez231 => ?_)
        have jz231 : z231.toInt = mo_R g27 (547 + 84 * qs + 5) := mo_rd ez231 (by omega)
        have kz231 := hI.V (s := qs) (by omega) (by omega)
        have vz231 : z231.toInt = z38.toInt := jz231.trans (jz38).symm
        refine lv_iload_n hx hb dX12_burn_99 rfl (lv_at hl 1 rfl) ?_
        refine lv_isub hx hb dX12_burn_100 ?_
        refine lv_topi (fun z232 ez232 => ?_)
        have iz232 : z232.toInt = z231.toInt - z36.toInt := zi_sub ez232 rfl rfl (by omega) (by omega)
        refine va_iast hx hb hK hP hD hS q31 0 eq31 rfl (vp_in_iff.mpr ⟨by omega, by omega⟩) dX12_burn_101 (tp_k (.inl (κ 0, 12967, .inl (upd g27 z230.toNatClampNeg z232))) hD (tp_in hG y1 (by decide)) eq31 (fun f233 H locs hP hD hS g235 k234 => ?_))
        have hT := hT.up y1 g235 k234 tp_o32
        have hR := hR.up y1 (by decide) k234
        have hU : mo_U (mo_R g27) (mo_R (upd g27 z230.toNatClampNeg z232)) (547 + 84 * qs + 5) (z232.toInt) := mo_up (by omega) (rfl : z232.toInt = _) (by omega)
        generalize (upd g27 z230.toNatClampNeg z232) = g236 at g235 hU
        have hI := mo_w_VAP hI hU qs (by omega) (by omega) (by omega)
        have hKN := hKN.up hU (Or.inl (by omega))
        have pn237 : mo_R g236 (1) = n1 := (hU.ne (by omega) (by omega)).trans en1.symm
        have pn238 : mo_R g236 (11) = n11 := (hU.ne (by omega) (by omega)).trans en11.symm
        have pn239 : mo_R g236 (547 + 84 * qs + 4) = z167.toInt := (hU.ne (by omega) (by omega)).trans (jz167).symm
        have pn240 : mo_R g236 (547 + 84 * qs + 5) = z232.toInt := hU.eq (by omega)
        refine lv_aload_n hx hb dX12_burn_102 rfl (lv_at hl 3 rfl) ?_
        refine lv_iload_n hx hb dX12_burn_103 rfl (lv_at hl 4 rfl) ?_
        refine lv_iload hx hb dX12_burn_104 (lv_at hl 0 rfl) ?_
        have hf_241 : f233 h0 = .inr (12, [.int o28_x0, .int o28_x1, .ref (ρ h0 2), .ref (ρ h0 3), .ref (ρ h0 4), .ref (ρ h0 5), .ref (ρ h0 6), .int o28_x7, .ref (ρ h0 8), .int o28_x9, .int o28_x10, .int o28_x11, .int o28_x12, .long o28_x13, .int o28_x14, .int o28_x15, .int o28_x16, .int o28_x17, .int o28_x18, .int o28_x19, .int o28_x20, .ref (ρ h0 21), .int o28_x22, .ref (ρ h0 23), .ref (ρ h0 24), .int o28_x25, .ref (ρ h0 26), .ref (ρ h0 27), .int o28_x28, .int o28_x29, .ref (ρ h0 30), .ref (ρ h0 31), .int o28_x32, .long o28_x33, .long o28_x34, .long o28_x35, .int o28_x36, .int o28_x37, .int o28_x38, .ref (ρ h0 39), .ref (ρ h0 40), .ref (ρ h0 41), .ref (ρ h0 42), .ref (ρ h0 43), .ref (ρ h0 44), .ref (ρ h0 45), .ref (ρ h0 46), .int o28_x47, .int o28_x48, .ref (ρ h0 49), .ref (ρ h0 50), .ref (ρ h0 51), .ref (ρ h0 52)]) := (k234 _ (tp_ne ht_h0 y1 (by decide))).trans hf_o28
        refine tpk_pos (tp_in hG ht_h0 (by decide)) hf_241 (fun q242 eq242 => ?_)
        have hFc := tp_fr hD hS hA
        refine va_callv (va_runV (As := [.int us, .int z229]) (rest := []) ⟨hx, hb, hml, hown, hts⟩ (t_X12_take l dC dI _ κ Θ τ ν ρ L f233 hG hT h0 us z229 x b qs ht_h0 (by omega) (by omega) (by omega) (by rw [g235, mo_i1]; exact hI) (by first | (simp only [g235, hf_o26, mo_i1]; omega) | (simp only [g235, hf_o26, mo_i1]; trivial) | (simp only [g235, hf_o26, mo_i1]; done) | omega) (by first | (simp only [g235, hf_o26, mo_i1]; omega) | (simp only [g235, hf_o26, mo_i1]; trivial) | (simp only [g235, hf_o26, mo_i1]; done) | omega)) (cwV 2 hts gX12_burn_X12_take rfl rfl rfl ⟨rfl, pd_X12_take⟩ ⟨Nat.le_of_ble_eq_true rfl, Nat.le_of_ble_eq_true rfl⟩) ⟨pz_blind, va_recv hK hP (ci := 12) (q0 := q242) rfl eq242, pz_pre hP hK hD hN⟩ rfl rfl hl.1 rfl (lv_room (Nat.le_of_ble_eq_true rfl)) dX12_burn_106 ⟨Nat.le_of_ble_eq_true rfl, Nat.le_of_ble_eq_true rfl⟩) hS (fun q _ h => hFc q h) hFc (fun f245 t H1 locs ht hvm hw244 hB hz1 hk1 hS => ?_)
        refine tn_3 hw244 (fun hT hF246 hw244p => ?_); clear hw244
        have hR := hR.then hF246 (by decide)
        have hP := hB.1; rw [ht] at hP; have hD := tp_ad f245 hD; clear hB hFc hz1 hk1; subst ht; generalize t.heap = H at hP hS ⊢
        obtain ⟨hJ, hw244pe⟩ := hw244p
        refine tpk_32 hT y1 (fun g248 hf_o247 => ?_)
        have hI : mo_RI x b (mo_R g248) := by have q9 := hJ; rw [hf_o247, mo_i1] at q9; exact q9
        rw [g235, mo_i1] at hw244pe
        rw [hf_o247, mo_i1] at hw244pe
        obtain ⟨hw244pek, hw244peq⟩ := hw244pe
        have hKN := hKN.th hw244pek (fun k q9 => False.elim q9)
        have pn249 : mo_R g248 (1) = n1 := (hw244peq.1).trans pn237
        have pn250 : mo_R g248 (11) = n11 := (hw244peq.2.1).trans pn238
        have pn251 : mo_R g248 (547 + 84 * qs + 5) = z232.toInt := (hw244peq.2.2.2).trans pn240
        refine lv_aload_n hx hb dX12_burn_109 rfl (lv_at hl 3 rfl) ?_
        have hf_252 : f245 h0 = .inr (12, [.int o28_x0, .int o28_x1, .ref (ρ h0 2), .ref (ρ h0 3), .ref (ρ h0 4), .ref (ρ h0 5), .ref (ρ h0 6), .int o28_x7, .ref (ρ h0 8), .int o28_x9, .int o28_x10, .int o28_x11, .int o28_x12, .long o28_x13, .int o28_x14, .int o28_x15, .int o28_x16, .int o28_x17, .int o28_x18, .int o28_x19, .int o28_x20, .ref (ρ h0 21), .int o28_x22, .ref (ρ h0 23), .ref (ρ h0 24), .int o28_x25, .ref (ρ h0 26), .ref (ρ h0 27), .int o28_x28, .int o28_x29, .ref (ρ h0 30), .ref (ρ h0 31), .int o28_x32, .long o28_x33, .long o28_x34, .long o28_x35, .int o28_x36, .int o28_x37, .int o28_x38, .ref (ρ h0 39), .ref (ρ h0 40), .ref (ρ h0 41), .ref (ρ h0 42), .ref (ρ h0 43), .ref (ρ h0 44), .ref (ρ h0 45), .ref (ρ h0 46), .int o28_x47, .int o28_x48, .ref (ρ h0 49), .ref (ρ h0 50), .ref (ρ h0 51), .ref (ρ h0 52)]) := (hF246 _ (by rw [ht_h0]; decide)).trans hf_241
        refine tpk_pos (tp_in hG ht_h0 (by decide)) hf_252 (fun q253 eq253 => ?_)
        refine va_get (D := (dC, dI)) (ci := 12) (v := .ref (ρ h0 2)) (C := RX12) (T := TX12) (N := 53) hx hb hts hfX12 hown hK hP q253 eq253 rfl 2 (by decide) (hts (.fieldLink RX12 7 "ColdShipsModel" "row" "[I") wa_148) (fun _ h9 => h9) rfl dX12_burn_110 ?_
        refine lv_iload_n hx hb dX12_burn_113 rfl (lv_at hl 4 rfl) ?_
        refine lv_bipush (v := 12) hx hb dX12_burn_114 (by decide) ?_
        refine lv_iadd hx hb dX12_burn_116 ?_
        refine lv_topi (fun z254 ez254 => ?_)
        have iz254 : z254.toInt = us.toInt + 12 := zi_add ez254 rfl rfl (by omega) (by omega)
        refine lv_iconst (v := 1) hx hb dX12_burn_117 (by decide) ?_
        refine lv_iadd hx hb dX12_burn_118 ?_
        refine lv_topi (fun z255 ez255 => ?_)
        have iz255 : z255.toInt = z254.toInt + 1 := zi_add ez255 rfl rfl (by omega) (by omega)
        refine lv_dup2_11 hx hb dX12_burn_119 rfl rfl ?_
        refine tpk_pos (tp_in hG y1 (by decide)) hf_o247 (fun q256 eq256 => ?_)
        refine va_iald hx hb hK hP q256 0 eq256 rfl (vp_in_iff.mpr ⟨by omega, by omega⟩) dX12_burn_120 ?_
        refine lv_topi (fun z257 ez257 => ?_)
        refine lv_iload_n hx hb dX12_burn_121 rfl (lv_at hl 1 rfl) ?_
        refine lv_iload hx hb dX12_burn_122 (lv_at hl 0 rfl) ?_
        refine lv_iadd hx hb dX12_burn_124 ?_
        refine lv_topi (fun z258 ez258 => ?_)
        have iz258 : z258.toInt = z36.toInt + z229.toInt := zi_add ez258 rfl rfl (by omega) (by omega)
        refine lv_iadd hx hb dX12_burn_125 ?_
        refine lv_topi (fun z259 ez259 => ?_)
        refine va_iast hx hb hK hP hD hS q256 0 eq256 rfl (vp_in_iff.mpr ⟨by omega, by omega⟩) dX12_burn_126 (tp_k (.inl (κ 0, 12967, .inl (upd g248 z255.toNatClampNeg z259))) hD (tp_in hG y1 (by decide)) eq256 (fun f260 H locs hP hD hS g262 k261 => ?_))
        have hT := hT.up y1 g262 k261 tp_o32
        have hR := hR.up y1 (by decide) k261
        have hU : mo_U (mo_R g248) (mo_R (upd g248 z255.toNatClampNeg z259)) (547 + 84 * qs + 13) (z259.toInt) := mo_up (by omega) (rfl : z259.toInt = _) (by omega)
        generalize (upd g248 z255.toNatClampNeg z259) = g263 at g262 hU
        have hI := mo_w_sfree hI hU qs 13 (by omega) (by omega) (by omega)
        have hKN := hKN.up hU (Or.inl (by omega))
        have pn264 : mo_R g263 (1) = n1 := (hU.ne (by omega) (by omega)).trans pn249
        have pn265 : mo_R g263 (11) = n11 := (hU.ne (by omega) (by omega)).trans pn250
        have pn266 : mo_R g263 (547 + 84 * qs + 5) = z232.toInt := (hU.ne (by omega) (by omega)).trans pn251
        refine lv_aload_n hx hb dX12_burn_127 rfl (lv_at hl 3 rfl) ?_
        have hf_267 : f260 h0 = .inr (12, [.int o28_x0, .int o28_x1, .ref (ρ h0 2), .ref (ρ h0 3), .ref (ρ h0 4), .ref (ρ h0 5), .ref (ρ h0 6), .int o28_x7, .ref (ρ h0 8), .int o28_x9, .int o28_x10, .int o28_x11, .int o28_x12, .long o28_x13, .int o28_x14, .int o28_x15, .int o28_x16, .int o28_x17, .int o28_x18, .int o28_x19, .int o28_x20, .ref (ρ h0 21), .int o28_x22, .ref (ρ h0 23), .ref (ρ h0 24), .int o28_x25, .ref (ρ h0 26), .ref (ρ h0 27), .int o28_x28, .int o28_x29, .ref (ρ h0 30), .ref (ρ h0 31), .int o28_x32, .long o28_x33, .long o28_x34, .long o28_x35, .int o28_x36, .int o28_x37, .int o28_x38, .ref (ρ h0 39), .ref (ρ h0 40), .ref (ρ h0 41), .ref (ρ h0 42), .ref (ρ h0 43), .ref (ρ h0 44), .ref (ρ h0 45), .ref (ρ h0 46), .int o28_x47, .int o28_x48, .ref (ρ h0 49), .ref (ρ h0 50), .ref (ρ h0 51), .ref (ρ h0 52)]) := (k261 _ (tp_ne ht_h0 y1 (by decide))).trans hf_252
        refine tpk_pos (tp_in hG ht_h0 (by decide)) hf_267 (fun q268 eq268 => ?_)
        refine va_get (D := (dC, dI)) (ci := 12) (v := .ref (ρ h0 2)) (C := RX12) (T := TX12) (N := 53) hx hb hts hfX12 hown hK hP q268 eq268 rfl 2 (by decide) (hts (.fieldLink RX12 7 "ColdShipsModel" "row" "[I") wa_148) (fun _ h9 => h9) rfl dX12_burn_128 ?_
        refine lv_iload_n hx hb dX12_burn_131 rfl (lv_at hl 4 rfl) ?_
        refine lv_bipush (v := 9) hx hb dX12_burn_132 (by decide) ?_
        refine lv_iadd hx hb dX12_burn_134 ?_
        refine lv_topi (fun z269 ez269 => ?_)
        have iz269 : z269.toInt = us.toInt + 9 := zi_add ez269 rfl rfl (by omega) (by omega)
        refine lv_iload_n hx hb dX12_burn_135 rfl (lv_at hl 1 rfl) ?_
        refine lv_iload hx hb dX12_burn_136 (lv_at hl 0 rfl) ?_
        refine lv_iadd hx hb dX12_burn_138 ?_
        refine lv_topi (fun z270 ez270 => ?_)
        have iz270 : z270.toInt = z36.toInt + z229.toInt := zi_add ez270 rfl rfl (by omega) (by omega)
        refine lv_iload_n hx hb dX12_burn_139 rfl (lv_at hl 2 rfl) ?_
        refine lv_icmp_ge (tgt := 147) hx hb dX12_burn_140 (by decide) (fun c271 => ?_) (fun c271 => ?_)
        · have ic271 : z270.toInt ≥ z36.toInt := zi_ge rfl rfl c271
          refine lv_iconst (v := 0) hx hb dX12_burn_147 (by decide) ?_
          refine tpk_pos (tp_in hG y1 (by decide)) g262 (fun q272 eq272 => ?_)
          refine va_iast hx hb hK hP hD hS q272 0 eq272 rfl (vp_in_iff.mpr ⟨by omega, by omega⟩) dX12_burn_148 (tp_k (.inl (κ 0, 12967, .inl (upd g263 z269.toNatClampNeg (0 : Int32)))) hD (tp_in hG y1 (by decide)) eq272 (fun f273 H locs hP hD hS g275 k274 => ?_))
          have hT := hT.up y1 g275 k274 tp_o32
          have hR := hR.up y1 (by decide) k274
          have hU : mo_U (mo_R g263) (mo_R (upd g263 z269.toNatClampNeg (0 : Int32))) (547 + 84 * qs + 9) (0) := mo_up (by omega) (show (0 : Int32).toInt = 0 from rfl) (by omega)
          generalize (upd g263 z269.toNatClampNeg (0 : Int32)) = g276 at g275 hU
          have hI := mo_w_sfree hI hU qs 9 (by omega) (by omega) (by omega)
          have hKN := hKN.up hU (Or.inl (by omega))
          have pn277 : mo_R g276 (1) = n1 := (hU.ne (by omega) (by omega)).trans pn264
          have pn278 : mo_R g276 (11) = n11 := (hU.ne (by omega) (by omega)).trans pn265
          have pn279 : mo_R g276 (547 + 84 * qs + 5) = z232.toInt := (hU.ne (by omega) (by omega)).trans pn266
          exact W.vret hx hb hr (fun t ht hW => ⟨⟨f273, rfl, ⟨hT, hR, ⟨(by rw [g275, mo_i1]; exact hI), (by rw [g275, mo_i1, hf_o26, mo_i1]; exact hKN), (by first | (simp only [g275, hf_o26, mo_i1]; omega) | (simp only [g275, hf_o26, mo_i1]; trivial) | (simp only [g275, hf_o26, mo_i1]; done) | omega)⟩⟩, by rw [ht]; exact hP, va_K.moved hW.alike hK, hD⟩, hS.F ht⟩) hS.2.2 dX12_burn_149
        · have ic271 : z270.toInt < z36.toInt := zi_gef rfl rfl c271
          refine lv_iconst (v := 1) hx hb dX12_burn_143 (by decide) ?_
          refine lv_goto (tgt := 148) hx hb dX12_burn_144 (by decide) ?_
          refine tpk_pos (tp_in hG y1 (by decide)) g262 (fun q280 eq280 => ?_)
          refine va_iast hx hb hK hP hD hS q280 0 eq280 rfl (vp_in_iff.mpr ⟨by omega, by omega⟩) dX12_burn_148 (tp_k (.inl (κ 0, 12967, .inl (upd g263 z269.toNatClampNeg (1 : Int32)))) hD (tp_in hG y1 (by decide)) eq280 (fun f281 H locs hP hD hS g283 k282 => ?_))
          have hT := hT.up y1 g283 k282 tp_o32
          have hR := hR.up y1 (by decide) k282
          have hU : mo_U (mo_R g263) (mo_R (upd g263 z269.toNatClampNeg (1 : Int32))) (547 + 84 * qs + 9) (1) := mo_up (by omega) (show (1 : Int32).toInt = 1 from rfl) (by omega)
          generalize (upd g263 z269.toNatClampNeg (1 : Int32)) = g284 at g283 hU
          have hI := mo_w_sfree hI hU qs 9 (by omega) (by omega) (by omega)
          have hKN := hKN.up hU (Or.inl (by omega))
          have pn285 : mo_R g284 (1) = n1 := (hU.ne (by omega) (by omega)).trans pn264
          have pn286 : mo_R g284 (11) = n11 := (hU.ne (by omega) (by omega)).trans pn265
          have pn287 : mo_R g284 (547 + 84 * qs + 5) = z232.toInt := (hU.ne (by omega) (by omega)).trans pn266
          exact W.vret hx hb hr (fun t ht hW => ⟨⟨f281, rfl, ⟨hT, hR, ⟨(by rw [g283, mo_i1]; exact hI), (by rw [g283, mo_i1, hf_o26, mo_i1]; exact hKN), (by first | (simp only [g283, hf_o26, mo_i1]; omega) | (simp only [g283, hf_o26, mo_i1]; trivial) | (simp only [g283, hf_o26, mo_i1]; done) | omega)⟩⟩, by rw [ht]; exact hP, va_K.moved hW.alike hK, hD⟩, hS.F ht⟩) hS.2.2 dX12_burn_149
  · have ic33 : z32.toInt > 0 := zi_lef rfl rfl c33
    refine lv_aload_n hx hb dX12_burn_11 rfl (lv_at hl 0 rfl) ?_
    refine va_get (D := (dC, dI)) (ci := 12) (v := .ref (ρ h0 2)) (C := RX12) (T := TX12) (N := 53) hx hb hts hfX12 hown hK hP q29 eq29 rfl 2 (by decide) (hts (.fieldLink RX12 7 "ColdShipsModel" "row" "[I") wa_148) (fun _ h9 => h9) rfl dX12_burn_12 ?_
    refine lv_iload_n hx hb dX12_burn_15 rfl (lv_at hl 1 rfl) ?_
    refine lv_bipush (v := 8) hx hb dX12_burn_16 (by decide) ?_
    refine lv_iadd hx hb dX12_burn_18 ?_
    refine lv_topi (fun z288 ez288 => ?_)
    have iz288 : z288.toInt = us.toInt + 8 := zi_add ez288 rfl rfl (by omega) (by omega)
    refine va_iald hx hb hK hP q31 0 eq31 rfl (vp_in_iff.mpr ⟨by omega, by omega⟩) dX12_burn_19 ?_
    refine lv_topi (fun z289 ez289 => ?_)
    have jz289 : z289.toInt = mo_R g27 (547 + 84 * qs + 8) := mo_rd ez289 (by omega)
    have kz289 := hI.SF (s := qs) (by omega) (by omega)
    refine lv_goto (tgt := 34) hx hb dX12_burn_20 (by decide) ?_
    refine lv_istore_n (lv' := [(2, .int z289), (0, .ref h0), (1, .int us)]) hx hb dX12_burn_34 rfl hl (by decide) rfl (fun ls hl => ?_)
    refine lv_iload_n hx hb dX12_burn_35 rfl (lv_at hl 0 rfl) ?_
    refine lv_aload_n hx hb dX12_burn_36 rfl (lv_at hl 1 rfl) ?_
    refine va_get (D := (dC, dI)) (ci := 12) (v := .ref (ρ h0 2)) (C := RX12) (T := TX12) (N := 53) hx hb hts hfX12 hown hK hP q29 eq29 rfl 2 (by decide) (hts (.fieldLink RX12 7 "ColdShipsModel" "row" "[I") wa_148) (fun _ h9 => h9) rfl dX12_burn_37 ?_
    refine lv_iload_n hx hb dX12_burn_40 rfl (lv_at hl 2 rfl) ?_
    refine lv_iconst (v := 5) hx hb dX12_burn_41 (by decide) ?_
    refine lv_iadd hx hb dX12_burn_42 ?_
    refine lv_topi (fun z290 ez290 => ?_)
    have iz290 : z290.toInt = us.toInt + 5 := zi_add ez290 rfl rfl (by omega) (by omega)
    refine va_iald hx hb hK hP q31 0 eq31 rfl (vp_in_iff.mpr ⟨by omega, by omega⟩) dX12_burn_43 ?_
    refine lv_topi (fun z291 ez291 => ?_)
    have jz291 : z291.toInt = mo_R g27 (547 + 84 * qs + 5) := mo_rd ez291 (by omega)
    have kz291 := hI.V (s := qs) (by omega) (by omega)
    refine lv_icmp_ge (tgt := 51) hx hb dX12_burn_44 (by decide) (fun c292 => ?_) (fun c292 => ?_)
    · have ic292 : z289.toInt ≥ z291.toInt := zi_ge rfl rfl c292
      refine lv_aload_n hx hb dX12_burn_51 rfl (lv_at hl 1 rfl) ?_
      refine va_get (D := (dC, dI)) (ci := 12) (v := .ref (ρ h0 2)) (C := RX12) (T := TX12) (N := 53) hx hb hts hfX12 hown hK hP q29 eq29 rfl 2 (by decide) (hts (.fieldLink RX12 7 "ColdShipsModel" "row" "[I") wa_148) (fun _ h9 => h9) rfl dX12_burn_52 ?_
      refine lv_iload_n hx hb dX12_burn_55 rfl (lv_at hl 2 rfl) ?_
      refine lv_iconst (v := 5) hx hb dX12_burn_56 (by decide) ?_
      refine lv_iadd hx hb dX12_burn_57 ?_
      refine lv_topi (fun z293 ez293 => ?_)
      have iz293 : z293.toInt = us.toInt + 5 := zi_add ez293 rfl rfl (by omega) (by omega)
      refine va_iald hx hb hK hP q31 0 eq31 rfl (vp_in_iff.mpr ⟨by omega, by omega⟩) dX12_burn_58 ?_
      refine lv_topi (fun z294 ez294 => ?_)
      have jz294 : z294.toInt = mo_R g27 (547 + 84 * qs + 5) := mo_rd ez294 (by omega)
      have kz294 := hI.V (s := qs) (by omega) (by omega)
      have vz294 : z294.toInt = z291.toInt := jz294.trans (jz291).symm
      refine lv_istore_n (lv' := [(3, .int z294), (2, .int z289), (0, .ref h0), (1, .int us)]) hx hb dX12_burn_59 rfl hl (by decide) rfl (fun ls hl => ?_)
      refine lv_iload_n hx hb dX12_burn_60 rfl (lv_at hl 1 rfl) ?_
      refine lv_iload_n hx hb dX12_burn_61 rfl (lv_at hl 0 rfl) ?_
      refine lv_isub hx hb dX12_burn_62 ?_
      refine lv_topi (fun z295 ez295 => ?_)
      have iz295 : z295.toInt = z289.toInt - z294.toInt := zi_sub ez295 rfl rfl (by omega) (by omega)
      refine lv_aload_n hx hb dX12_burn_63 rfl (lv_at hl 2 rfl) ?_
      refine va_get (D := (dC, dI)) (ci := 12) (v := .ref (ρ h0 2)) (C := RX12) (T := TX12) (N := 53) hx hb hts hfX12 hown hK hP q29 eq29 rfl 2 (by decide) (hts (.fieldLink RX12 7 "ColdShipsModel" "row" "[I") wa_148) (fun _ h9 => h9) rfl dX12_burn_64 ?_
      refine lv_iload_n hx hb dX12_burn_67 rfl (lv_at hl 3 rfl) ?_
      refine lv_iconst (v := 4) hx hb dX12_burn_68 (by decide) ?_
      refine lv_iadd hx hb dX12_burn_69 ?_
      refine lv_topi (fun z296 ez296 => ?_)
      have iz296 : z296.toInt = us.toInt + 4 := zi_add ez296 rfl rfl (by omega) (by omega)
      refine va_iald hx hb hK hP q31 0 eq31 rfl (vp_in_iff.mpr ⟨by omega, by omega⟩) dX12_burn_70 ?_
      refine lv_topi (fun z297 ez297 => ?_)
      have := hI.GC (s := qs) (by omega) (by omega)
      have jz297 : z297.toInt = mo_R g27 (547 + 84 * qs + 4) := mo_rd ez297 (by omega)
      have kz297 := hI.GG (s := qs) (by omega) (by omega)
      refine lv_icmp_ge (tgt := 80) hx hb dX12_burn_71 (by decide) (fun c298 => ?_) (fun c298 => ?_)
      · have ic298 : z295.toInt ≥ z297.toInt := zi_ge rfl rfl c298
        refine lv_aload_n hx hb dX12_burn_80 rfl (lv_at hl 2 rfl) ?_
        refine va_get (D := (dC, dI)) (ci := 12) (v := .ref (ρ h0 2)) (C := RX12) (T := TX12) (N := 53) hx hb hts hfX12 hown hK hP q29 eq29 rfl 2 (by decide) (hts (.fieldLink RX12 7 "ColdShipsModel" "row" "[I") wa_148) (fun _ h9 => h9) rfl dX12_burn_81 ?_
        refine lv_iload_n hx hb dX12_burn_84 rfl (lv_at hl 3 rfl) ?_
        refine lv_iconst (v := 4) hx hb dX12_burn_85 (by decide) ?_
        refine lv_iadd hx hb dX12_burn_86 ?_
        refine lv_topi (fun z299 ez299 => ?_)
        have iz299 : z299.toInt = us.toInt + 4 := zi_add ez299 rfl rfl (by omega) (by omega)
        refine va_iald hx hb hK hP q31 0 eq31 rfl (vp_in_iff.mpr ⟨by omega, by omega⟩) dX12_burn_87 ?_
        refine lv_topi (fun z300 ez300 => ?_)
        have := hI.GC (s := qs) (by omega) (by omega)
        have jz300 : z300.toInt = mo_R g27 (547 + 84 * qs + 4) := mo_rd ez300 (by omega)
        have kz300 := hI.GG (s := qs) (by omega) (by omega)
        have vz300 : z300.toInt = z297.toInt := jz300.trans (jz297).symm
        refine lv_istore (lv' := [(4, .int z300), (3, .int z294), (2, .int z289), (0, .ref h0), (1, .int us)]) hx hb dX12_burn_88 hl (by decide) rfl (fun ls hl => ?_)
        refine lv_aload_n hx hb dX12_burn_90 rfl (lv_at hl 3 rfl) ?_
        refine va_get (D := (dC, dI)) (ci := 12) (v := .ref (ρ h0 2)) (C := RX12) (T := TX12) (N := 53) hx hb hts hfX12 hown hK hP q29 eq29 rfl 2 (by decide) (hts (.fieldLink RX12 7 "ColdShipsModel" "row" "[I") wa_148) (fun _ h9 => h9) rfl dX12_burn_91 ?_
        refine lv_iload_n hx hb dX12_burn_94 rfl (lv_at hl 4 rfl) ?_
        refine lv_iconst (v := 5) hx hb dX12_burn_95 (by decide) ?_
        refine lv_iadd hx hb dX12_burn_96 ?_
        refine lv_topi (fun z301 ez301 => ?_)
        have iz301 : z301.toInt = us.toInt + 5 := zi_add ez301 rfl rfl (by omega) (by omega)
        refine lv_dup2_11 hx hb dX12_burn_97 rfl rfl ?_
        refine va_iald hx hb hK hP q31 0 eq31 rfl (vp_in_iff.mpr ⟨by omega, by omega⟩) dX12_burn_98 ?_
        refine lv_topi (fun z302 ez302 => ?_)
        have jz302 : z302.toInt = mo_R g27 (547 + 84 * qs + 5) := mo_rd ez302 (by omega)
        have kz302 := hI.V (s := qs) (by omega) (by omega)
        have vz302 : z302.toInt = z291.toInt := jz302.trans (jz291).symm
        refine lv_iload_n hx hb dX12_burn_99 rfl (lv_at hl 1 rfl) ?_
        refine lv_isub hx hb dX12_burn_100 ?_
        refine lv_topi (fun z303 ez303 => ?_)
        have iz303 : z303.toInt = z302.toInt - z294.toInt := zi_sub ez303 rfl rfl (by omega) (by omega)
        refine va_iast hx hb hK hP hD hS q31 0 eq31 rfl (vp_in_iff.mpr ⟨by omega, by omega⟩) dX12_burn_101 (tp_k (.inl (κ 0, 12967, .inl (upd g27 z301.toNatClampNeg z303))) hD (tp_in hG y1 (by decide)) eq31 (fun f304 H locs hP hD hS g306 k305 => ?_))
        have hT := hT.up y1 g306 k305 tp_o32
        have hR := hR.up y1 (by decide) k305
        have hU : mo_U (mo_R g27) (mo_R (upd g27 z301.toNatClampNeg z303)) (547 + 84 * qs + 5) (z303.toInt) := mo_up (by omega) (rfl : z303.toInt = _) (by omega)
        generalize (upd g27 z301.toNatClampNeg z303) = g307 at g306 hU
        have hI := mo_w_VAP hI hU qs (by omega) (by omega) (by omega)
        have hKN := hKN.up hU (Or.inl (by omega))
        have pn308 : mo_R g307 (1) = n1 := (hU.ne (by omega) (by omega)).trans en1.symm
        have pn309 : mo_R g307 (11) = n11 := (hU.ne (by omega) (by omega)).trans en11.symm
        have pn310 : mo_R g307 (547 + 84 * qs + 4) = z297.toInt := (hU.ne (by omega) (by omega)).trans (jz297).symm
        have pn311 : mo_R g307 (547 + 84 * qs + 5) = z303.toInt := hU.eq (by omega)
        refine lv_aload_n hx hb dX12_burn_102 rfl (lv_at hl 3 rfl) ?_
        refine lv_iload_n hx hb dX12_burn_103 rfl (lv_at hl 4 rfl) ?_
        refine lv_iload hx hb dX12_burn_104 (lv_at hl 0 rfl) ?_
        have hf_312 : f304 h0 = .inr (12, [.int o28_x0, .int o28_x1, .ref (ρ h0 2), .ref (ρ h0 3), .ref (ρ h0 4), .ref (ρ h0 5), .ref (ρ h0 6), .int o28_x7, .ref (ρ h0 8), .int o28_x9, .int o28_x10, .int o28_x11, .int o28_x12, .long o28_x13, .int o28_x14, .int o28_x15, .int o28_x16, .int o28_x17, .int o28_x18, .int o28_x19, .int o28_x20, .ref (ρ h0 21), .int o28_x22, .ref (ρ h0 23), .ref (ρ h0 24), .int o28_x25, .ref (ρ h0 26), .ref (ρ h0 27), .int o28_x28, .int o28_x29, .ref (ρ h0 30), .ref (ρ h0 31), .int o28_x32, .long o28_x33, .long o28_x34, .long o28_x35, .int o28_x36, .int o28_x37, .int o28_x38, .ref (ρ h0 39), .ref (ρ h0 40), .ref (ρ h0 41), .ref (ρ h0 42), .ref (ρ h0 43), .ref (ρ h0 44), .ref (ρ h0 45), .ref (ρ h0 46), .int o28_x47, .int o28_x48, .ref (ρ h0 49), .ref (ρ h0 50), .ref (ρ h0 51), .ref (ρ h0 52)]) := (k305 _ (tp_ne ht_h0 y1 (by decide))).trans hf_o28
        refine tpk_pos (tp_in hG ht_h0 (by decide)) hf_312 (fun q313 eq313 => ?_)
        have hFc := tp_fr hD hS hA
        refine va_callv (va_runV (As := [.int us, .int z300]) (rest := []) ⟨hx, hb, hml, hown, hts⟩ (t_X12_take l dC dI _ κ Θ τ ν ρ L f304 hG hT h0 us z300 x b qs ht_h0 (by omega) (by omega) (by omega) (by rw [g306, mo_i1]; exact hI) (by first | (simp only [g306, hf_o26, mo_i1]; omega) | (simp only [g306, hf_o26, mo_i1]; trivial) | (simp only [g306, hf_o26, mo_i1]; done) | omega) (by first | (simp only [g306, hf_o26, mo_i1]; omega) | (simp only [g306, hf_o26, mo_i1]; trivial) | (simp only [g306, hf_o26, mo_i1]; done) | omega)) (cwV 2 hts gX12_burn_X12_take rfl rfl rfl ⟨rfl, pd_X12_take⟩ ⟨Nat.le_of_ble_eq_true rfl, Nat.le_of_ble_eq_true rfl⟩) ⟨pz_blind, va_recv hK hP (ci := 12) (q0 := q313) rfl eq313, pz_pre hP hK hD hN⟩ rfl rfl hl.1 rfl (lv_room (Nat.le_of_ble_eq_true rfl)) dX12_burn_106 ⟨Nat.le_of_ble_eq_true rfl, Nat.le_of_ble_eq_true rfl⟩) hS (fun q _ h => hFc q h) hFc (fun f316 t H1 locs ht hvm hw315 hB hz1 hk1 hS => ?_)
        refine tn_3 hw315 (fun hT hF317 hw315p => ?_); clear hw315
        have hR := hR.then hF317 (by decide)
        have hP := hB.1; rw [ht] at hP; have hD := tp_ad f316 hD; clear hB hFc hz1 hk1; subst ht; generalize t.heap = H at hP hS ⊢
        obtain ⟨hJ, hw315pe⟩ := hw315p
        refine tpk_32 hT y1 (fun g319 hf_o318 => ?_)
        have hI : mo_RI x b (mo_R g319) := by have q9 := hJ; rw [hf_o318, mo_i1] at q9; exact q9
        rw [g306, mo_i1] at hw315pe
        rw [hf_o318, mo_i1] at hw315pe
        obtain ⟨hw315pek, hw315peq⟩ := hw315pe
        have hKN := hKN.th hw315pek (fun k q9 => False.elim q9)
        have pn320 : mo_R g319 (1) = n1 := (hw315peq.1).trans pn308
        have pn321 : mo_R g319 (11) = n11 := (hw315peq.2.1).trans pn309
        have pn322 : mo_R g319 (547 + 84 * qs + 5) = z303.toInt := (hw315peq.2.2.2).trans pn311
        refine lv_aload_n hx hb dX12_burn_109 rfl (lv_at hl 3 rfl) ?_
        have hf_323 : f316 h0 = .inr (12, [.int o28_x0, .int o28_x1, .ref (ρ h0 2), .ref (ρ h0 3), .ref (ρ h0 4), .ref (ρ h0 5), .ref (ρ h0 6), .int o28_x7, .ref (ρ h0 8), .int o28_x9, .int o28_x10, .int o28_x11, .int o28_x12, .long o28_x13, .int o28_x14, .int o28_x15, .int o28_x16, .int o28_x17, .int o28_x18, .int o28_x19, .int o28_x20, .ref (ρ h0 21), .int o28_x22, .ref (ρ h0 23), .ref (ρ h0 24), .int o28_x25, .ref (ρ h0 26), .ref (ρ h0 27), .int o28_x28, .int o28_x29, .ref (ρ h0 30), .ref (ρ h0 31), .int o28_x32, .long o28_x33, .long o28_x34, .long o28_x35, .int o28_x36, .int o28_x37, .int o28_x38, .ref (ρ h0 39), .ref (ρ h0 40), .ref (ρ h0 41), .ref (ρ h0 42), .ref (ρ h0 43), .ref (ρ h0 44), .ref (ρ h0 45), .ref (ρ h0 46), .int o28_x47, .int o28_x48, .ref (ρ h0 49), .ref (ρ h0 50), .ref (ρ h0 51), .ref (ρ h0 52)]) := (hF317 _ (by rw [ht_h0]; decide)).trans hf_312
        refine tpk_pos (tp_in hG ht_h0 (by decide)) hf_323 (fun q324 eq324 => ?_)
        refine va_get (D := (dC, dI)) (ci := 12) (v := .ref (ρ h0 2)) (C := RX12) (T := TX12) (N := 53) hx hb hts hfX12 hown hK hP q324 eq324 rfl 2 (by decide) (hts (.fieldLink RX12 7 "ColdShipsModel" "row" "[I") wa_148) (fun _ h9 => h9) rfl dX12_burn_110 ?_
        refine lv_iload_n hx hb dX12_burn_113 rfl (lv_at hl 4 rfl) ?_
        refine lv_bipush (v := 12) hx hb dX12_burn_114 (by decide) ?_
        refine lv_iadd hx hb dX12_burn_116 ?_
        refine lv_topi (fun z325 ez325 => ?_)
        have iz325 : z325.toInt = us.toInt + 12 := zi_add ez325 rfl rfl (by omega) (by omega)
        refine lv_iconst (v := 1) hx hb dX12_burn_117 (by decide) ?_
        refine lv_iadd hx hb dX12_burn_118 ?_
        refine lv_topi (fun z326 ez326 => ?_)
        have iz326 : z326.toInt = z325.toInt + 1 := zi_add ez326 rfl rfl (by omega) (by omega)
        refine lv_dup2_11 hx hb dX12_burn_119 rfl rfl ?_
        refine tpk_pos (tp_in hG y1 (by decide)) hf_o318 (fun q327 eq327 => ?_)
        refine va_iald hx hb hK hP q327 0 eq327 rfl (vp_in_iff.mpr ⟨by omega, by omega⟩) dX12_burn_120 ?_
        refine lv_topi (fun z328 ez328 => ?_)
        refine lv_iload_n hx hb dX12_burn_121 rfl (lv_at hl 1 rfl) ?_
        refine lv_iload hx hb dX12_burn_122 (lv_at hl 0 rfl) ?_
        refine lv_iadd hx hb dX12_burn_124 ?_
        refine lv_topi (fun z329 ez329 => ?_)
        have iz329 : z329.toInt = z294.toInt + z300.toInt := zi_add ez329 rfl rfl (by omega) (by omega)
        refine lv_iadd hx hb dX12_burn_125 ?_
        refine lv_topi (fun z330 ez330 => ?_)
        refine va_iast hx hb hK hP hD hS q327 0 eq327 rfl (vp_in_iff.mpr ⟨by omega, by omega⟩) dX12_burn_126 (tp_k (.inl (κ 0, 12967, .inl (upd g319 z326.toNatClampNeg z330))) hD (tp_in hG y1 (by decide)) eq327 (fun f331 H locs hP hD hS g333 k332 => ?_))
        have hT := hT.up y1 g333 k332 tp_o32
        have hR := hR.up y1 (by decide) k332
        have hU : mo_U (mo_R g319) (mo_R (upd g319 z326.toNatClampNeg z330)) (547 + 84 * qs + 13) (z330.toInt) := mo_up (by omega) (rfl : z330.toInt = _) (by omega)
        generalize (upd g319 z326.toNatClampNeg z330) = g334 at g333 hU
        have hI := mo_w_sfree hI hU qs 13 (by omega) (by omega) (by omega)
        have hKN := hKN.up hU (Or.inl (by omega))
        have pn335 : mo_R g334 (1) = n1 := (hU.ne (by omega) (by omega)).trans pn320
        have pn336 : mo_R g334 (11) = n11 := (hU.ne (by omega) (by omega)).trans pn321
        have pn337 : mo_R g334 (547 + 84 * qs + 5) = z303.toInt := (hU.ne (by omega) (by omega)).trans pn322
        refine lv_aload_n hx hb dX12_burn_127 rfl (lv_at hl 3 rfl) ?_
        have hf_338 : f331 h0 = .inr (12, [.int o28_x0, .int o28_x1, .ref (ρ h0 2), .ref (ρ h0 3), .ref (ρ h0 4), .ref (ρ h0 5), .ref (ρ h0 6), .int o28_x7, .ref (ρ h0 8), .int o28_x9, .int o28_x10, .int o28_x11, .int o28_x12, .long o28_x13, .int o28_x14, .int o28_x15, .int o28_x16, .int o28_x17, .int o28_x18, .int o28_x19, .int o28_x20, .ref (ρ h0 21), .int o28_x22, .ref (ρ h0 23), .ref (ρ h0 24), .int o28_x25, .ref (ρ h0 26), .ref (ρ h0 27), .int o28_x28, .int o28_x29, .ref (ρ h0 30), .ref (ρ h0 31), .int o28_x32, .long o28_x33, .long o28_x34, .long o28_x35, .int o28_x36, .int o28_x37, .int o28_x38, .ref (ρ h0 39), .ref (ρ h0 40), .ref (ρ h0 41), .ref (ρ h0 42), .ref (ρ h0 43), .ref (ρ h0 44), .ref (ρ h0 45), .ref (ρ h0 46), .int o28_x47, .int o28_x48, .ref (ρ h0 49), .ref (ρ h0 50), .ref (ρ h0 51), .ref (ρ h0 52)]) := (k332 _ (tp_ne ht_h0 y1 (by decide))).trans hf_323
        refine tpk_pos (tp_in hG ht_h0 (by decide)) hf_338 (fun q339 eq339 => ?_)
        refine va_get (D := (dC, dI)) (ci := 12) (v := .ref (ρ h0 2)) (C := RX12) (T := TX12) (N := 53) hx hb hts hfX12 hown hK hP q339 eq339 rfl 2 (by decide) (hts (.fieldLink RX12 7 "ColdShipsModel" "row" "[I") wa_148) (fun _ h9 => h9) rfl dX12_burn_128 ?_
        refine lv_iload_n hx hb dX12_burn_131 rfl (lv_at hl 4 rfl) ?_
        refine lv_bipush (v := 9) hx hb dX12_burn_132 (by decide) ?_
        refine lv_iadd hx hb dX12_burn_134 ?_
        refine lv_topi (fun z340 ez340 => ?_)
        have iz340 : z340.toInt = us.toInt + 9 := zi_add ez340 rfl rfl (by omega) (by omega)
        refine lv_iload_n hx hb dX12_burn_135 rfl (lv_at hl 1 rfl) ?_
        refine lv_iload hx hb dX12_burn_136 (lv_at hl 0 rfl) ?_
        refine lv_iadd hx hb dX12_burn_138 ?_
        refine lv_topi (fun z341 ez341 => ?_)
        have iz341 : z341.toInt = z294.toInt + z300.toInt := zi_add ez341 rfl rfl (by omega) (by omega)
        refine lv_iload_n hx hb dX12_burn_139 rfl (lv_at hl 2 rfl) ?_
        refine lv_icmp_ge (tgt := 147) hx hb dX12_burn_140 (by decide) (fun c342 => ?_) (fun c342 => ?_)
        · have ic342 : z341.toInt ≥ z289.toInt := zi_ge rfl rfl c342
          refine lv_iconst (v := 0) hx hb dX12_burn_147 (by decide) ?_
          refine tpk_pos (tp_in hG y1 (by decide)) g333 (fun q343 eq343 => ?_)
          refine va_iast hx hb hK hP hD hS q343 0 eq343 rfl (vp_in_iff.mpr ⟨by omega, by omega⟩) dX12_burn_148 (tp_k (.inl (κ 0, 12967, .inl (upd g334 z340.toNatClampNeg (0 : Int32)))) hD (tp_in hG y1 (by decide)) eq343 (fun f344 H locs hP hD hS g346 k345 => ?_))
          have hT := hT.up y1 g346 k345 tp_o32
          have hR := hR.up y1 (by decide) k345
          have hU : mo_U (mo_R g334) (mo_R (upd g334 z340.toNatClampNeg (0 : Int32))) (547 + 84 * qs + 9) (0) := mo_up (by omega) (show (0 : Int32).toInt = 0 from rfl) (by omega)
          generalize (upd g334 z340.toNatClampNeg (0 : Int32)) = g347 at g346 hU
          have hI := mo_w_sfree hI hU qs 9 (by omega) (by omega) (by omega)
          have hKN := hKN.up hU (Or.inl (by omega))
          have pn348 : mo_R g347 (1) = n1 := (hU.ne (by omega) (by omega)).trans pn335
          have pn349 : mo_R g347 (11) = n11 := (hU.ne (by omega) (by omega)).trans pn336
          have pn350 : mo_R g347 (547 + 84 * qs + 5) = z303.toInt := (hU.ne (by omega) (by omega)).trans pn337
          exact W.vret hx hb hr (fun t ht hW => ⟨⟨f344, rfl, ⟨hT, hR, ⟨(by rw [g346, mo_i1]; exact hI), (by rw [g346, mo_i1, hf_o26, mo_i1]; exact hKN), (by first | (simp only [g346, hf_o26, mo_i1]; omega) | (simp only [g346, hf_o26, mo_i1]; trivial) | (simp only [g346, hf_o26, mo_i1]; done) | omega)⟩⟩, by rw [ht]; exact hP, va_K.moved hW.alike hK, hD⟩, hS.F ht⟩) hS.2.2 dX12_burn_149
        · have ic342 : z341.toInt < z289.toInt := zi_gef rfl rfl c342
          refine lv_iconst (v := 1) hx hb dX12_burn_143 (by decide) ?_
          refine lv_goto (tgt := 148) hx hb dX12_burn_144 (by decide) ?_
          refine tpk_pos (tp_in hG y1 (by decide)) g333 (fun q351 eq351 => ?_)
          refine va_iast hx hb hK hP hD hS q351 0 eq351 rfl (vp_in_iff.mpr ⟨by omega, by omega⟩) dX12_burn_148 (tp_k (.inl (κ 0, 12967, .inl (upd g334 z340.toNatClampNeg (1 : Int32)))) hD (tp_in hG y1 (by decide)) eq351 (fun f352 H locs hP hD hS g354 k353 => ?_))
          have hT := hT.up y1 g354 k353 tp_o32
          have hR := hR.up y1 (by decide) k353
          have hU : mo_U (mo_R g334) (mo_R (upd g334 z340.toNatClampNeg (1 : Int32))) (547 + 84 * qs + 9) (1) := mo_up (by omega) (show (1 : Int32).toInt = 1 from rfl) (by omega)
          generalize (upd g334 z340.toNatClampNeg (1 : Int32)) = g355 at g354 hU
          have hI := mo_w_sfree hI hU qs 9 (by omega) (by omega) (by omega)
          have hKN := hKN.up hU (Or.inl (by omega))
          have pn356 : mo_R g355 (1) = n1 := (hU.ne (by omega) (by omega)).trans pn335
          have pn357 : mo_R g355 (11) = n11 := (hU.ne (by omega) (by omega)).trans pn336
          have pn358 : mo_R g355 (547 + 84 * qs + 5) = z303.toInt := (hU.ne (by omega) (by omega)).trans pn337
          exact W.vret hx hb hr (fun t ht hW => ⟨⟨f352, rfl, ⟨hT, hR, ⟨(by rw [g354, mo_i1]; exact hI), (by rw [g354, mo_i1, hf_o26, mo_i1]; exact hKN), (by first | (simp only [g354, hf_o26, mo_i1]; omega) | (simp only [g354, hf_o26, mo_i1]; trivial) | (simp only [g354, hf_o26, mo_i1]; done) | omega)⟩⟩, by rw [ht]; exact hP, va_K.moved hW.alike hK, hD⟩, hS.F ht⟩) hS.2.2 dX12_burn_149
      · have ic298 : z295.toInt < z297.toInt := zi_gef rfl rfl c298
        refine lv_iload_n hx hb dX12_burn_74 rfl (lv_at hl 1 rfl) ?_
        refine lv_iload_n hx hb dX12_burn_75 rfl (lv_at hl 0 rfl) ?_
        refine lv_isub hx hb dX12_burn_76 ?_
        refine lv_topi (fun z359 ez359 => ?_)
        have iz359 : z359.toInt = z289.toInt - z294.toInt := zi_sub ez359 rfl rfl (by omega) (by omega)
        refine lv_goto (tgt := 88) hx hb dX12_burn_77 (by decide) ?_
        refine lv_istore (lv' := [(4, .int z359), (3, .int z294), (2, .int z289), (0, .ref h0), (1, .int us)]) hx hb dX12_burn_88 hl (by decide) rfl (fun ls hl => ?_)
        refine lv_aload_n hx hb dX12_burn_90 rfl (lv_at hl 3 rfl) ?_
        refine va_get (D := (dC, dI)) (ci := 12) (v := .ref (ρ h0 2)) (C := RX12) (T := TX12) (N := 53) hx hb hts hfX12 hown hK hP q29 eq29 rfl 2 (by decide) (hts (.fieldLink RX12 7 "ColdShipsModel" "row" "[I") wa_148) (fun _ h9 => h9) rfl dX12_burn_91 ?_
        refine lv_iload_n hx hb dX12_burn_94 rfl (lv_at hl 4 rfl) ?_
        refine lv_iconst (v := 5) hx hb dX12_burn_95 (by decide) ?_
        refine lv_iadd hx hb dX12_burn_96 ?_
        refine lv_topi (fun z360 ez360 => ?_)
        have iz360 : z360.toInt = us.toInt + 5 := zi_add ez360 rfl rfl (by omega) (by omega)
        refine lv_dup2_11 hx hb dX12_burn_97 rfl rfl ?_
        refine va_iald hx hb hK hP q31 0 eq31 rfl (vp_in_iff.mpr ⟨by omega, by omega⟩) dX12_burn_98 ?_
        refine lv_topi (fun z361 ez361 => ?_)
        have jz361 : z361.toInt = mo_R g27 (547 + 84 * qs + 5) := mo_rd ez361 (by omega)
        have kz361 := hI.V (s := qs) (by omega) (by omega)
        have vz361 : z361.toInt = z291.toInt := jz361.trans (jz291).symm
        refine lv_iload_n hx hb dX12_burn_99 rfl (lv_at hl 1 rfl) ?_
        refine lv_isub hx hb dX12_burn_100 ?_
        refine lv_topi (fun z362 ez362 => ?_)
        have iz362 : z362.toInt = z361.toInt - z294.toInt := zi_sub ez362 rfl rfl (by omega) (by omega)
        refine va_iast hx hb hK hP hD hS q31 0 eq31 rfl (vp_in_iff.mpr ⟨by omega, by omega⟩) dX12_burn_101 (tp_k (.inl (κ 0, 12967, .inl (upd g27 z360.toNatClampNeg z362))) hD (tp_in hG y1 (by decide)) eq31 (fun f363 H locs hP hD hS g365 k364 => ?_))
        have hT := hT.up y1 g365 k364 tp_o32
        have hR := hR.up y1 (by decide) k364
        have hU : mo_U (mo_R g27) (mo_R (upd g27 z360.toNatClampNeg z362)) (547 + 84 * qs + 5) (z362.toInt) := mo_up (by omega) (rfl : z362.toInt = _) (by omega)
        generalize (upd g27 z360.toNatClampNeg z362) = g366 at g365 hU
        have hI := mo_w_VAP hI hU qs (by omega) (by omega) (by omega)
        have hKN := hKN.up hU (Or.inl (by omega))
        have pn367 : mo_R g366 (1) = n1 := (hU.ne (by omega) (by omega)).trans en1.symm
        have pn368 : mo_R g366 (11) = n11 := (hU.ne (by omega) (by omega)).trans en11.symm
        have pn369 : mo_R g366 (547 + 84 * qs + 4) = z297.toInt := (hU.ne (by omega) (by omega)).trans (jz297).symm
        have pn370 : mo_R g366 (547 + 84 * qs + 5) = z362.toInt := hU.eq (by omega)
        refine lv_aload_n hx hb dX12_burn_102 rfl (lv_at hl 3 rfl) ?_
        refine lv_iload_n hx hb dX12_burn_103 rfl (lv_at hl 4 rfl) ?_
        refine lv_iload hx hb dX12_burn_104 (lv_at hl 0 rfl) ?_
        have hf_371 : f363 h0 = .inr (12, [.int o28_x0, .int o28_x1, .ref (ρ h0 2), .ref (ρ h0 3), .ref (ρ h0 4), .ref (ρ h0 5), .ref (ρ h0 6), .int o28_x7, .ref (ρ h0 8), .int o28_x9, .int o28_x10, .int o28_x11, .int o28_x12, .long o28_x13, .int o28_x14, .int o28_x15, .int o28_x16, .int o28_x17, .int o28_x18, .int o28_x19, .int o28_x20, .ref (ρ h0 21), .int o28_x22, .ref (ρ h0 23), .ref (ρ h0 24), .int o28_x25, .ref (ρ h0 26), .ref (ρ h0 27), .int o28_x28, .int o28_x29, .ref (ρ h0 30), .ref (ρ h0 31), .int o28_x32, .long o28_x33, .long o28_x34, .long o28_x35, .int o28_x36, .int o28_x37, .int o28_x38, .ref (ρ h0 39), .ref (ρ h0 40), .ref (ρ h0 41), .ref (ρ h0 42), .ref (ρ h0 43), .ref (ρ h0 44), .ref (ρ h0 45), .ref (ρ h0 46), .int o28_x47, .int o28_x48, .ref (ρ h0 49), .ref (ρ h0 50), .ref (ρ h0 51), .ref (ρ h0 52)]) := (k364 _ (tp_ne ht_h0 y1 (by decide))).trans hf_o28
        refine tpk_pos (tp_in hG ht_h0 (by decide)) hf_371 (fun q372 eq372 => ?_)
        have hFc := tp_fr hD hS hA
        refine va_callv (va_runV (As := [.int us, .int z359]) (rest := []) ⟨hx, hb, hml, hown, hts⟩ (t_X12_take l dC dI _ κ Θ τ ν ρ L f363 hG hT h0 us z359 x b qs ht_h0 (by omega) (by omega) (by omega) (by rw [g365, mo_i1]; exact hI) (by first | (simp only [g365, hf_o26, mo_i1]; omega) | (simp only [g365, hf_o26, mo_i1]; trivial) | (simp only [g365, hf_o26, mo_i1]; done) | omega) (by first | (simp only [g365, hf_o26, mo_i1]; omega) | (simp only [g365, hf_o26, mo_i1]; trivial) | (simp only [g365, hf_o26, mo_i1]; done) | omega)) (cwV 2 hts gX12_burn_X12_take rfl rfl rfl ⟨rfl, pd_X12_take⟩ ⟨Nat.le_of_ble_eq_true rfl, Nat.le_of_ble_eq_true rfl⟩) ⟨pz_blind, va_recv hK hP (ci := 12) (q0 := q372) rfl eq372, pz_pre hP hK hD hN⟩ rfl rfl hl.1 rfl (lv_room (Nat.le_of_ble_eq_true rfl)) dX12_burn_106 ⟨Nat.le_of_ble_eq_true rfl, Nat.le_of_ble_eq_true rfl⟩) hS (fun q _ h => hFc q h) hFc (fun f375 t H1 locs ht hvm hw374 hB hz1 hk1 hS => ?_)
        refine tn_3 hw374 (fun hT hF376 hw374p => ?_); clear hw374
        have hR := hR.then hF376 (by decide)
        have hP := hB.1; rw [ht] at hP; have hD := tp_ad f375 hD; clear hB hFc hz1 hk1; subst ht; generalize t.heap = H at hP hS ⊢
        obtain ⟨hJ, hw374pe⟩ := hw374p
        refine tpk_32 hT y1 (fun g378 hf_o377 => ?_)
        have hI : mo_RI x b (mo_R g378) := by have q9 := hJ; rw [hf_o377, mo_i1] at q9; exact q9
        rw [g365, mo_i1] at hw374pe
        rw [hf_o377, mo_i1] at hw374pe
        obtain ⟨hw374pek, hw374peq⟩ := hw374pe
        have hKN := hKN.th hw374pek (fun k q9 => False.elim q9)
        have pn379 : mo_R g378 (1) = n1 := (hw374peq.1).trans pn367
        have pn380 : mo_R g378 (11) = n11 := (hw374peq.2.1).trans pn368
        have pn381 : mo_R g378 (547 + 84 * qs + 5) = z362.toInt := (hw374peq.2.2.2).trans pn370
        refine lv_aload_n hx hb dX12_burn_109 rfl (lv_at hl 3 rfl) ?_
        have hf_382 : f375 h0 = .inr (12, [.int o28_x0, .int o28_x1, .ref (ρ h0 2), .ref (ρ h0 3), .ref (ρ h0 4), .ref (ρ h0 5), .ref (ρ h0 6), .int o28_x7, .ref (ρ h0 8), .int o28_x9, .int o28_x10, .int o28_x11, .int o28_x12, .long o28_x13, .int o28_x14, .int o28_x15, .int o28_x16, .int o28_x17, .int o28_x18, .int o28_x19, .int o28_x20, .ref (ρ h0 21), .int o28_x22, .ref (ρ h0 23), .ref (ρ h0 24), .int o28_x25, .ref (ρ h0 26), .ref (ρ h0 27), .int o28_x28, .int o28_x29, .ref (ρ h0 30), .ref (ρ h0 31), .int o28_x32, .long o28_x33, .long o28_x34, .long o28_x35, .int o28_x36, .int o28_x37, .int o28_x38, .ref (ρ h0 39), .ref (ρ h0 40), .ref (ρ h0 41), .ref (ρ h0 42), .ref (ρ h0 43), .ref (ρ h0 44), .ref (ρ h0 45), .ref (ρ h0 46), .int o28_x47, .int o28_x48, .ref (ρ h0 49), .ref (ρ h0 50), .ref (ρ h0 51), .ref (ρ h0 52)]) := (hF376 _ (by rw [ht_h0]; decide)).trans hf_371
        refine tpk_pos (tp_in hG ht_h0 (by decide)) hf_382 (fun q383 eq383 => ?_)
        refine va_get (D := (dC, dI)) (ci := 12) (v := .ref (ρ h0 2)) (C := RX12) (T := TX12) (N := 53) hx hb hts hfX12 hown hK hP q383 eq383 rfl 2 (by decide) (hts (.fieldLink RX12 7 "ColdShipsModel" "row" "[I") wa_148) (fun _ h9 => h9) rfl dX12_burn_110 ?_
        refine lv_iload_n hx hb dX12_burn_113 rfl (lv_at hl 4 rfl) ?_
        refine lv_bipush (v := 12) hx hb dX12_burn_114 (by decide) ?_
        refine lv_iadd hx hb dX12_burn_116 ?_
        refine lv_topi (fun z384 ez384 => ?_)
        have iz384 : z384.toInt = us.toInt + 12 := zi_add ez384 rfl rfl (by omega) (by omega)
        refine lv_iconst (v := 1) hx hb dX12_burn_117 (by decide) ?_
        refine lv_iadd hx hb dX12_burn_118 ?_
        refine lv_topi (fun z385 ez385 => ?_)
        have iz385 : z385.toInt = z384.toInt + 1 := zi_add ez385 rfl rfl (by omega) (by omega)
        refine lv_dup2_11 hx hb dX12_burn_119 rfl rfl ?_
        refine tpk_pos (tp_in hG y1 (by decide)) hf_o377 (fun q386 eq386 => ?_)
        refine va_iald hx hb hK hP q386 0 eq386 rfl (vp_in_iff.mpr ⟨by omega, by omega⟩) dX12_burn_120 ?_
        refine lv_topi (fun z387 ez387 => ?_)
        refine lv_iload_n hx hb dX12_burn_121 rfl (lv_at hl 1 rfl) ?_
        refine lv_iload hx hb dX12_burn_122 (lv_at hl 0 rfl) ?_
        refine lv_iadd hx hb dX12_burn_124 ?_
        refine lv_topi (fun z388 ez388 => ?_)
        have iz388 : z388.toInt = z294.toInt + z359.toInt := zi_add ez388 rfl rfl (by omega) (by omega)
        refine lv_iadd hx hb dX12_burn_125 ?_
        refine lv_topi (fun z389 ez389 => ?_)
        refine va_iast hx hb hK hP hD hS q386 0 eq386 rfl (vp_in_iff.mpr ⟨by omega, by omega⟩) dX12_burn_126 (tp_k (.inl (κ 0, 12967, .inl (upd g378 z385.toNatClampNeg z389))) hD (tp_in hG y1 (by decide)) eq386 (fun f390 H locs hP hD hS g392 k391 => ?_))
        have hT := hT.up y1 g392 k391 tp_o32
        have hR := hR.up y1 (by decide) k391
        have hU : mo_U (mo_R g378) (mo_R (upd g378 z385.toNatClampNeg z389)) (547 + 84 * qs + 13) (z389.toInt) := mo_up (by omega) (rfl : z389.toInt = _) (by omega)
        generalize (upd g378 z385.toNatClampNeg z389) = g393 at g392 hU
        have hI := mo_w_sfree hI hU qs 13 (by omega) (by omega) (by omega)
        have hKN := hKN.up hU (Or.inl (by omega))
        have pn394 : mo_R g393 (1) = n1 := (hU.ne (by omega) (by omega)).trans pn379
        have pn395 : mo_R g393 (11) = n11 := (hU.ne (by omega) (by omega)).trans pn380
        have pn396 : mo_R g393 (547 + 84 * qs + 5) = z362.toInt := (hU.ne (by omega) (by omega)).trans pn381
        refine lv_aload_n hx hb dX12_burn_127 rfl (lv_at hl 3 rfl) ?_
        have hf_397 : f390 h0 = .inr (12, [.int o28_x0, .int o28_x1, .ref (ρ h0 2), .ref (ρ h0 3), .ref (ρ h0 4), .ref (ρ h0 5), .ref (ρ h0 6), .int o28_x7, .ref (ρ h0 8), .int o28_x9, .int o28_x10, .int o28_x11, .int o28_x12, .long o28_x13, .int o28_x14, .int o28_x15, .int o28_x16, .int o28_x17, .int o28_x18, .int o28_x19, .int o28_x20, .ref (ρ h0 21), .int o28_x22, .ref (ρ h0 23), .ref (ρ h0 24), .int o28_x25, .ref (ρ h0 26), .ref (ρ h0 27), .int o28_x28, .int o28_x29, .ref (ρ h0 30), .ref (ρ h0 31), .int o28_x32, .long o28_x33, .long o28_x34, .long o28_x35, .int o28_x36, .int o28_x37, .int o28_x38, .ref (ρ h0 39), .ref (ρ h0 40), .ref (ρ h0 41), .ref (ρ h0 42), .ref (ρ h0 43), .ref (ρ h0 44), .ref (ρ h0 45), .ref (ρ h0 46), .int o28_x47, .int o28_x48, .ref (ρ h0 49), .ref (ρ h0 50), .ref (ρ h0 51), .ref (ρ h0 52)]) := (k391 _ (tp_ne ht_h0 y1 (by decide))).trans hf_382
        refine tpk_pos (tp_in hG ht_h0 (by decide)) hf_397 (fun q398 eq398 => ?_)
        refine va_get (D := (dC, dI)) (ci := 12) (v := .ref (ρ h0 2)) (C := RX12) (T := TX12) (N := 53) hx hb hts hfX12 hown hK hP q398 eq398 rfl 2 (by decide) (hts (.fieldLink RX12 7 "ColdShipsModel" "row" "[I") wa_148) (fun _ h9 => h9) rfl dX12_burn_128 ?_
        refine lv_iload_n hx hb dX12_burn_131 rfl (lv_at hl 4 rfl) ?_
        refine lv_bipush (v := 9) hx hb dX12_burn_132 (by decide) ?_
        refine lv_iadd hx hb dX12_burn_134 ?_
        refine lv_topi (fun z399 ez399 => ?_)
        have iz399 : z399.toInt = us.toInt + 9 := zi_add ez399 rfl rfl (by omega) (by omega)
        refine lv_iload_n hx hb dX12_burn_135 rfl (lv_at hl 1 rfl) ?_
        refine lv_iload hx hb dX12_burn_136 (lv_at hl 0 rfl) ?_
        refine lv_iadd hx hb dX12_burn_138 ?_
        refine lv_topi (fun z400 ez400 => ?_)
        have iz400 : z400.toInt = z294.toInt + z359.toInt := zi_add ez400 rfl rfl (by omega) (by omega)
        refine lv_iload_n hx hb dX12_burn_139 rfl (lv_at hl 2 rfl) ?_
        refine lv_icmp_ge (tgt := 147) hx hb dX12_burn_140 (by decide) (fun c401 => ?_) (fun c401 => ?_)
        · have ic401 : z400.toInt ≥ z289.toInt := zi_ge rfl rfl c401
          refine lv_iconst (v := 0) hx hb dX12_burn_147 (by decide) ?_
          refine tpk_pos (tp_in hG y1 (by decide)) g392 (fun q402 eq402 => ?_)
          refine va_iast hx hb hK hP hD hS q402 0 eq402 rfl (vp_in_iff.mpr ⟨by omega, by omega⟩) dX12_burn_148 (tp_k (.inl (κ 0, 12967, .inl (upd g393 z399.toNatClampNeg (0 : Int32)))) hD (tp_in hG y1 (by decide)) eq402 (fun f403 H locs hP hD hS g405 k404 => ?_))
          have hT := hT.up y1 g405 k404 tp_o32
          have hR := hR.up y1 (by decide) k404
          have hU : mo_U (mo_R g393) (mo_R (upd g393 z399.toNatClampNeg (0 : Int32))) (547 + 84 * qs + 9) (0) := mo_up (by omega) (show (0 : Int32).toInt = 0 from rfl) (by omega)
          generalize (upd g393 z399.toNatClampNeg (0 : Int32)) = g406 at g405 hU
          have hI := mo_w_sfree hI hU qs 9 (by omega) (by omega) (by omega)
          have hKN := hKN.up hU (Or.inl (by omega))
          have pn407 : mo_R g406 (1) = n1 := (hU.ne (by omega) (by omega)).trans pn394
          have pn408 : mo_R g406 (11) = n11 := (hU.ne (by omega) (by omega)).trans pn395
          have pn409 : mo_R g406 (547 + 84 * qs + 5) = z362.toInt := (hU.ne (by omega) (by omega)).trans pn396
          exact W.vret hx hb hr (fun t ht hW => ⟨⟨f403, rfl, ⟨hT, hR, ⟨(by rw [g405, mo_i1]; exact hI), (by rw [g405, mo_i1, hf_o26, mo_i1]; exact hKN), (by first | (simp only [g405, hf_o26, mo_i1]; omega) | (simp only [g405, hf_o26, mo_i1]; trivial) | (simp only [g405, hf_o26, mo_i1]; done) | omega)⟩⟩, by rw [ht]; exact hP, va_K.moved hW.alike hK, hD⟩, hS.F ht⟩) hS.2.2 dX12_burn_149
        · have ic401 : z400.toInt < z289.toInt := zi_gef rfl rfl c401
          refine lv_iconst (v := 1) hx hb dX12_burn_143 (by decide) ?_
          refine lv_goto (tgt := 148) hx hb dX12_burn_144 (by decide) ?_
          refine tpk_pos (tp_in hG y1 (by decide)) g392 (fun q410 eq410 => ?_)
          refine va_iast hx hb hK hP hD hS q410 0 eq410 rfl (vp_in_iff.mpr ⟨by omega, by omega⟩) dX12_burn_148 (tp_k (.inl (κ 0, 12967, .inl (upd g393 z399.toNatClampNeg (1 : Int32)))) hD (tp_in hG y1 (by decide)) eq410 (fun f411 H locs hP hD hS g413 k412 => ?_))
          have hT := hT.up y1 g413 k412 tp_o32
          have hR := hR.up y1 (by decide) k412
          have hU : mo_U (mo_R g393) (mo_R (upd g393 z399.toNatClampNeg (1 : Int32))) (547 + 84 * qs + 9) (1) := mo_up (by omega) (show (1 : Int32).toInt = 1 from rfl) (by omega)
          generalize (upd g393 z399.toNatClampNeg (1 : Int32)) = g414 at g413 hU
          have hI := mo_w_sfree hI hU qs 9 (by omega) (by omega) (by omega)
          have hKN := hKN.up hU (Or.inl (by omega))
          have pn415 : mo_R g414 (1) = n1 := (hU.ne (by omega) (by omega)).trans pn394
          have pn416 : mo_R g414 (11) = n11 := (hU.ne (by omega) (by omega)).trans pn395
          have pn417 : mo_R g414 (547 + 84 * qs + 5) = z362.toInt := (hU.ne (by omega) (by omega)).trans pn396
          exact W.vret hx hb hr (fun t ht hW => ⟨⟨f411, rfl, ⟨hT, hR, ⟨(by rw [g413, mo_i1]; exact hI), (by rw [g413, mo_i1, hf_o26, mo_i1]; exact hKN), (by first | (simp only [g413, hf_o26, mo_i1]; omega) | (simp only [g413, hf_o26, mo_i1]; trivial) | (simp only [g413, hf_o26, mo_i1]; done) | omega)⟩⟩, by rw [ht]; exact hP, va_K.moved hW.alike hK, hD⟩, hS.F ht⟩) hS.2.2 dX12_burn_149
    · have ic292 : z289.toInt < z291.toInt := zi_gef rfl rfl c292
      refine lv_iload_n hx hb dX12_burn_47 rfl (lv_at hl 0 rfl) ?_
      refine lv_goto (tgt := 59) hx hb dX12_burn_48 (by decide) ?_
      refine lv_istore_n (lv' := [(3, .int z289), (2, .int z289), (0, .ref h0), (1, .int us)]) hx hb dX12_burn_59 rfl hl (by decide) rfl (fun ls hl => ?_)
      refine lv_iload_n hx hb dX12_burn_60 rfl (lv_at hl 1 rfl) ?_
      refine lv_iload_n hx hb dX12_burn_61 rfl (lv_at hl 0 rfl) ?_
      refine lv_isub hx hb dX12_burn_62 ?_
      refine lv_topi (fun z418 ez418 => ?_)
      have iz418 : z418.toInt = z289.toInt - z289.toInt := zi_sub ez418 rfl rfl (by omega) (by omega)
      refine lv_aload_n hx hb dX12_burn_63 rfl (lv_at hl 2 rfl) ?_
      refine va_get (D := (dC, dI)) (ci := 12) (v := .ref (ρ h0 2)) (C := RX12) (T := TX12) (N := 53) hx hb hts hfX12 hown hK hP q29 eq29 rfl 2 (by decide) (hts (.fieldLink RX12 7 "ColdShipsModel" "row" "[I") wa_148) (fun _ h9 => h9) rfl dX12_burn_64 ?_
      refine lv_iload_n hx hb dX12_burn_67 rfl (lv_at hl 3 rfl) ?_
      refine lv_iconst (v := 4) hx hb dX12_burn_68 (by decide) ?_
      refine lv_iadd hx hb dX12_burn_69 ?_
      refine lv_topi (fun z419 ez419 => ?_)
      have iz419 : z419.toInt = us.toInt + 4 := zi_add ez419 rfl rfl (by omega) (by omega)
      refine va_iald hx hb hK hP q31 0 eq31 rfl (vp_in_iff.mpr ⟨by omega, by omega⟩) dX12_burn_70 ?_
      refine lv_topi (fun z420 ez420 => ?_)
      have := hI.GC (s := qs) (by omega) (by omega)
      have jz420 : z420.toInt = mo_R g27 (547 + 84 * qs + 4) := mo_rd ez420 (by omega)
      have kz420 := hI.GG (s := qs) (by omega) (by omega)
      refine lv_icmp_ge (tgt := 80) hx hb dX12_burn_71 (by decide) (fun c421 => ?_) (fun c421 => ?_)
      · have ic421 : z418.toInt ≥ z420.toInt := zi_ge rfl rfl c421
        refine lv_aload_n hx hb dX12_burn_80 rfl (lv_at hl 2 rfl) ?_
        refine va_get (D := (dC, dI)) (ci := 12) (v := .ref (ρ h0 2)) (C := RX12) (T := TX12) (N := 53) hx hb hts hfX12 hown hK hP q29 eq29 rfl 2 (by decide) (hts (.fieldLink RX12 7 "ColdShipsModel" "row" "[I") wa_148) (fun _ h9 => h9) rfl dX12_burn_81 ?_
        refine lv_iload_n hx hb dX12_burn_84 rfl (lv_at hl 3 rfl) ?_
        refine lv_iconst (v := 4) hx hb dX12_burn_85 (by decide) ?_
        refine lv_iadd hx hb dX12_burn_86 ?_
        refine lv_topi (fun z422 ez422 => ?_)
        have iz422 : z422.toInt = us.toInt + 4 := zi_add ez422 rfl rfl (by omega) (by omega)
        refine va_iald hx hb hK hP q31 0 eq31 rfl (vp_in_iff.mpr ⟨by omega, by omega⟩) dX12_burn_87 ?_
        refine lv_topi (fun z423 ez423 => ?_)
        have := hI.GC (s := qs) (by omega) (by omega)
        have jz423 : z423.toInt = mo_R g27 (547 + 84 * qs + 4) := mo_rd ez423 (by omega)
        have kz423 := hI.GG (s := qs) (by omega) (by omega)
        have vz423 : z423.toInt = z420.toInt := jz423.trans (jz420).symm
        refine lv_istore (lv' := [(4, .int z423), (3, .int z289), (2, .int z289), (0, .ref h0), (1, .int us)]) hx hb dX12_burn_88 hl (by decide) rfl (fun ls hl => ?_)
        refine lv_aload_n hx hb dX12_burn_90 rfl (lv_at hl 3 rfl) ?_
        refine va_get (D := (dC, dI)) (ci := 12) (v := .ref (ρ h0 2)) (C := RX12) (T := TX12) (N := 53) hx hb hts hfX12 hown hK hP q29 eq29 rfl 2 (by decide) (hts (.fieldLink RX12 7 "ColdShipsModel" "row" "[I") wa_148) (fun _ h9 => h9) rfl dX12_burn_91 ?_
        refine lv_iload_n hx hb dX12_burn_94 rfl (lv_at hl 4 rfl) ?_
        refine lv_iconst (v := 5) hx hb dX12_burn_95 (by decide) ?_
        refine lv_iadd hx hb dX12_burn_96 ?_
        refine lv_topi (fun z424 ez424 => ?_)
        have iz424 : z424.toInt = us.toInt + 5 := zi_add ez424 rfl rfl (by omega) (by omega)
        refine lv_dup2_11 hx hb dX12_burn_97 rfl rfl ?_
        refine va_iald hx hb hK hP q31 0 eq31 rfl (vp_in_iff.mpr ⟨by omega, by omega⟩) dX12_burn_98 ?_
        refine lv_topi (fun z425 ez425 => ?_)
        have jz425 : z425.toInt = mo_R g27 (547 + 84 * qs + 5) := mo_rd ez425 (by omega)
        have kz425 := hI.V (s := qs) (by omega) (by omega)
        have vz425 : z425.toInt = z291.toInt := jz425.trans (jz291).symm
        refine lv_iload_n hx hb dX12_burn_99 rfl (lv_at hl 1 rfl) ?_
        refine lv_isub hx hb dX12_burn_100 ?_
        refine lv_topi (fun z426 ez426 => ?_)
        have iz426 : z426.toInt = z425.toInt - z289.toInt := zi_sub ez426 rfl rfl (by omega) (by omega)
        refine va_iast hx hb hK hP hD hS q31 0 eq31 rfl (vp_in_iff.mpr ⟨by omega, by omega⟩) dX12_burn_101 (tp_k (.inl (κ 0, 12967, .inl (upd g27 z424.toNatClampNeg z426))) hD (tp_in hG y1 (by decide)) eq31 (fun f427 H locs hP hD hS g429 k428 => ?_))
        have hT := hT.up y1 g429 k428 tp_o32
        have hR := hR.up y1 (by decide) k428
        have hU : mo_U (mo_R g27) (mo_R (upd g27 z424.toNatClampNeg z426)) (547 + 84 * qs + 5) (z426.toInt) := mo_up (by omega) (rfl : z426.toInt = _) (by omega)
        generalize (upd g27 z424.toNatClampNeg z426) = g430 at g429 hU
        have hI := mo_w_VAP hI hU qs (by omega) (by omega) (by omega)
        have hKN := hKN.up hU (Or.inl (by omega))
        have pn431 : mo_R g430 (1) = n1 := (hU.ne (by omega) (by omega)).trans en1.symm
        have pn432 : mo_R g430 (11) = n11 := (hU.ne (by omega) (by omega)).trans en11.symm
        have pn433 : mo_R g430 (547 + 84 * qs + 4) = z420.toInt := (hU.ne (by omega) (by omega)).trans (jz420).symm
        have pn434 : mo_R g430 (547 + 84 * qs + 5) = z426.toInt := hU.eq (by omega)
        refine lv_aload_n hx hb dX12_burn_102 rfl (lv_at hl 3 rfl) ?_
        refine lv_iload_n hx hb dX12_burn_103 rfl (lv_at hl 4 rfl) ?_
        refine lv_iload hx hb dX12_burn_104 (lv_at hl 0 rfl) ?_
        have hf_435 : f427 h0 = .inr (12, [.int o28_x0, .int o28_x1, .ref (ρ h0 2), .ref (ρ h0 3), .ref (ρ h0 4), .ref (ρ h0 5), .ref (ρ h0 6), .int o28_x7, .ref (ρ h0 8), .int o28_x9, .int o28_x10, .int o28_x11, .int o28_x12, .long o28_x13, .int o28_x14, .int o28_x15, .int o28_x16, .int o28_x17, .int o28_x18, .int o28_x19, .int o28_x20, .ref (ρ h0 21), .int o28_x22, .ref (ρ h0 23), .ref (ρ h0 24), .int o28_x25, .ref (ρ h0 26), .ref (ρ h0 27), .int o28_x28, .int o28_x29, .ref (ρ h0 30), .ref (ρ h0 31), .int o28_x32, .long o28_x33, .long o28_x34, .long o28_x35, .int o28_x36, .int o28_x37, .int o28_x38, .ref (ρ h0 39), .ref (ρ h0 40), .ref (ρ h0 41), .ref (ρ h0 42), .ref (ρ h0 43), .ref (ρ h0 44), .ref (ρ h0 45), .ref (ρ h0 46), .int o28_x47, .int o28_x48, .ref (ρ h0 49), .ref (ρ h0 50), .ref (ρ h0 51), .ref (ρ h0 52)]) := (k428 _ (tp_ne ht_h0 y1 (by decide))).trans hf_o28
        refine tpk_pos (tp_in hG ht_h0 (by decide)) hf_435 (fun q436 eq436 => ?_)
        have hFc := tp_fr hD hS hA
        refine va_callv (va_runV (As := [.int us, .int z423]) (rest := []) ⟨hx, hb, hml, hown, hts⟩ (t_X12_take l dC dI _ κ Θ τ ν ρ L f427 hG hT h0 us z423 x b qs ht_h0 (by omega) (by omega) (by omega) (by rw [g429, mo_i1]; exact hI) (by first | (simp only [g429, hf_o26, mo_i1]; omega) | (simp only [g429, hf_o26, mo_i1]; trivial) | (simp only [g429, hf_o26, mo_i1]; done) | omega) (by first | (simp only [g429, hf_o26, mo_i1]; omega) | (simp only [g429, hf_o26, mo_i1]; trivial) | (simp only [g429, hf_o26, mo_i1]; done) | omega)) (cwV 2 hts gX12_burn_X12_take rfl rfl rfl ⟨rfl, pd_X12_take⟩ ⟨Nat.le_of_ble_eq_true rfl, Nat.le_of_ble_eq_true rfl⟩) ⟨pz_blind, va_recv hK hP (ci := 12) (q0 := q436) rfl eq436, pz_pre hP hK hD hN⟩ rfl rfl hl.1 rfl (lv_room (Nat.le_of_ble_eq_true rfl)) dX12_burn_106 ⟨Nat.le_of_ble_eq_true rfl, Nat.le_of_ble_eq_true rfl⟩) hS (fun q _ h => hFc q h) hFc (fun f439 t H1 locs ht hvm hw438 hB hz1 hk1 hS => ?_)
        refine tn_3 hw438 (fun hT hF440 hw438p => ?_); clear hw438
        have hR := hR.then hF440 (by decide)
        have hP := hB.1; rw [ht] at hP; have hD := tp_ad f439 hD; clear hB hFc hz1 hk1; subst ht; generalize t.heap = H at hP hS ⊢
        obtain ⟨hJ, hw438pe⟩ := hw438p
        refine tpk_32 hT y1 (fun g442 hf_o441 => ?_)
        have hI : mo_RI x b (mo_R g442) := by have q9 := hJ; rw [hf_o441, mo_i1] at q9; exact q9
        rw [g429, mo_i1] at hw438pe
        rw [hf_o441, mo_i1] at hw438pe
        obtain ⟨hw438pek, hw438peq⟩ := hw438pe
        have hKN := hKN.th hw438pek (fun k q9 => False.elim q9)
        have pn443 : mo_R g442 (1) = n1 := (hw438peq.1).trans pn431
        have pn444 : mo_R g442 (11) = n11 := (hw438peq.2.1).trans pn432
        have pn445 : mo_R g442 (547 + 84 * qs + 5) = z426.toInt := (hw438peq.2.2.2).trans pn434
        refine lv_aload_n hx hb dX12_burn_109 rfl (lv_at hl 3 rfl) ?_
        have hf_446 : f439 h0 = .inr (12, [.int o28_x0, .int o28_x1, .ref (ρ h0 2), .ref (ρ h0 3), .ref (ρ h0 4), .ref (ρ h0 5), .ref (ρ h0 6), .int o28_x7, .ref (ρ h0 8), .int o28_x9, .int o28_x10, .int o28_x11, .int o28_x12, .long o28_x13, .int o28_x14, .int o28_x15, .int o28_x16, .int o28_x17, .int o28_x18, .int o28_x19, .int o28_x20, .ref (ρ h0 21), .int o28_x22, .ref (ρ h0 23), .ref (ρ h0 24), .int o28_x25, .ref (ρ h0 26), .ref (ρ h0 27), .int o28_x28, .int o28_x29, .ref (ρ h0 30), .ref (ρ h0 31), .int o28_x32, .long o28_x33, .long o28_x34, .long o28_x35, .int o28_x36, .int o28_x37, .int o28_x38, .ref (ρ h0 39), .ref (ρ h0 40), .ref (ρ h0 41), .ref (ρ h0 42), .ref (ρ h0 43), .ref (ρ h0 44), .ref (ρ h0 45), .ref (ρ h0 46), .int o28_x47, .int o28_x48, .ref (ρ h0 49), .ref (ρ h0 50), .ref (ρ h0 51), .ref (ρ h0 52)]) := (hF440 _ (by rw [ht_h0]; decide)).trans hf_435
        refine tpk_pos (tp_in hG ht_h0 (by decide)) hf_446 (fun q447 eq447 => ?_)
        refine va_get (D := (dC, dI)) (ci := 12) (v := .ref (ρ h0 2)) (C := RX12) (T := TX12) (N := 53) hx hb hts hfX12 hown hK hP q447 eq447 rfl 2 (by decide) (hts (.fieldLink RX12 7 "ColdShipsModel" "row" "[I") wa_148) (fun _ h9 => h9) rfl dX12_burn_110 ?_
        refine lv_iload_n hx hb dX12_burn_113 rfl (lv_at hl 4 rfl) ?_
        refine lv_bipush (v := 12) hx hb dX12_burn_114 (by decide) ?_
        refine lv_iadd hx hb dX12_burn_116 ?_
        refine lv_topi (fun z448 ez448 => ?_)
        have iz448 : z448.toInt = us.toInt + 12 := zi_add ez448 rfl rfl (by omega) (by omega)
        refine lv_iconst (v := 1) hx hb dX12_burn_117 (by decide) ?_
        refine lv_iadd hx hb dX12_burn_118 ?_
        refine lv_topi (fun z449 ez449 => ?_)
        have iz449 : z449.toInt = z448.toInt + 1 := zi_add ez449 rfl rfl (by omega) (by omega)
        refine lv_dup2_11 hx hb dX12_burn_119 rfl rfl ?_
        refine tpk_pos (tp_in hG y1 (by decide)) hf_o441 (fun q450 eq450 => ?_)
        refine va_iald hx hb hK hP q450 0 eq450 rfl (vp_in_iff.mpr ⟨by omega, by omega⟩) dX12_burn_120 ?_
        refine lv_topi (fun z451 ez451 => ?_)
        refine lv_iload_n hx hb dX12_burn_121 rfl (lv_at hl 1 rfl) ?_
        refine lv_iload hx hb dX12_burn_122 (lv_at hl 0 rfl) ?_
        refine lv_iadd hx hb dX12_burn_124 ?_
        refine lv_topi (fun z452 ez452 => ?_)
        have iz452 : z452.toInt = z289.toInt + z423.toInt := zi_add ez452 rfl rfl (by omega) (by omega)
        refine lv_iadd hx hb dX12_burn_125 ?_
        refine lv_topi (fun z453 ez453 => ?_)
        refine va_iast hx hb hK hP hD hS q450 0 eq450 rfl (vp_in_iff.mpr ⟨by omega, by omega⟩) dX12_burn_126 (tp_k (.inl (κ 0, 12967, .inl (upd g442 z449.toNatClampNeg z453))) hD (tp_in hG y1 (by decide)) eq450 (fun f454 H locs hP hD hS g456 k455 => ?_))
        have hT := hT.up y1 g456 k455 tp_o32
        have hR := hR.up y1 (by decide) k455
        have hU : mo_U (mo_R g442) (mo_R (upd g442 z449.toNatClampNeg z453)) (547 + 84 * qs + 13) (z453.toInt) := mo_up (by omega) (rfl : z453.toInt = _) (by omega)
        generalize (upd g442 z449.toNatClampNeg z453) = g457 at g456 hU
        have hI := mo_w_sfree hI hU qs 13 (by omega) (by omega) (by omega)
        have hKN := hKN.up hU (Or.inl (by omega))
        have pn458 : mo_R g457 (1) = n1 := (hU.ne (by omega) (by omega)).trans pn443
        have pn459 : mo_R g457 (11) = n11 := (hU.ne (by omega) (by omega)).trans pn444
        have pn460 : mo_R g457 (547 + 84 * qs + 5) = z426.toInt := (hU.ne (by omega) (by omega)).trans pn445
        refine lv_aload_n hx hb dX12_burn_127 rfl (lv_at hl 3 rfl) ?_
        have hf_461 : f454 h0 = .inr (12, [.int o28_x0, .int o28_x1, .ref (ρ h0 2), .ref (ρ h0 3), .ref (ρ h0 4), .ref (ρ h0 5), .ref (ρ h0 6), .int o28_x7, .ref (ρ h0 8), .int o28_x9, .int o28_x10, .int o28_x11, .int o28_x12, .long o28_x13, .int o28_x14, .int o28_x15, .int o28_x16, .int o28_x17, .int o28_x18, .int o28_x19, .int o28_x20, .ref (ρ h0 21), .int o28_x22, .ref (ρ h0 23), .ref (ρ h0 24), .int o28_x25, .ref (ρ h0 26), .ref (ρ h0 27), .int o28_x28, .int o28_x29, .ref (ρ h0 30), .ref (ρ h0 31), .int o28_x32, .long o28_x33, .long o28_x34, .long o28_x35, .int o28_x36, .int o28_x37, .int o28_x38, .ref (ρ h0 39), .ref (ρ h0 40), .ref (ρ h0 41), .ref (ρ h0 42), .ref (ρ h0 43), .ref (ρ h0 44), .ref (ρ h0 45), .ref (ρ h0 46), .int o28_x47, .int o28_x48, .ref (ρ h0 49), .ref (ρ h0 50), .ref (ρ h0 51), .ref (ρ h0 52)]) := (k455 _ (tp_ne ht_h0 y1 (by decide))).trans hf_446
        refine tpk_pos (tp_in hG ht_h0 (by decide)) hf_461 (fun q462 eq462 => ?_)
        refine va_get (D := (dC, dI)) (ci := 12) (v := .ref (ρ h0 2)) (C := RX12) (T := TX12) (N := 53) hx hb hts hfX12 hown hK hP q462 eq462 rfl 2 (by decide) (hts (.fieldLink RX12 7 "ColdShipsModel" "row" "[I") wa_148) (fun _ h9 => h9) rfl dX12_burn_128 ?_
        refine lv_iload_n hx hb dX12_burn_131 rfl (lv_at hl 4 rfl) ?_
        refine lv_bipush (v := 9) hx hb dX12_burn_132 (by decide) ?_
        refine lv_iadd hx hb dX12_burn_134 ?_
        refine lv_topi (fun z463 ez463 => ?_)
        have iz463 : z463.toInt = us.toInt + 9 := zi_add ez463 rfl rfl (by omega) (by omega)
        refine lv_iload_n hx hb dX12_burn_135 rfl (lv_at hl 1 rfl) ?_
        refine lv_iload hx hb dX12_burn_136 (lv_at hl 0 rfl) ?_
        refine lv_iadd hx hb dX12_burn_138 ?_
        refine lv_topi (fun z464 ez464 => ?_)
        have iz464 : z464.toInt = z289.toInt + z423.toInt := zi_add ez464 rfl rfl (by omega) (by omega)
        refine lv_iload_n hx hb dX12_burn_139 rfl (lv_at hl 2 rfl) ?_
        refine lv_icmp_ge (tgt := 147) hx hb dX12_burn_140 (by decide) (fun c465 => ?_) (fun c465 => ?_)
        · have ic465 : z464.toInt ≥ z289.toInt := zi_ge rfl rfl c465
          refine lv_iconst (v := 0) hx hb dX12_burn_147 (by decide) ?_
          refine tpk_pos (tp_in hG y1 (by decide)) g456 (fun q466 eq466 => ?_)
          refine va_iast hx hb hK hP hD hS q466 0 eq466 rfl (vp_in_iff.mpr ⟨by omega, by omega⟩) dX12_burn_148 (tp_k (.inl (κ 0, 12967, .inl (upd g457 z463.toNatClampNeg (0 : Int32)))) hD (tp_in hG y1 (by decide)) eq466 (fun f467 H locs hP hD hS g469 k468 => ?_))
          have hT := hT.up y1 g469 k468 tp_o32
          have hR := hR.up y1 (by decide) k468
          have hU : mo_U (mo_R g457) (mo_R (upd g457 z463.toNatClampNeg (0 : Int32))) (547 + 84 * qs + 9) (0) := mo_up (by omega) (show (0 : Int32).toInt = 0 from rfl) (by omega)
          generalize (upd g457 z463.toNatClampNeg (0 : Int32)) = g470 at g469 hU
          have hI := mo_w_sfree hI hU qs 9 (by omega) (by omega) (by omega)
          have hKN := hKN.up hU (Or.inl (by omega))
          have pn471 : mo_R g470 (1) = n1 := (hU.ne (by omega) (by omega)).trans pn458
          have pn472 : mo_R g470 (11) = n11 := (hU.ne (by omega) (by omega)).trans pn459
          have pn473 : mo_R g470 (547 + 84 * qs + 5) = z426.toInt := (hU.ne (by omega) (by omega)).trans pn460
          exact W.vret hx hb hr (fun t ht hW => ⟨⟨f467, rfl, ⟨hT, hR, ⟨(by rw [g469, mo_i1]; exact hI), (by rw [g469, mo_i1, hf_o26, mo_i1]; exact hKN), (by first | (simp only [g469, hf_o26, mo_i1]; omega) | (simp only [g469, hf_o26, mo_i1]; trivial) | (simp only [g469, hf_o26, mo_i1]; done) | omega)⟩⟩, by rw [ht]; exact hP, va_K.moved hW.alike hK, hD⟩, hS.F ht⟩) hS.2.2 dX12_burn_149
        · have ic465 : z464.toInt < z289.toInt := zi_gef rfl rfl c465
          refine lv_iconst (v := 1) hx hb dX12_burn_143 (by decide) ?_
          refine lv_goto (tgt := 148) hx hb dX12_burn_144 (by decide) ?_
          refine tpk_pos (tp_in hG y1 (by decide)) g456 (fun q474 eq474 => ?_)
          refine va_iast hx hb hK hP hD hS q474 0 eq474 rfl (vp_in_iff.mpr ⟨by omega, by omega⟩) dX12_burn_148 (tp_k (.inl (κ 0, 12967, .inl (upd g457 z463.toNatClampNeg (1 : Int32)))) hD (tp_in hG y1 (by decide)) eq474 (fun f475 H locs hP hD hS g477 k476 => ?_))
          have hT := hT.up y1 g477 k476 tp_o32
          have hR := hR.up y1 (by decide) k476
          have hU : mo_U (mo_R g457) (mo_R (upd g457 z463.toNatClampNeg (1 : Int32))) (547 + 84 * qs + 9) (1) := mo_up (by omega) (show (1 : Int32).toInt = 1 from rfl) (by omega)
          generalize (upd g457 z463.toNatClampNeg (1 : Int32)) = g478 at g477 hU
          have hI := mo_w_sfree hI hU qs 9 (by omega) (by omega) (by omega)
          have hKN := hKN.up hU (Or.inl (by omega))
          have pn479 : mo_R g478 (1) = n1 := (hU.ne (by omega) (by omega)).trans pn458
          have pn480 : mo_R g478 (11) = n11 := (hU.ne (by omega) (by omega)).trans pn459
          have pn481 : mo_R g478 (547 + 84 * qs + 5) = z426.toInt := (hU.ne (by omega) (by omega)).trans pn460
          exact W.vret hx hb hr (fun t ht hW => ⟨⟨f475, rfl, ⟨hT, hR, ⟨(by rw [g477, mo_i1]; exact hI), (by rw [g477, mo_i1, hf_o26, mo_i1]; exact hKN), (by first | (simp only [g477, hf_o26, mo_i1]; omega) | (simp only [g477, hf_o26, mo_i1]; trivial) | (simp only [g477, hf_o26, mo_i1]; done) | omega)⟩⟩, by rw [ht]; exact hP, va_K.moved hW.alike hK, hD⟩, hS.F ht⟩) hS.2.2 dX12_burn_149
      · have ic421 : z418.toInt < z420.toInt := zi_gef rfl rfl c421
        refine lv_iload_n hx hb dX12_burn_74 rfl (lv_at hl 1 rfl) ?_
        refine lv_iload_n hx hb dX12_burn_75 rfl (lv_at hl 0 rfl) ?_
        refine lv_isub hx hb dX12_burn_76 ?_
        refine lv_topi (fun z482 ez482 => ?_)
        have iz482 : z482.toInt = z289.toInt - z289.toInt := zi_sub ez482 rfl rfl (by omega) (by omega)
        refine lv_goto (tgt := 88) hx hb dX12_burn_77 (by decide) ?_
        refine lv_istore (lv' := [(4, .int z482), (3, .int z289), (2, .int z289), (0, .ref h0), (1, .int us)]) hx hb dX12_burn_88 hl (by decide) rfl (fun ls hl => ?_)
        refine lv_aload_n hx hb dX12_burn_90 rfl (lv_at hl 3 rfl) ?_
        refine va_get (D := (dC, dI)) (ci := 12) (v := .ref (ρ h0 2)) (C := RX12) (T := TX12) (N := 53) hx hb hts hfX12 hown hK hP q29 eq29 rfl 2 (by decide) (hts (.fieldLink RX12 7 "ColdShipsModel" "row" "[I") wa_148) (fun _ h9 => h9) rfl dX12_burn_91 ?_
        refine lv_iload_n hx hb dX12_burn_94 rfl (lv_at hl 4 rfl) ?_
        refine lv_iconst (v := 5) hx hb dX12_burn_95 (by decide) ?_
        refine lv_iadd hx hb dX12_burn_96 ?_
        refine lv_topi (fun z483 ez483 => ?_)
        have iz483 : z483.toInt = us.toInt + 5 := zi_add ez483 rfl rfl (by omega) (by omega)
        refine lv_dup2_11 hx hb dX12_burn_97 rfl rfl ?_
        refine va_iald hx hb hK hP q31 0 eq31 rfl (vp_in_iff.mpr ⟨by omega, by omega⟩) dX12_burn_98 ?_
        refine lv_topi (fun z484 ez484 => ?_)
        have jz484 : z484.toInt = mo_R g27 (547 + 84 * qs + 5) := mo_rd ez484 (by omega)
        have kz484 := hI.V (s := qs) (by omega) (by omega)
        have vz484 : z484.toInt = z291.toInt := jz484.trans (jz291).symm
        refine lv_iload_n hx hb dX12_burn_99 rfl (lv_at hl 1 rfl) ?_
        refine lv_isub hx hb dX12_burn_100 ?_
        refine lv_topi (fun z485 ez485 => ?_)
        have iz485 : z485.toInt = z484.toInt - z289.toInt := zi_sub ez485 rfl rfl (by omega) (by omega)
        refine va_iast hx hb hK hP hD hS q31 0 eq31 rfl (vp_in_iff.mpr ⟨by omega, by omega⟩) dX12_burn_101 (tp_k (.inl (κ 0, 12967, .inl (upd g27 z483.toNatClampNeg z485))) hD (tp_in hG y1 (by decide)) eq31 (fun f486 H locs hP hD hS g488 k487 => ?_))
        have hT := hT.up y1 g488 k487 tp_o32
        have hR := hR.up y1 (by decide) k487
        have hU : mo_U (mo_R g27) (mo_R (upd g27 z483.toNatClampNeg z485)) (547 + 84 * qs + 5) (z485.toInt) := mo_up (by omega) (rfl : z485.toInt = _) (by omega)
        generalize (upd g27 z483.toNatClampNeg z485) = g489 at g488 hU
        have hI := mo_w_VAP hI hU qs (by omega) (by omega) (by omega)
        have hKN := hKN.up hU (Or.inl (by omega))
        have pn490 : mo_R g489 (1) = n1 := (hU.ne (by omega) (by omega)).trans en1.symm
        have pn491 : mo_R g489 (11) = n11 := (hU.ne (by omega) (by omega)).trans en11.symm
        have pn492 : mo_R g489 (547 + 84 * qs + 4) = z420.toInt := (hU.ne (by omega) (by omega)).trans (jz420).symm
        have pn493 : mo_R g489 (547 + 84 * qs + 5) = z485.toInt := hU.eq (by omega)
        refine lv_aload_n hx hb dX12_burn_102 rfl (lv_at hl 3 rfl) ?_
        refine lv_iload_n hx hb dX12_burn_103 rfl (lv_at hl 4 rfl) ?_
        refine lv_iload hx hb dX12_burn_104 (lv_at hl 0 rfl) ?_
        have hf_494 : f486 h0 = .inr (12, [.int o28_x0, .int o28_x1, .ref (ρ h0 2), .ref (ρ h0 3), .ref (ρ h0 4), .ref (ρ h0 5), .ref (ρ h0 6), .int o28_x7, .ref (ρ h0 8), .int o28_x9, .int o28_x10, .int o28_x11, .int o28_x12, .long o28_x13, .int o28_x14, .int o28_x15, .int o28_x16, .int o28_x17, .int o28_x18, .int o28_x19, .int o28_x20, .ref (ρ h0 21), .int o28_x22, .ref (ρ h0 23), .ref (ρ h0 24), .int o28_x25, .ref (ρ h0 26), .ref (ρ h0 27), .int o28_x28, .int o28_x29, .ref (ρ h0 30), .ref (ρ h0 31), .int o28_x32, .long o28_x33, .long o28_x34, .long o28_x35, .int o28_x36, .int o28_x37, .int o28_x38, .ref (ρ h0 39), .ref (ρ h0 40), .ref (ρ h0 41), .ref (ρ h0 42), .ref (ρ h0 43), .ref (ρ h0 44), .ref (ρ h0 45), .ref (ρ h0 46), .int o28_x47, .int o28_x48, .ref (ρ h0 49), .ref (ρ h0 50), .ref (ρ h0 51), .ref (ρ h0 52)]) := (k487 _ (tp_ne ht_h0 y1 (by decide))).trans hf_o28
        refine tpk_pos (tp_in hG ht_h0 (by decide)) hf_494 (fun q495 eq495 => ?_)
        have hFc := tp_fr hD hS hA
        refine va_callv (va_runV (As := [.int us, .int z482]) (rest := []) ⟨hx, hb, hml, hown, hts⟩ (t_X12_take l dC dI _ κ Θ τ ν ρ L f486 hG hT h0 us z482 x b qs ht_h0 (by omega) (by omega) (by omega) (by rw [g488, mo_i1]; exact hI) (by first | (simp only [g488, hf_o26, mo_i1]; omega) | (simp only [g488, hf_o26, mo_i1]; trivial) | (simp only [g488, hf_o26, mo_i1]; done) | omega) (by first | (simp only [g488, hf_o26, mo_i1]; omega) | (simp only [g488, hf_o26, mo_i1]; trivial) | (simp only [g488, hf_o26, mo_i1]; done) | omega)) (cwV 2 hts gX12_burn_X12_take rfl rfl rfl ⟨rfl, pd_X12_take⟩ ⟨Nat.le_of_ble_eq_true rfl, Nat.le_of_ble_eq_true rfl⟩) ⟨pz_blind, va_recv hK hP (ci := 12) (q0 := q495) rfl eq495, pz_pre hP hK hD hN⟩ rfl rfl hl.1 rfl (lv_room (Nat.le_of_ble_eq_true rfl)) dX12_burn_106 ⟨Nat.le_of_ble_eq_true rfl, Nat.le_of_ble_eq_true rfl⟩) hS (fun q _ h => hFc q h) hFc (fun f498 t H1 locs ht hvm hw497 hB hz1 hk1 hS => ?_)
        refine tn_3 hw497 (fun hT hF499 hw497p => ?_); clear hw497
        have hR := hR.then hF499 (by decide)
        have hP := hB.1; rw [ht] at hP; have hD := tp_ad f498 hD; clear hB hFc hz1 hk1; subst ht; generalize t.heap = H at hP hS ⊢
        obtain ⟨hJ, hw497pe⟩ := hw497p
        refine tpk_32 hT y1 (fun g501 hf_o500 => ?_)
        have hI : mo_RI x b (mo_R g501) := by have q9 := hJ; rw [hf_o500, mo_i1] at q9; exact q9
        rw [g488, mo_i1] at hw497pe
        rw [hf_o500, mo_i1] at hw497pe
        obtain ⟨hw497pek, hw497peq⟩ := hw497pe
        have hKN := hKN.th hw497pek (fun k q9 => False.elim q9)
        have pn502 : mo_R g501 (1) = n1 := (hw497peq.1).trans pn490
        have pn503 : mo_R g501 (11) = n11 := (hw497peq.2.1).trans pn491
        have pn504 : mo_R g501 (547 + 84 * qs + 5) = z485.toInt := (hw497peq.2.2.2).trans pn493
        refine lv_aload_n hx hb dX12_burn_109 rfl (lv_at hl 3 rfl) ?_
        have hf_505 : f498 h0 = .inr (12, [.int o28_x0, .int o28_x1, .ref (ρ h0 2), .ref (ρ h0 3), .ref (ρ h0 4), .ref (ρ h0 5), .ref (ρ h0 6), .int o28_x7, .ref (ρ h0 8), .int o28_x9, .int o28_x10, .int o28_x11, .int o28_x12, .long o28_x13, .int o28_x14, .int o28_x15, .int o28_x16, .int o28_x17, .int o28_x18, .int o28_x19, .int o28_x20, .ref (ρ h0 21), .int o28_x22, .ref (ρ h0 23), .ref (ρ h0 24), .int o28_x25, .ref (ρ h0 26), .ref (ρ h0 27), .int o28_x28, .int o28_x29, .ref (ρ h0 30), .ref (ρ h0 31), .int o28_x32, .long o28_x33, .long o28_x34, .long o28_x35, .int o28_x36, .int o28_x37, .int o28_x38, .ref (ρ h0 39), .ref (ρ h0 40), .ref (ρ h0 41), .ref (ρ h0 42), .ref (ρ h0 43), .ref (ρ h0 44), .ref (ρ h0 45), .ref (ρ h0 46), .int o28_x47, .int o28_x48, .ref (ρ h0 49), .ref (ρ h0 50), .ref (ρ h0 51), .ref (ρ h0 52)]) := (hF499 _ (by rw [ht_h0]; decide)).trans hf_494
        refine tpk_pos (tp_in hG ht_h0 (by decide)) hf_505 (fun q506 eq506 => ?_)
        refine va_get (D := (dC, dI)) (ci := 12) (v := .ref (ρ h0 2)) (C := RX12) (T := TX12) (N := 53) hx hb hts hfX12 hown hK hP q506 eq506 rfl 2 (by decide) (hts (.fieldLink RX12 7 "ColdShipsModel" "row" "[I") wa_148) (fun _ h9 => h9) rfl dX12_burn_110 ?_
        refine lv_iload_n hx hb dX12_burn_113 rfl (lv_at hl 4 rfl) ?_
        refine lv_bipush (v := 12) hx hb dX12_burn_114 (by decide) ?_
        refine lv_iadd hx hb dX12_burn_116 ?_
        refine lv_topi (fun z507 ez507 => ?_)
        have iz507 : z507.toInt = us.toInt + 12 := zi_add ez507 rfl rfl (by omega) (by omega)
        refine lv_iconst (v := 1) hx hb dX12_burn_117 (by decide) ?_
        refine lv_iadd hx hb dX12_burn_118 ?_
        refine lv_topi (fun z508 ez508 => ?_)
        have iz508 : z508.toInt = z507.toInt + 1 := zi_add ez508 rfl rfl (by omega) (by omega)
        refine lv_dup2_11 hx hb dX12_burn_119 rfl rfl ?_
        refine tpk_pos (tp_in hG y1 (by decide)) hf_o500 (fun q509 eq509 => ?_)
        refine va_iald hx hb hK hP q509 0 eq509 rfl (vp_in_iff.mpr ⟨by omega, by omega⟩) dX12_burn_120 ?_
        refine lv_topi (fun z510 ez510 => ?_)
        refine lv_iload_n hx hb dX12_burn_121 rfl (lv_at hl 1 rfl) ?_
        refine lv_iload hx hb dX12_burn_122 (lv_at hl 0 rfl) ?_
        refine lv_iadd hx hb dX12_burn_124 ?_
        refine lv_topi (fun z511 ez511 => ?_)
        have iz511 : z511.toInt = z289.toInt + z482.toInt := zi_add ez511 rfl rfl (by omega) (by omega)
        refine lv_iadd hx hb dX12_burn_125 ?_
        refine lv_topi (fun z512 ez512 => ?_)
        refine va_iast hx hb hK hP hD hS q509 0 eq509 rfl (vp_in_iff.mpr ⟨by omega, by omega⟩) dX12_burn_126 (tp_k (.inl (κ 0, 12967, .inl (upd g501 z508.toNatClampNeg z512))) hD (tp_in hG y1 (by decide)) eq509 (fun f513 H locs hP hD hS g515 k514 => ?_))
        have hT := hT.up y1 g515 k514 tp_o32
        have hR := hR.up y1 (by decide) k514
        have hU : mo_U (mo_R g501) (mo_R (upd g501 z508.toNatClampNeg z512)) (547 + 84 * qs + 13) (z512.toInt) := mo_up (by omega) (rfl : z512.toInt = _) (by omega)
        generalize (upd g501 z508.toNatClampNeg z512) = g516 at g515 hU
        have hI := mo_w_sfree hI hU qs 13 (by omega) (by omega) (by omega)
        have hKN := hKN.up hU (Or.inl (by omega))
        have pn517 : mo_R g516 (1) = n1 := (hU.ne (by omega) (by omega)).trans pn502
        have pn518 : mo_R g516 (11) = n11 := (hU.ne (by omega) (by omega)).trans pn503
        have pn519 : mo_R g516 (547 + 84 * qs + 5) = z485.toInt := (hU.ne (by omega) (by omega)).trans pn504
        refine lv_aload_n hx hb dX12_burn_127 rfl (lv_at hl 3 rfl) ?_
        have hf_520 : f513 h0 = .inr (12, [.int o28_x0, .int o28_x1, .ref (ρ h0 2), .ref (ρ h0 3), .ref (ρ h0 4), .ref (ρ h0 5), .ref (ρ h0 6), .int o28_x7, .ref (ρ h0 8), .int o28_x9, .int o28_x10, .int o28_x11, .int o28_x12, .long o28_x13, .int o28_x14, .int o28_x15, .int o28_x16, .int o28_x17, .int o28_x18, .int o28_x19, .int o28_x20, .ref (ρ h0 21), .int o28_x22, .ref (ρ h0 23), .ref (ρ h0 24), .int o28_x25, .ref (ρ h0 26), .ref (ρ h0 27), .int o28_x28, .int o28_x29, .ref (ρ h0 30), .ref (ρ h0 31), .int o28_x32, .long o28_x33, .long o28_x34, .long o28_x35, .int o28_x36, .int o28_x37, .int o28_x38, .ref (ρ h0 39), .ref (ρ h0 40), .ref (ρ h0 41), .ref (ρ h0 42), .ref (ρ h0 43), .ref (ρ h0 44), .ref (ρ h0 45), .ref (ρ h0 46), .int o28_x47, .int o28_x48, .ref (ρ h0 49), .ref (ρ h0 50), .ref (ρ h0 51), .ref (ρ h0 52)]) := (k514 _ (tp_ne ht_h0 y1 (by decide))).trans hf_505
        refine tpk_pos (tp_in hG ht_h0 (by decide)) hf_520 (fun q521 eq521 => ?_)
        refine va_get (D := (dC, dI)) (ci := 12) (v := .ref (ρ h0 2)) (C := RX12) (T := TX12) (N := 53) hx hb hts hfX12 hown hK hP q521 eq521 rfl 2 (by decide) (hts (.fieldLink RX12 7 "ColdShipsModel" "row" "[I") wa_148) (fun _ h9 => h9) rfl dX12_burn_128 ?_
        refine lv_iload_n hx hb dX12_burn_131 rfl (lv_at hl 4 rfl) ?_
        refine lv_bipush (v := 9) hx hb dX12_burn_132 (by decide) ?_
        refine lv_iadd hx hb dX12_burn_134 ?_
        refine lv_topi (fun z522 ez522 => ?_)
        have iz522 : z522.toInt = us.toInt + 9 := zi_add ez522 rfl rfl (by omega) (by omega)
        refine lv_iload_n hx hb dX12_burn_135 rfl (lv_at hl 1 rfl) ?_
        refine lv_iload hx hb dX12_burn_136 (lv_at hl 0 rfl) ?_
        refine lv_iadd hx hb dX12_burn_138 ?_
        refine lv_topi (fun z523 ez523 => ?_)
        have iz523 : z523.toInt = z289.toInt + z482.toInt := zi_add ez523 rfl rfl (by omega) (by omega)
        refine lv_iload_n hx hb dX12_burn_139 rfl (lv_at hl 2 rfl) ?_
        refine lv_icmp_ge (tgt := 147) hx hb dX12_burn_140 (by decide) (fun c524 => ?_) (fun c524 => ?_)
        · have ic524 : z523.toInt ≥ z289.toInt := zi_ge rfl rfl c524
          refine lv_iconst (v := 0) hx hb dX12_burn_147 (by decide) ?_
          refine tpk_pos (tp_in hG y1 (by decide)) g515 (fun q525 eq525 => ?_)
          refine va_iast hx hb hK hP hD hS q525 0 eq525 rfl (vp_in_iff.mpr ⟨by omega, by omega⟩) dX12_burn_148 (tp_k (.inl (κ 0, 12967, .inl (upd g516 z522.toNatClampNeg (0 : Int32)))) hD (tp_in hG y1 (by decide)) eq525 (fun f526 H locs hP hD hS g528 k527 => ?_))
          have hT := hT.up y1 g528 k527 tp_o32
          have hR := hR.up y1 (by decide) k527
          have hU : mo_U (mo_R g516) (mo_R (upd g516 z522.toNatClampNeg (0 : Int32))) (547 + 84 * qs + 9) (0) := mo_up (by omega) (show (0 : Int32).toInt = 0 from rfl) (by omega)
          generalize (upd g516 z522.toNatClampNeg (0 : Int32)) = g529 at g528 hU
          have hI := mo_w_sfree hI hU qs 9 (by omega) (by omega) (by omega)
          have hKN := hKN.up hU (Or.inl (by omega))
          have pn530 : mo_R g529 (1) = n1 := (hU.ne (by omega) (by omega)).trans pn517
          have pn531 : mo_R g529 (11) = n11 := (hU.ne (by omega) (by omega)).trans pn518
          have pn532 : mo_R g529 (547 + 84 * qs + 5) = z485.toInt := (hU.ne (by omega) (by omega)).trans pn519
          exact W.vret hx hb hr (fun t ht hW => ⟨⟨f526, rfl, ⟨hT, hR, ⟨(by rw [g528, mo_i1]; exact hI), (by rw [g528, mo_i1, hf_o26, mo_i1]; exact hKN), (by first | (simp only [g528, hf_o26, mo_i1]; omega) | (simp only [g528, hf_o26, mo_i1]; trivial) | (simp only [g528, hf_o26, mo_i1]; done) | omega)⟩⟩, by rw [ht]; exact hP, va_K.moved hW.alike hK, hD⟩, hS.F ht⟩) hS.2.2 dX12_burn_149
        · have ic524 : z523.toInt < z289.toInt := zi_gef rfl rfl c524
          refine lv_iconst (v := 1) hx hb dX12_burn_143 (by decide) ?_
          refine lv_goto (tgt := 148) hx hb dX12_burn_144 (by decide) ?_
          refine tpk_pos (tp_in hG y1 (by decide)) g515 (fun q533 eq533 => ?_)
          refine va_iast hx hb hK hP hD hS q533 0 eq533 rfl (vp_in_iff.mpr ⟨by omega, by omega⟩) dX12_burn_148 (tp_k (.inl (κ 0, 12967, .inl (upd g516 z522.toNatClampNeg (1 : Int32)))) hD (tp_in hG y1 (by decide)) eq533 (fun f534 H locs hP hD hS g536 k535 => ?_))
          have hT := hT.up y1 g536 k535 tp_o32
          have hR := hR.up y1 (by decide) k535
          have hU : mo_U (mo_R g516) (mo_R (upd g516 z522.toNatClampNeg (1 : Int32))) (547 + 84 * qs + 9) (1) := mo_up (by omega) (show (1 : Int32).toInt = 1 from rfl) (by omega)
          generalize (upd g516 z522.toNatClampNeg (1 : Int32)) = g537 at g536 hU
          have hI := mo_w_sfree hI hU qs 9 (by omega) (by omega) (by omega)
          have hKN := hKN.up hU (Or.inl (by omega))
          have pn538 : mo_R g537 (1) = n1 := (hU.ne (by omega) (by omega)).trans pn517
          have pn539 : mo_R g537 (11) = n11 := (hU.ne (by omega) (by omega)).trans pn518
          have pn540 : mo_R g537 (547 + 84 * qs + 5) = z485.toInt := (hU.ne (by omega) (by omega)).trans pn519
          exact W.vret hx hb hr (fun t ht hW => ⟨⟨f534, rfl, ⟨hT, hR, ⟨(by rw [g536, mo_i1]; exact hI), (by rw [g536, mo_i1, hf_o26, mo_i1]; exact hKN), (by first | (simp only [g536, hf_o26, mo_i1]; omega) | (simp only [g536, hf_o26, mo_i1]; trivial) | (simp only [g536, hf_o26, mo_i1]; done) | omega)⟩⟩, by rw [ht]; exact hP, va_K.moved hW.alike hK, hD⟩, hS.F ht⟩) hS.2.2 dX12_burn_149

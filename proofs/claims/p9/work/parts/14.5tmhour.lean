section
set_option maxHeartbeats 4000000 in
set_option maxRecDepth 100000 in
theorem t_X12_doOrder (l : Launch) (dC : Nat → ClassId) (dI : Nat → Nat → Nat) (sz : Nat) (κ : Nat → ClassId) (Θ : Nat → Option Int) (τ ν : Nat → Nat) (ρ : Nat → Nat → Nat) (L : List Nat) (f : Nat → va_E) (hG : tp_G τ ν ρ L) (hT : tp_T (mo_O κ Θ) κ τ ν ρ f) (h0 : Nat) (v : Int32) (us : Int32) (u : Int32) (x : Int) (b : Int) (qs : Int) (ht_h0 : τ h0 = 13) (hr_u : 0 ≤ u.toInt ∧ u.toInt ≤ 2399) (hL_us : us.toInt = 547 + 84 * qs) (hq_us : 0 ≤ qs ∧ qs ≤ 5) (hbb : 0 ≤ b ∧ b ≤ 1000) (hJ : mo_RI x b (mo_R (mo_i (f (ρ h0 2))))) (hvq : v.toInt = qs) (ho : 1 ≤ (mo_R (mo_i (f (ρ h0 2)))) (547 + 84 * qs + 10)) (hn1 : qs < (mo_R (mo_i (f (ρ h0 2)))) (1)) : Met l yX12_doOrder wqX12_doOrder ({ frames := 5, cells := 0, slots := 0, locals := 1600 }) (va_Pc [.ref h0, .int v, .int us, .int u] (pz_B dC dI (tp_K κ) (va_pl L f) sz)) (va_Qv (fun (f1 : Nat → va_E) => tp_T (mo_O κ Θ) κ τ ν ρ f1 ∧ tp_F τ [13, 32, 35, 36] f f1 ∧ mo_RI x b (mo_R (mo_i (f1 (ρ h0 2)))) ∧ mo_KN (fun k => k = 5) (mo_R (mo_i (f (ρ h0 2)))) (mo_R (mo_i (f1 (ρ h0 2)))) ∧ (mo_R (mo_i (f1 (ρ h0 2)))) (1) = (mo_R (mo_i (f (ρ h0 2)))) (1) ∧ (mo_R (mo_i (f1 (ρ h0 2)))) (11) = (mo_R (mo_i (f (ρ h0 2)))) (11)) (fun (f1 : Nat → va_E) (t : State) => pz_E dC dI (tp_K κ) (va_A (va_pl L f) sz) (va_pl L f1) t) (va_A (va_pl L f) sz)) 0 0 (va_A (va_pl L f) sz) := by
  refine Met.ofW (cc := cX12_doOrder) (maxL := 7) (ret := none) (by decide) rfl ?_
  intro p e s m args below meth c s₁ B hml hv
  obtain ⟨rfl, hsz, hP, hK, hD0, hN⟩ := hv
  have hx := B.exec
  have hb := B.bytes
  have hr := B.returns
  have hts := fun (w : Cond) (h : w ∈ WALL) => atoms_spec (ws := wqX12_doOrder) B.pre w (List.mem_cons_of_mem _ h)
  have hown : s.vm.findClass RX12 = some m.cls := findClass_of_methodNamed B.named
  have hlocks := B.notSynchronized
  subst hsz
  have hD := hD0.self (sz := s.heap.size)
  generalize hAe : va_A (va_pl L f) s.heap.size = A at hD ⊢
  have hA : ∀ q : Nat, s.heap.size ≤ q → A q := fun q h => by rw [← hAe]; exact Or.inr h
  have hS : va_S A s.heap s.heap [] := va_S.rf
  have hR : tp_F τ [13, 32, 35, 36] f f := tp_F.rf
  have hl := lv_entry ([.ref h0, .int v, .int us, .int u]) (n := 7) (Nat.le_of_ble_eq_true rfl)
  rw [lg_entry_eq]
  generalize (lg_sl ([.ref h0, .int v, .int us, .int u]) ++ List.replicate (7 - (lg_sl ([.ref h0, .int v, .int us, .int u])).length) Slot.unset).toArray = ls at hl ⊢
  have hl : lv_has ls 7 [(0, .ref h0), (1, .int v), (2, .int us), (3, .int u)] := hl
  refine tgk_13 hG ht_h0 (fun y1 y2 y3 y4 y5 y6 y7 y8 y9 y10 y11 y12 y13 y14 y15 y16 y17 y18 y19 y20 y21 y22 y23 y24 y25 => ?_)
  refine tpk_32 hT y1 (fun g27 hf_o26 => ?_)
  have hI : mo_RI x b (mo_R g27) := by have q9 := hJ; rw [hf_o26, mo_i1] at q9; exact q9
  rw [hf_o26, mo_i1] at ho
  rw [hf_o26, mo_i1] at hn1
  obtain ⟨n1, en1⟩ : ∃ n : Int, n = mo_R g27 (1) := ⟨_, rfl⟩
  have kn1 := hI.k1
  obtain ⟨n11, en11⟩ : ∃ n : Int, n = mo_R g27 (11) := ⟨_, rfl⟩
  have kn11 := hI.k11
  obtain ⟨ns10, ens10⟩ : ∃ n : Int, n = mo_R g27 (547 + 84 * qs + 10) := ⟨_, rfl⟩
  have hKN : mo_KN (fun k => k = 5) (mo_R g27) (mo_R g27) := mo_KN.rf
  have hP0 := fun q9 => hI.P0 (s := qs) (by omega) (by omega) (by omega) q9
  refine lv_aload_n hx hb dX12_doOrder_0 rfl (lv_at hl 0 rfl) ?_
  refine tpk_13 hT ht_h0 (fun o28_x0 o28_x1 o28_x7 o28_x9 o28_x10 o28_x11 o28_x12 o28_x13 o28_x14 o28_x15 o28_x16 o28_x17 o28_x18 o28_x19 o28_x20 o28_x22 o28_x25 o28_x28 o28_x29 o28_x32 o28_x33 o28_x34 o28_x35 o28_x36 o28_x37 o28_x38 o28_x47 o28_x48 hf_o28 ro28_0 ro28_1 ro28_2 ro28_3 ro28_4 ro28_5 ro28_6 ro28_7 ro28_8 ro28_9 ro28_10 ro28_11 ro28_12 ro28_13 ro28_14 => ?_)
  refine tpk_pos (tp_in hG ht_h0 (by decide)) hf_o28 (fun q29 eq29 => ?_)
  refine va_get (D := (dC, dI)) (ci := 12) (v := .ref (ρ h0 2)) (C := RX12) (T := TX12) (N := 53) hx hb hts hfX12 hown hK hP q29 eq29 rfl 2 (by decide) (hts (.fieldLink RX12 7 "ColdShipsModel" "row" "[I") wa_148) (fun _ h9 => h9) rfl dX12_doOrder_1 ?_
  refine lv_iload_n hx hb dX12_doOrder_4 rfl (lv_at hl 2 rfl) ?_
  refine lv_bipush (v := 44) hx hb dX12_doOrder_5 (by decide) ?_
  refine lv_iadd hx hb dX12_doOrder_7 ?_
  refine lv_topi (fun z30 ez30 => ?_)
  have iz30 : z30.toInt = us.toInt + 44 := zi_add ez30 rfl rfl (by omega) (by omega)
  refine tpk_pos (tp_in hG y1 (by decide)) hf_o26 (fun q31 eq31 => ?_)
  refine va_iald hx hb hK hP q31 0 eq31 rfl (vp_in_iff.mpr ⟨by omega, by omega⟩) dX12_doOrder_8 ?_
  refine lv_topi (fun z32 ez32 => ?_)
  have jz32 : z32.toInt = mo_R g27 (547 + 84 * qs + 44) := mo_rd ez32 (by omega)
  refine lv_istore (lv' := [(4, .int z32), (0, .ref h0), (1, .int v), (2, .int us), (3, .int u)]) hx hb dX12_doOrder_9 hl (by decide) rfl (fun ls hl => ?_)
  refine lv_aload_n hx hb dX12_doOrder_11 rfl (lv_at hl 1 rfl) ?_
  refine va_get (D := (dC, dI)) (ci := 12) (v := .ref (ρ h0 2)) (C := RX12) (T := TX12) (N := 53) hx hb hts hfX12 hown hK hP q29 eq29 rfl 2 (by decide) (hts (.fieldLink RX12 7 "ColdShipsModel" "row" "[I") wa_148) (fun _ h9 => h9) rfl dX12_doOrder_12 ?_
  refine lv_iload_n hx hb dX12_doOrder_15 rfl (lv_at hl 3 rfl) ?_
  refine lv_bipush (v := 44) hx hb dX12_doOrder_16 (by decide) ?_
  refine lv_iadd hx hb dX12_doOrder_18 ?_
  refine lv_topi (fun z33 ez33 => ?_)
  have iz33 : z33.toInt = us.toInt + 44 := zi_add ez33 rfl rfl (by omega) (by omega)
  refine lv_iconst (v := 1) hx hb dX12_doOrder_19 (by decide) ?_
  refine lv_iadd hx hb dX12_doOrder_20 ?_
  refine lv_topi (fun z34 ez34 => ?_)
  have iz34 : z34.toInt = z33.toInt + 1 := zi_add ez34 rfl rfl (by omega) (by omega)
  refine va_iald hx hb hK hP q31 0 eq31 rfl (vp_in_iff.mpr ⟨by omega, by omega⟩) dX12_doOrder_21 ?_
  refine lv_topi (fun z35 ez35 => ?_)
  have jz35 : z35.toInt = mo_R g27 (547 + 84 * qs + 45) := mo_rd ez35 (by omega)
  refine lv_istore (lv' := [(5, .int z35), (4, .int z32), (0, .ref h0), (1, .int v), (2, .int us), (3, .int u)]) hx hb dX12_doOrder_22 hl (by decide) rfl (fun ls hl => ?_)
  refine lv_iload hx hb dX12_doOrder_24 (lv_at hl 1 rfl) ?_
  refine lv_if_ne (tgt := 40) hx hb dX12_doOrder_26 (by decide) (fun c36 => ?_) (fun c36 => ?_)
  · have ic36 : z32.toInt ≠ 0 := zi_ne rfl rfl c36
    refine lv_iload hx hb dX12_doOrder_40 (lv_at hl 1 rfl) ?_
    refine lv_iconst (v := 3) hx hb dX12_doOrder_42 (by decide) ?_
    refine lv_icmp_ne (tgt := 60) hx hb dX12_doOrder_43 (by decide) (fun c37 => ?_) (fun c37 => ?_)
    · have ic37 : z32.toInt ≠ 3 := zi_ne rfl rfl c37
      refine lv_aload_n hx hb dX12_doOrder_60 rfl (lv_at hl 2 rfl) ?_
      refine lv_iload_n hx hb dX12_doOrder_61 rfl (lv_at hl 3 rfl) ?_
      refine lv_iload_n hx hb dX12_doOrder_62 rfl (lv_at hl 4 rfl) ?_
      refine lv_iload_n hx hb dX12_doOrder_63 rfl (lv_at hl 5 rfl) ?_
      refine pz_calli (va_runV (As := [.int v, .int us, .int u]) (rest := []) ⟨hx, hb, hml, hown, hts⟩ (t_X12_mayGo l dC dI _ κ Θ τ ν ρ L f hG hT h0 v us u x b qs ht_h0 (by first | decide | omega) (by omega) (by omega) (by omega) (by rw [hf_o26, mo_i1]; exact hI) (by first | (simp only [hf_o26, mo_i1]; omega) | (simp only [hf_o26, mo_i1]; trivial) | (simp only [hf_o26, mo_i1]; done) | omega)) (cwV 3 hts gX12_doOrder_X12_mayGo rfl rfl rfl ⟨rfl, pd_X12_mayGo⟩ ⟨Nat.le_of_ble_eq_true rfl, Nat.le_of_ble_eq_true rfl⟩) ⟨pz_blind, va_recv hK hP (ci := 12) (q0 := q29) rfl eq29, pz_pre hP hK hD hN⟩ rfl rfl hl.1 rfl (lv_room (Nat.le_of_ble_eq_true rfl)) dX12_doOrder_64 ⟨Nat.le_of_ble_eq_true rfl, Nat.le_of_ble_eq_true rfl⟩) (fun r38 hw39 => ?_)
      obtain ⟨hw39r, hw39p⟩ := hw39
      refine lv_if_eq (tgt := 168) hx hb dX12_doOrder_67 (by decide) (fun c40 => ?_) (fun c40 => ?_)
      · have ic40 : r38.toInt = 0 := zi_eq rfl rfl c40
        exact W.vret hx hb hr (fun t ht hW => ⟨⟨f, rfl, ⟨hT, hR, ⟨(by rw [hf_o26, mo_i1]; exact hI), (by rw [hf_o26, mo_i1]; exact hKN), (by first | (simp only [hf_o26, mo_i1]; omega) | (simp only [hf_o26, mo_i1]; trivial) | (simp only [hf_o26, mo_i1]; done) | omega)⟩⟩, by rw [ht]; exact hP, va_K.moved hW.alike hK, hD⟩, hS.F ht⟩) hS.2.2 dX12_doOrder_168
      · have ic40 : r38.toInt ≠ 0 := zi_eqf rfl rfl c40
        replace ic40 : 1 ≤ r38.toInt := by omega
        refine lv_iload hx hb dX12_doOrder_70 (lv_at hl 1 rfl) ?_
        refine lv_iconst (v := 1) hx hb dX12_doOrder_72 (by decide) ?_
        refine lv_icmp_ne (tgt := 84) hx hb dX12_doOrder_73 (by decide) (fun c41 => ?_) (fun c41 => ?_)
        · have ic41 : z32.toInt ≠ 1 := zi_ne rfl rfl c41
          refine lv_aload_n hx hb dX12_doOrder_84 rfl (lv_at hl 2 rfl) ?_
          refine lv_iload_n hx hb dX12_doOrder_85 rfl (lv_at hl 4 rfl) ?_
          refine pz_calli (va_runV (As := [.int us]) (rest := []) ⟨hx, hb, hml, hown, hts⟩ (t_X12_toLand l dC dI _ κ Θ τ ν ρ L f hG hT h0 us x b qs ht_h0 (by omega) (by omega) (by omega) (by rw [hf_o26, mo_i1]; exact hI) (by first | (simp only [hf_o26, mo_i1]; omega) | (simp only [hf_o26, mo_i1]; trivial) | (simp only [hf_o26, mo_i1]; done) | omega)) (cwV 1 hts gX12_doOrder_X12_toLand rfl rfl rfl ⟨rfl, pd_X12_toLand⟩ ⟨Nat.le_of_ble_eq_true rfl, Nat.le_of_ble_eq_true rfl⟩) ⟨pz_blind, va_recv hK hP (ci := 12) (q0 := q29) rfl eq29, pz_pre hP hK hD hN⟩ rfl rfl hl.1 rfl (lv_room (Nat.le_of_ble_eq_true rfl)) dX12_doOrder_86 ⟨Nat.le_of_ble_eq_true rfl, Nat.le_of_ble_eq_true rfl⟩) (fun r42 hw43 => ?_)
          obtain ⟨hw43r, hw43p⟩ := hw43
          rw [hf_o26, mo_i1] at hw43p
          refine lv_istore (lv' := [(6, .int r42), (5, .int z35), (4, .int z32), (0, .ref h0), (1, .int v), (2, .int us), (3, .int u)]) hx hb dX12_doOrder_89 hl (by decide) rfl (fun ls hl => ?_)
          refine lv_iload hx hb dX12_doOrder_91 (lv_at hl 0 rfl) ?_
          refine lv_if_le (tgt := 134) hx hb dX12_doOrder_93 (by decide) (fun c44 => ?_) (fun c44 => ?_)
          · have ic44 : r42.toInt ≤ 0 := zi_le rfl rfl c44
            refine lv_iload hx hb dX12_doOrder_134 (lv_at hl 0 rfl) ?_
            refine lv_if_le (tgt := 151) hx hb dX12_doOrder_136 (by decide) (fun c45 => ?_) (fun c45 => ?_)
            · have ic45 : r42.toInt ≤ 0 := zi_le rfl rfl c45
              refine lv_iload hx hb dX12_doOrder_151 (lv_at hl 2 rfl) ?_
              refine lv_iconst (v := 2) hx hb dX12_doOrder_153 (by decide) ?_
              refine lv_icmp_ne (tgt := 163) hx hb dX12_doOrder_154 (by decide) (fun c46 => ?_) (fun c46 => ?_)
              · have ic46 : z32.toInt ≠ 2 := zi_ne rfl rfl c46
                refine lv_aload_n hx hb dX12_doOrder_163 rfl (lv_at hl 3 rfl) ?_
                refine lv_iload_n hx hb dX12_doOrder_164 rfl (lv_at hl 5 rfl) ?_
                have hFc := tp_fr hD hS hA
                refine va_callv (va_runV (As := [.int us]) (rest := []) ⟨hx, hb, hml, hown, hts⟩ (t_X12_endOrder l dC dI _ κ Θ τ ν ρ L f hG hT h0 us x b qs ht_h0 (by omega) (by omega) (by omega) (by rw [hf_o26, mo_i1]; exact hI) (by first | (simp only [hf_o26, mo_i1]; omega) | (simp only [hf_o26, mo_i1]; trivial) | (simp only [hf_o26, mo_i1]; done) | omega) (by first | (simp only [hf_o26, mo_i1]; omega) | (simp only [hf_o26, mo_i1]; trivial) | (simp only [hf_o26, mo_i1]; done) | omega)) (cwV 1 hts gX12_doOrder_X12_endOrder rfl rfl rfl ⟨rfl, pd_X12_endOrder⟩ ⟨Nat.le_of_ble_eq_true rfl, Nat.le_of_ble_eq_true rfl⟩) ⟨pz_blind, va_recv hK hP (ci := 12) (q0 := q29) rfl eq29, pz_pre hP hK hD hN⟩ rfl rfl hl.1 rfl (lv_room (Nat.le_of_ble_eq_true rfl)) dX12_doOrder_165 ⟨Nat.le_of_ble_eq_true rfl, Nat.le_of_ble_eq_true rfl⟩) hS (fun q _ h => hFc q h) hFc (fun f49 t H1 locs ht hvm hw48 hB hz1 hk1 hS => ?_)
                refine tn_3 hw48 (fun hT hF50 hw48p => ?_); clear hw48
                have hR := hR.then hF50 (by decide)
                have hP := hB.1; rw [ht] at hP; have hD := tp_ad f49 hD; clear hB hFc hz1 hk1; subst ht; generalize t.heap = H at hP hS ⊢
                obtain ⟨hJ, hw48pe⟩ := hw48p
                refine tpk_32 hT y1 (fun g52 hf_o51 => ?_)
                have hI : mo_RI x b (mo_R g52) := by have q9 := hJ; rw [hf_o51, mo_i1] at q9; exact q9
                rw [hf_o26, mo_i1] at hw48pe
                rw [hf_o51, mo_i1] at hw48pe
                obtain ⟨hw48pek, hw48peq⟩ := hw48pe
                have hKN := hKN.th hw48pek (fun k q9 => False.elim q9)
                have pn53 : mo_R g52 (1) = n1 := (hw48peq.1).trans en1.symm
                have pn54 : mo_R g52 (11) = n11 := (hw48peq.2).trans en11.symm
                exact W.vret hx hb hr (fun t ht hW => ⟨⟨f49, rfl, ⟨hT, hR, ⟨(by rw [hf_o51, mo_i1]; exact hI), (by rw [hf_o51, mo_i1, hf_o26, mo_i1]; exact hKN), (by first | (simp only [hf_o51, hf_o26, mo_i1]; omega) | (simp only [hf_o51, hf_o26, mo_i1]; trivial) | (simp only [hf_o51, hf_o26, mo_i1]; done) | omega)⟩⟩, by rw [ht]; exact hP, va_K.moved hW.alike hK, hD⟩, hS.F ht⟩) hS.2.2 dX12_doOrder_168
              · have ic46 : z32.toInt = 2 := zi_nef rfl rfl c46
                refine lv_aload_n hx hb dX12_doOrder_157 rfl (lv_at hl 3 rfl) ?_
                refine lv_iload_n hx hb dX12_doOrder_158 rfl (lv_at hl 4 rfl) ?_
                refine lv_iload_n hx hb dX12_doOrder_159 rfl (lv_at hl 5 rfl) ?_
                have hFc := tp_fr hD hS hA
                refine va_callv (va_runV (As := [.int v, .int us]) (rest := []) ⟨hx, hb, hml, hown, hts⟩ (t_X12_endLanding l dC dI _ κ Θ τ ν ρ L f hG hT h0 v us x b qs ht_h0 (by omega) (by omega) (by omega) (by rw [hf_o26, mo_i1]; exact hI) (by omega) (by first | (simp only [hf_o26, mo_i1]; omega) | (simp only [hf_o26, mo_i1]; trivial) | (simp only [hf_o26, mo_i1]; done) | omega)) (cwV 2 hts gX12_doOrder_X12_endLanding rfl rfl rfl ⟨rfl, pd_X12_endLanding⟩ ⟨Nat.le_of_ble_eq_true rfl, Nat.le_of_ble_eq_true rfl⟩) ⟨pz_blind, va_recv hK hP (ci := 12) (q0 := q29) rfl eq29, pz_pre hP hK hD hN⟩ rfl rfl hl.1 rfl (lv_room (Nat.le_of_ble_eq_true rfl)) dX12_doOrder_160 ⟨Nat.le_of_ble_eq_true rfl, Nat.le_of_ble_eq_true rfl⟩) hS (fun q _ h => hFc q h) hFc (fun f57 t H1 locs ht hvm hw56 hB hz1 hk1 hS => ?_)
                refine tn_3 hw56 (fun hT hF58 hw56p => ?_); clear hw56
                have hR := hR.then hF58 (by decide)
                have hP := hB.1; rw [ht] at hP; have hD := tp_ad f57 hD; clear hB hFc hz1 hk1; subst ht; generalize t.heap = H at hP hS ⊢
                obtain ⟨hJ, hw56pe⟩ := hw56p
                refine tpk_32 hT y1 (fun g60 hf_o59 => ?_)
                have hI : mo_RI x b (mo_R g60) := by have q9 := hJ; rw [hf_o59, mo_i1] at q9; exact q9
                rw [hf_o26, mo_i1] at hw56pe
                rw [hf_o59, mo_i1] at hw56pe
                obtain ⟨hw56pek, hw56peq⟩ := hw56pe
                have hKN := hKN.th hw56pek (fun k q9 => by have q8 : k = 5 := q9; show k = 5; omega)
                have pn61 : mo_R g60 (1) = n1 := (hw56peq.1).trans en1.symm
                have pn62 : mo_R g60 (11) = n11 := (hw56peq.2.1).trans en11.symm
                have pn63 : mo_R g60 (547 + 84 * qs + 10) = ns10 := (hw56peq.2.2).trans ens10.symm
                refine lv_aload_n hx hb dX12_doOrder_163 rfl (lv_at hl 3 rfl) ?_
                refine lv_iload_n hx hb dX12_doOrder_164 rfl (lv_at hl 5 rfl) ?_
                have hf_64 : f57 h0 = .inr (12, [.int o28_x0, .int o28_x1, .ref (ρ h0 2), .ref (ρ h0 3), .ref (ρ h0 4), .ref (ρ h0 5), .ref (ρ h0 6), .int o28_x7, .ref (ρ h0 8), .int o28_x9, .int o28_x10, .int o28_x11, .int o28_x12, .long o28_x13, .int o28_x14, .int o28_x15, .int o28_x16, .int o28_x17, .int o28_x18, .int o28_x19, .int o28_x20, .ref (ρ h0 21), .int o28_x22, .ref (ρ h0 23), .ref (ρ h0 24), .int o28_x25, .ref (ρ h0 26), .ref (ρ h0 27), .int o28_x28, .int o28_x29, .ref (ρ h0 30), .ref (ρ h0 31), .int o28_x32, .long o28_x33, .long o28_x34, .long o28_x35, .int o28_x36, .int o28_x37, .int o28_x38, .ref (ρ h0 39), .ref (ρ h0 40), .ref (ρ h0 41), .ref (ρ h0 42), .ref (ρ h0 43), .ref (ρ h0 44), .ref (ρ h0 45), .ref (ρ h0 46), .int o28_x47, .int o28_x48, .ref (ρ h0 49), .ref (ρ h0 50), .ref (ρ h0 51), .ref (ρ h0 52)]) := (hF58 _ (by rw [ht_h0]; decide)).trans hf_o28
                refine tpk_pos (tp_in hG ht_h0 (by decide)) hf_64 (fun q65 eq65 => ?_)
                have hFc := tp_fr hD hS hA
                refine va_callv (va_runV (As := [.int us]) (rest := []) ⟨hx, hb, hml, hown, hts⟩ (t_X12_endOrder l dC dI _ κ Θ τ ν ρ L f57 hG hT h0 us x b qs ht_h0 (by omega) (by omega) (by omega) (by rw [hf_o59, mo_i1]; exact hI) (by first | (simp only [hf_o59, hf_o26, mo_i1]; omega) | (simp only [hf_o59, hf_o26, mo_i1]; trivial) | (simp only [hf_o59, hf_o26, mo_i1]; done) | omega) (by first | (simp only [hf_o59, hf_o26, mo_i1]; omega) | (simp only [hf_o59, hf_o26, mo_i1]; trivial) | (simp only [hf_o59, hf_o26, mo_i1]; done) | omega)) (cwV 1 hts gX12_doOrder_X12_endOrder rfl rfl rfl ⟨rfl, pd_X12_endOrder⟩ ⟨Nat.le_of_ble_eq_true rfl, Nat.le_of_ble_eq_true rfl⟩) ⟨pz_blind, va_recv hK hP (ci := 12) (q0 := q65) rfl eq65, pz_pre hP hK hD hN⟩ rfl rfl hl.1 rfl (lv_room (Nat.le_of_ble_eq_true rfl)) dX12_doOrder_165 ⟨Nat.le_of_ble_eq_true rfl, Nat.le_of_ble_eq_true rfl⟩) hS (fun q _ h => hFc q h) hFc (fun f68 t H1 locs ht hvm hw67 hB hz1 hk1 hS => ?_)
                refine tn_3 hw67 (fun hT hF69 hw67p => ?_); clear hw67
                have hR := hR.then hF69 (by decide)
                have hP := hB.1; rw [ht] at hP; have hD := tp_ad f68 hD; clear hB hFc hz1 hk1; subst ht; generalize t.heap = H at hP hS ⊢
                obtain ⟨hJ, hw67pe⟩ := hw67p
                refine tpk_32 hT y1 (fun g71 hf_o70 => ?_)
                have hI : mo_RI x b (mo_R g71) := by have q9 := hJ; rw [hf_o70, mo_i1] at q9; exact q9
                rw [hf_o59, mo_i1] at hw67pe
                rw [hf_o70, mo_i1] at hw67pe
                obtain ⟨hw67pek, hw67peq⟩ := hw67pe
                have hKN := hKN.th hw67pek (fun k q9 => False.elim q9)
                have pn72 : mo_R g71 (1) = n1 := (hw67peq.1).trans pn61
                have pn73 : mo_R g71 (11) = n11 := (hw67peq.2).trans pn62
                clear pn61 pn62 pn63
                exact W.vret hx hb hr (fun t ht hW => ⟨⟨f68, rfl, ⟨hT, hR, ⟨(by rw [hf_o70, mo_i1]; exact hI), (by rw [hf_o70, mo_i1, hf_o26, mo_i1]; exact hKN), (by first | (simp only [hf_o70, hf_o26, mo_i1]; omega) | (simp only [hf_o70, hf_o26, mo_i1]; trivial) | (simp only [hf_o70, hf_o26, mo_i1]; done) | omega)⟩⟩, by rw [ht]; exact hP, va_K.moved hW.alike hK, hD⟩, hS.F ht⟩) hS.2.2 dX12_doOrder_168
            · have ic45 : r42.toInt > 0 := zi_lef rfl rfl c45
              exfalso; omega
          · have ic44 : r42.toInt > 0 := zi_lef rfl rfl c44
            refine lv_iload hx hb dX12_doOrder_96 (lv_at hl 2 rfl) ?_
            refine lv_iconst (v := 1) hx hb dX12_doOrder_98 (by decide) ?_
            refine lv_icmp_ne (tgt := 112) hx hb dX12_doOrder_99 (by decide) (fun c74 => ?_) (fun c74 => ?_)
            · have ic74 : z32.toInt ≠ 1 := zi_ne rfl rfl c74
              refine lv_aload_n hx hb dX12_doOrder_112 rfl (lv_at hl 3 rfl) ?_
              refine lv_iload_n hx hb dX12_doOrder_113 rfl (lv_at hl 5 rfl) ?_
              refine lv_iload hx hb dX12_doOrder_114 (lv_at hl 0 rfl) ?_
              refine lv_iload_n hx hb dX12_doOrder_116 rfl (lv_at hl 6 rfl) ?_
              have hFc := tp_fr hD hS hA
              refine va_callv (va_runV (As := [.int us, .int r42, .int u]) (rest := []) ⟨hx, hb, hml, hown, hts⟩ (t_X12_land l dC dI _ κ Θ τ ν ρ L f hG hT h0 us r42 u x b qs ht_h0 (by first | decide | omega) (by omega) (by omega) (by omega) (by rw [hf_o26, mo_i1]; exact hI) (by first | (simp only [hf_o26, mo_i1]; omega) | (simp only [hf_o26, mo_i1]; trivial) | (simp only [hf_o26, mo_i1]; done) | omega) (by first | (simp only [hf_o26, mo_i1]; omega) | (simp only [hf_o26, mo_i1]; trivial) | (simp only [hf_o26, mo_i1]; done) | omega)) (cwV 3 hts gX12_doOrder_X12_land rfl rfl rfl ⟨rfl, pd_X12_land⟩ ⟨Nat.le_of_ble_eq_true rfl, Nat.le_of_ble_eq_true rfl⟩) ⟨pz_blind, va_recv hK hP (ci := 12) (q0 := q29) rfl eq29, pz_pre hP hK hD hN⟩ rfl rfl hl.1 rfl (lv_room (Nat.le_of_ble_eq_true rfl)) dX12_doOrder_117 ⟨Nat.le_of_ble_eq_true rfl, Nat.le_of_ble_eq_true rfl⟩) hS (fun q _ h => hFc q h) hFc (fun f77 t H1 locs ht hvm hw76 hB hz1 hk1 hS => ?_)
              refine tn_3 hw76 (fun hT hF78 hw76p => ?_); clear hw76
              have hR := hR.then hF78 (by decide)
              have hP := hB.1; rw [ht] at hP; have hD := tp_ad f77 hD; clear hB hFc hz1 hk1; subst ht; generalize t.heap = H at hP hS ⊢
              obtain ⟨hJ, hw76pe⟩ := hw76p
              refine tpk_32 hT y1 (fun g80 hf_o79 => ?_)
              have hI : mo_RI x b (mo_R g80) := by have q9 := hJ; rw [hf_o79, mo_i1] at q9; exact q9
              rw [hf_o26, mo_i1] at hw76pe
              rw [hf_o79, mo_i1] at hw76pe
              obtain ⟨hw76pek, hw76peq⟩ := hw76pe
              have hKN := hKN.th hw76pek (fun k q9 => False.elim q9)
              have pn81 : mo_R g80 (1) = n1 := (hw76peq.1).trans en1.symm
              have pn82 : mo_R g80 (11) = n11 := (hw76peq.2.1).trans en11.symm
              have pn83 : mo_R g80 (547 + 84 * qs + 10) = ns10 := (hw76peq.2.2).trans ens10.symm
              refine lv_aload_n hx hb dX12_doOrder_120 rfl (lv_at hl 3 rfl) ?_
              have hf_84 : f77 h0 = .inr (12, [.int o28_x0, .int o28_x1, .ref (ρ h0 2), .ref (ρ h0 3), .ref (ρ h0 4), .ref (ρ h0 5), .ref (ρ h0 6), .int o28_x7, .ref (ρ h0 8), .int o28_x9, .int o28_x10, .int o28_x11, .int o28_x12, .long o28_x13, .int o28_x14, .int o28_x15, .int o28_x16, .int o28_x17, .int o28_x18, .int o28_x19, .int o28_x20, .ref (ρ h0 21), .int o28_x22, .ref (ρ h0 23), .ref (ρ h0 24), .int o28_x25, .ref (ρ h0 26), .ref (ρ h0 27), .int o28_x28, .int o28_x29, .ref (ρ h0 30), .ref (ρ h0 31), .int o28_x32, .long o28_x33, .long o28_x34, .long o28_x35, .int o28_x36, .int o28_x37, .int o28_x38, .ref (ρ h0 39), .ref (ρ h0 40), .ref (ρ h0 41), .ref (ρ h0 42), .ref (ρ h0 43), .ref (ρ h0 44), .ref (ρ h0 45), .ref (ρ h0 46), .int o28_x47, .int o28_x48, .ref (ρ h0 49), .ref (ρ h0 50), .ref (ρ h0 51), .ref (ρ h0 52)]) := (hF78 _ (by rw [ht_h0]; decide)).trans hf_o28
              refine tpk_pos (tp_in hG ht_h0 (by decide)) hf_84 (fun q85 eq85 => ?_)
              refine va_get (D := (dC, dI)) (ci := 12) (v := .ref (ρ h0 2)) (C := RX12) (T := TX12) (N := 53) hx hb hts hfX12 hown hK hP q85 eq85 rfl 2 (by decide) (hts (.fieldLink RX12 7 "ColdShipsModel" "row" "[I") wa_148) (fun _ h9 => h9) rfl dX12_doOrder_121 ?_
              refine lv_iload_n hx hb dX12_doOrder_124 rfl (lv_at hl 5 rfl) ?_
              refine lv_bipush (v := 11) hx hb dX12_doOrder_125 (by decide) ?_
              refine lv_iadd hx hb dX12_doOrder_127 ?_
              refine lv_topi (fun z86 ez86 => ?_)
              have iz86 : z86.toInt = us.toInt + 11 := zi_add ez86 rfl rfl (by omega) (by omega)
              refine lv_dup2_11 hx hb dX12_doOrder_128 rfl rfl ?_
              refine tpk_pos (tp_in hG y1 (by decide)) hf_o79 (fun q87 eq87 => ?_)
              refine va_iald hx hb hK hP q87 0 eq87 rfl (vp_in_iff.mpr ⟨by omega, by omega⟩) dX12_doOrder_129 ?_
              refine lv_topi (fun z88 ez88 => ?_)
              refine lv_iload hx hb dX12_doOrder_130 (lv_at hl 0 rfl) ?_
              refine lv_isub hx hb dX12_doOrder_132 ?_
              refine lv_topi (fun z89 ez89 => ?_)
              refine va_iast hx hb hK hP hD hS q87 0 eq87 rfl (vp_in_iff.mpr ⟨by omega, by omega⟩) dX12_doOrder_133 (tp_k (.inl (κ 0, 12967, .inl (upd g80 z86.toNatClampNeg z89))) hD (tp_in hG y1 (by decide)) eq87 (fun f90 H locs hP hD hS g92 k91 => ?_))
              have hT := hT.up y1 g92 k91 tp_o32
              have hR := hR.up y1 (by decide) k91
              have hU : mo_U (mo_R g80) (mo_R (upd g80 z86.toNatClampNeg z89)) (547 + 84 * qs + 11) (z89.toInt) := mo_up (by omega) (rfl : z89.toInt = _) (by omega)
              generalize (upd g80 z86.toNatClampNeg z89) = g93 at g92 hU
              have hI := mo_w_sfree hI hU qs 11 (by omega) (by omega) (by omega)
              have hKN := hKN.up hU (Or.inl (by omega))
              have pn94 : mo_R g93 (1) = n1 := (hU.ne (by omega) (by omega)).trans pn81
              have pn95 : mo_R g93 (11) = n11 := (hU.ne (by omega) (by omega)).trans pn82
              have pn96 : mo_R g93 (547 + 84 * qs + 10) = ns10 := (hU.ne (by omega) (by omega)).trans pn83
              clear pn81 pn82 pn83
              refine lv_iload hx hb dX12_doOrder_134 (lv_at hl 0 rfl) ?_
              refine lv_if_le (tgt := 151) hx hb dX12_doOrder_136 (by decide) (fun c97 => ?_) (fun c97 => ?_)
              · have ic97 : r42.toInt ≤ 0 := zi_le rfl rfl c97
                exfalso; omega
              · have ic97 : r42.toInt > 0 := zi_lef rfl rfl c97
                refine lv_aload_n hx hb dX12_doOrder_139 rfl (lv_at hl 3 rfl) ?_
                have hf_98 : f90 h0 = .inr (12, [.int o28_x0, .int o28_x1, .ref (ρ h0 2), .ref (ρ h0 3), .ref (ρ h0 4), .ref (ρ h0 5), .ref (ρ h0 6), .int o28_x7, .ref (ρ h0 8), .int o28_x9, .int o28_x10, .int o28_x11, .int o28_x12, .long o28_x13, .int o28_x14, .int o28_x15, .int o28_x16, .int o28_x17, .int o28_x18, .int o28_x19, .int o28_x20, .ref (ρ h0 21), .int o28_x22, .ref (ρ h0 23), .ref (ρ h0 24), .int o28_x25, .ref (ρ h0 26), .ref (ρ h0 27), .int o28_x28, .int o28_x29, .ref (ρ h0 30), .ref (ρ h0 31), .int o28_x32, .long o28_x33, .long o28_x34, .long o28_x35, .int o28_x36, .int o28_x37, .int o28_x38, .ref (ρ h0 39), .ref (ρ h0 40), .ref (ρ h0 41), .ref (ρ h0 42), .ref (ρ h0 43), .ref (ρ h0 44), .ref (ρ h0 45), .ref (ρ h0 46), .int o28_x47, .int o28_x48, .ref (ρ h0 49), .ref (ρ h0 50), .ref (ρ h0 51), .ref (ρ h0 52)]) := (k91 _ (tp_ne ht_h0 y1 (by decide))).trans hf_84
                refine tpk_pos (tp_in hG ht_h0 (by decide)) hf_98 (fun q99 eq99 => ?_)
                refine va_get (D := (dC, dI)) (ci := 12) (v := .ref (ρ h0 2)) (C := RX12) (T := TX12) (N := 53) hx hb hts hfX12 hown hK hP q99 eq99 rfl 2 (by decide) (hts (.fieldLink RX12 7 "ColdShipsModel" "row" "[I") wa_148) (fun _ h9 => h9) rfl dX12_doOrder_140 ?_
                refine lv_iload_n hx hb dX12_doOrder_143 rfl (lv_at hl 5 rfl) ?_
                refine lv_bipush (v := 11) hx hb dX12_doOrder_144 (by decide) ?_
                refine lv_iadd hx hb dX12_doOrder_146 ?_
                refine lv_topi (fun z100 ez100 => ?_)
                have iz100 : z100.toInt = us.toInt + 11 := zi_add ez100 rfl rfl (by omega) (by omega)
                refine tpk_pos (tp_in hG y1 (by decide)) g92 (fun q101 eq101 => ?_)
                refine va_iald hx hb hK hP q101 0 eq101 rfl (vp_in_iff.mpr ⟨by omega, by omega⟩) dX12_doOrder_147 ?_
                refine lv_topi (fun z102 ez102 => ?_)
                refine lv_if_ne (tgt := 168) hx hb dX12_doOrder_148 (by decide) (fun c103 => ?_) (fun c103 => ?_)
                · have ic103 : z102.toInt ≠ 0 := zi_ne rfl rfl c103
                  exact W.vret hx hb hr (fun t ht hW => ⟨⟨f90, rfl, ⟨hT, hR, ⟨(by rw [g92, mo_i1]; exact hI), (by rw [g92, mo_i1, hf_o26, mo_i1]; exact hKN), (by first | (simp only [g92, hf_o26, mo_i1]; omega) | (simp only [g92, hf_o26, mo_i1]; trivial) | (simp only [g92, hf_o26, mo_i1]; done) | omega)⟩⟩, by rw [ht]; exact hP, va_K.moved hW.alike hK, hD⟩, hS.F ht⟩) hS.2.2 dX12_doOrder_168
                · have ic103 : z102.toInt = 0 := zi_nef rfl rfl c103
                  refine lv_iload hx hb dX12_doOrder_151 (lv_at hl 2 rfl) ?_
                  refine lv_iconst (v := 2) hx hb dX12_doOrder_153 (by decide) ?_
                  refine lv_icmp_ne (tgt := 163) hx hb dX12_doOrder_154 (by decide) (fun c104 => ?_) (fun c104 => ?_)
                  · have ic104 : z32.toInt ≠ 2 := zi_ne rfl rfl c104
                    refine lv_aload_n hx hb dX12_doOrder_163 rfl (lv_at hl 3 rfl) ?_
                    refine lv_iload_n hx hb dX12_doOrder_164 rfl (lv_at hl 5 rfl) ?_
                    have hFc := tp_fr hD hS hA
                    refine va_callv (va_runV (As := [.int us]) (rest := []) ⟨hx, hb, hml, hown, hts⟩ (t_X12_endOrder l dC dI _ κ Θ τ ν ρ L f90 hG hT h0 us x b qs ht_h0 (by omega) (by omega) (by omega) (by rw [g92, mo_i1]; exact hI) (by first | (simp only [g92, hf_o26, mo_i1]; omega) | (simp only [g92, hf_o26, mo_i1]; trivial) | (simp only [g92, hf_o26, mo_i1]; done) | omega) (by first | (simp only [g92, hf_o26, mo_i1]; omega) | (simp only [g92, hf_o26, mo_i1]; trivial) | (simp only [g92, hf_o26, mo_i1]; done) | omega)) (cwV 1 hts gX12_doOrder_X12_endOrder rfl rfl rfl ⟨rfl, pd_X12_endOrder⟩ ⟨Nat.le_of_ble_eq_true rfl, Nat.le_of_ble_eq_true rfl⟩) ⟨pz_blind, va_recv hK hP (ci := 12) (q0 := q99) rfl eq99, pz_pre hP hK hD hN⟩ rfl rfl hl.1 rfl (lv_room (Nat.le_of_ble_eq_true rfl)) dX12_doOrder_165 ⟨Nat.le_of_ble_eq_true rfl, Nat.le_of_ble_eq_true rfl⟩) hS (fun q _ h => hFc q h) hFc (fun f107 t H1 locs ht hvm hw106 hB hz1 hk1 hS => ?_)
                    refine tn_3 hw106 (fun hT hF108 hw106p => ?_); clear hw106
                    have hR := hR.then hF108 (by decide)
                    have hP := hB.1; rw [ht] at hP; have hD := tp_ad f107 hD; clear hB hFc hz1 hk1; subst ht; generalize t.heap = H at hP hS ⊢
                    obtain ⟨hJ, hw106pe⟩ := hw106p
                    refine tpk_32 hT y1 (fun g110 hf_o109 => ?_)
                    have hI : mo_RI x b (mo_R g110) := by have q9 := hJ; rw [hf_o109, mo_i1] at q9; exact q9
                    rw [g92, mo_i1] at hw106pe
                    rw [hf_o109, mo_i1] at hw106pe
                    obtain ⟨hw106pek, hw106peq⟩ := hw106pe
                    have hKN := hKN.th hw106pek (fun k q9 => False.elim q9)
                    have pn111 : mo_R g110 (1) = n1 := (hw106peq.1).trans pn94
                    have pn112 : mo_R g110 (11) = n11 := (hw106peq.2).trans pn95
                    clear pn94 pn95 pn96
                    exact W.vret hx hb hr (fun t ht hW => ⟨⟨f107, rfl, ⟨hT, hR, ⟨(by rw [hf_o109, mo_i1]; exact hI), (by rw [hf_o109, mo_i1, hf_o26, mo_i1]; exact hKN), (by first | (simp only [hf_o109, hf_o26, mo_i1]; omega) | (simp only [hf_o109, hf_o26, mo_i1]; trivial) | (simp only [hf_o109, hf_o26, mo_i1]; done) | omega)⟩⟩, by rw [ht]; exact hP, va_K.moved hW.alike hK, hD⟩, hS.F ht⟩) hS.2.2 dX12_doOrder_168
                  · have ic104 : z32.toInt = 2 := zi_nef rfl rfl c104
                    refine lv_aload_n hx hb dX12_doOrder_157 rfl (lv_at hl 3 rfl) ?_
                    refine lv_iload_n hx hb dX12_doOrder_158 rfl (lv_at hl 4 rfl) ?_
                    refine lv_iload_n hx hb dX12_doOrder_159 rfl (lv_at hl 5 rfl) ?_
                    have hFc := tp_fr hD hS hA
                    refine va_callv (va_runV (As := [.int v, .int us]) (rest := []) ⟨hx, hb, hml, hown, hts⟩ (t_X12_endLanding l dC dI _ κ Θ τ ν ρ L f90 hG hT h0 v us x b qs ht_h0 (by omega) (by omega) (by omega) (by rw [g92, mo_i1]; exact hI) (by omega) (by first | (simp only [g92, hf_o26, mo_i1]; omega) | (simp only [g92, hf_o26, mo_i1]; trivial) | (simp only [g92, hf_o26, mo_i1]; done) | omega)) (cwV 2 hts gX12_doOrder_X12_endLanding rfl rfl rfl ⟨rfl, pd_X12_endLanding⟩ ⟨Nat.le_of_ble_eq_true rfl, Nat.le_of_ble_eq_true rfl⟩) ⟨pz_blind, va_recv hK hP (ci := 12) (q0 := q99) rfl eq99, pz_pre hP hK hD hN⟩ rfl rfl hl.1 rfl (lv_room (Nat.le_of_ble_eq_true rfl)) dX12_doOrder_160 ⟨Nat.le_of_ble_eq_true rfl, Nat.le_of_ble_eq_true rfl⟩) hS (fun q _ h => hFc q h) hFc (fun f115 t H1 locs ht hvm hw114 hB hz1 hk1 hS => ?_)
                    refine tn_3 hw114 (fun hT hF116 hw114p => ?_); clear hw114
                    have hR := hR.then hF116 (by decide)
                    have hP := hB.1; rw [ht] at hP; have hD := tp_ad f115 hD; clear hB hFc hz1 hk1; subst ht; generalize t.heap = H at hP hS ⊢
                    obtain ⟨hJ, hw114pe⟩ := hw114p
                    refine tpk_32 hT y1 (fun g118 hf_o117 => ?_)
                    have hI : mo_RI x b (mo_R g118) := by have q9 := hJ; rw [hf_o117, mo_i1] at q9; exact q9
                    rw [g92, mo_i1] at hw114pe
                    rw [hf_o117, mo_i1] at hw114pe
                    obtain ⟨hw114pek, hw114peq⟩ := hw114pe
                    have hKN := hKN.th hw114pek (fun k q9 => by have q8 : k = 5 := q9; show k = 5; omega)
                    have pn119 : mo_R g118 (1) = n1 := (hw114peq.1).trans pn94
                    have pn120 : mo_R g118 (11) = n11 := (hw114peq.2.1).trans pn95
                    have pn121 : mo_R g118 (547 + 84 * qs + 10) = ns10 := (hw114peq.2.2).trans pn96
                    clear pn94 pn95 pn96
                    refine lv_aload_n hx hb dX12_doOrder_163 rfl (lv_at hl 3 rfl) ?_
                    refine lv_iload_n hx hb dX12_doOrder_164 rfl (lv_at hl 5 rfl) ?_
                    have hf_122 : f115 h0 = .inr (12, [.int o28_x0, .int o28_x1, .ref (ρ h0 2), .ref (ρ h0 3), .ref (ρ h0 4), .ref (ρ h0 5), .ref (ρ h0 6), .int o28_x7, .ref (ρ h0 8), .int o28_x9, .int o28_x10, .int o28_x11, .int o28_x12, .long o28_x13, .int o28_x14, .int o28_x15, .int o28_x16, .int o28_x17, .int o28_x18, .int o28_x19, .int o28_x20, .ref (ρ h0 21), .int o28_x22, .ref (ρ h0 23), .ref (ρ h0 24), .int o28_x25, .ref (ρ h0 26), .ref (ρ h0 27), .int o28_x28, .int o28_x29, .ref (ρ h0 30), .ref (ρ h0 31), .int o28_x32, .long o28_x33, .long o28_x34, .long o28_x35, .int o28_x36, .int o28_x37, .int o28_x38, .ref (ρ h0 39), .ref (ρ h0 40), .ref (ρ h0 41), .ref (ρ h0 42), .ref (ρ h0 43), .ref (ρ h0 44), .ref (ρ h0 45), .ref (ρ h0 46), .int o28_x47, .int o28_x48, .ref (ρ h0 49), .ref (ρ h0 50), .ref (ρ h0 51), .ref (ρ h0 52)]) := (hF116 _ (by rw [ht_h0]; decide)).trans hf_98
                    refine tpk_pos (tp_in hG ht_h0 (by decide)) hf_122 (fun q123 eq123 => ?_)
                    have hFc := tp_fr hD hS hA
                    refine va_callv (va_runV (As := [.int us]) (rest := []) ⟨hx, hb, hml, hown, hts⟩ (t_X12_endOrder l dC dI _ κ Θ τ ν ρ L f115 hG hT h0 us x b qs ht_h0 (by omega) (by omega) (by omega) (by rw [hf_o117, mo_i1]; exact hI) (by first | (simp only [hf_o117, hf_o26, mo_i1]; omega) | (simp only [hf_o117, hf_o26, mo_i1]; trivial) | (simp only [hf_o117, hf_o26, mo_i1]; done) | omega) (by first | (simp only [hf_o117, hf_o26, mo_i1]; omega) | (simp only [hf_o117, hf_o26, mo_i1]; trivial) | (simp only [hf_o117, hf_o26, mo_i1]; done) | omega)) (cwV 1 hts gX12_doOrder_X12_endOrder rfl rfl rfl ⟨rfl, pd_X12_endOrder⟩ ⟨Nat.le_of_ble_eq_true rfl, Nat.le_of_ble_eq_true rfl⟩) ⟨pz_blind, va_recv hK hP (ci := 12) (q0 := q123) rfl eq123, pz_pre hP hK hD hN⟩ rfl rfl hl.1 rfl (lv_room (Nat.le_of_ble_eq_true rfl)) dX12_doOrder_165 ⟨Nat.le_of_ble_eq_true rfl, Nat.le_of_ble_eq_true rfl⟩) hS (fun q _ h => hFc q h) hFc (fun f126 t H1 locs ht hvm hw125 hB hz1 hk1 hS => ?_)
                    refine tn_3 hw125 (fun hT hF127 hw125p => ?_); clear hw125
                    have hR := hR.then hF127 (by decide)
                    have hP := hB.1; rw [ht] at hP; have hD := tp_ad f126 hD; clear hB hFc hz1 hk1; subst ht; generalize t.heap = H at hP hS ⊢
                    obtain ⟨hJ, hw125pe⟩ := hw125p
                    refine tpk_32 hT y1 (fun g129 hf_o128 => ?_)
                    have hI : mo_RI x b (mo_R g129) := by have q9 := hJ; rw [hf_o128, mo_i1] at q9; exact q9
                    rw [hf_o117, mo_i1] at hw125pe
                    rw [hf_o128, mo_i1] at hw125pe
                    obtain ⟨hw125pek, hw125peq⟩ := hw125pe
                    have hKN := hKN.th hw125pek (fun k q9 => False.elim q9)
                    have pn130 : mo_R g129 (1) = n1 := (hw125peq.1).trans pn119
                    have pn131 : mo_R g129 (11) = n11 := (hw125peq.2).trans pn120
                    clear pn119 pn120 pn121
                    exact W.vret hx hb hr (fun t ht hW => ⟨⟨f126, rfl, ⟨hT, hR, ⟨(by rw [hf_o128, mo_i1]; exact hI), (by rw [hf_o128, mo_i1, hf_o26, mo_i1]; exact hKN), (by first | (simp only [hf_o128, hf_o26, mo_i1]; omega) | (simp only [hf_o128, hf_o26, mo_i1]; trivial) | (simp only [hf_o128, hf_o26, mo_i1]; done) | omega)⟩⟩, by rw [ht]; exact hP, va_K.moved hW.alike hK, hD⟩, hS.F ht⟩) hS.2.2 dX12_doOrder_168
            · have ic74 : z32.toInt = 1 := zi_nef rfl rfl c74
              refine lv_aload_n hx hb dX12_doOrder_102 rfl (lv_at hl 3 rfl) ?_
              refine lv_iload_n hx hb dX12_doOrder_103 rfl (lv_at hl 5 rfl) ?_
              refine lv_iload hx hb dX12_doOrder_104 (lv_at hl 0 rfl) ?_
              have hFc := tp_fr hD hS hA
              refine va_callv (va_runV (As := [.int us, .int r42]) (rest := []) ⟨hx, hb, hml, hown, hts⟩ (t_X12_load l dC dI _ κ Θ τ ν ρ L f hG hT h0 us r42 x b qs ht_h0 (by omega) (by omega) (by omega) (by rw [hf_o26, mo_i1]; exact hI) (by first | (simp only [hf_o26, mo_i1]; omega) | (simp only [hf_o26, mo_i1]; trivial) | (simp only [hf_o26, mo_i1]; done) | omega) (by first | (simp only [hf_o26, mo_i1]; omega) | (simp only [hf_o26, mo_i1]; trivial) | (simp only [hf_o26, mo_i1]; done) | omega)) (cwV 2 hts gX12_doOrder_X12_load rfl rfl rfl ⟨rfl, pd_X12_load⟩ ⟨Nat.le_of_ble_eq_true rfl, Nat.le_of_ble_eq_true rfl⟩) ⟨pz_blind, va_recv hK hP (ci := 12) (q0 := q29) rfl eq29, pz_pre hP hK hD hN⟩ rfl rfl hl.1 rfl (lv_room (Nat.le_of_ble_eq_true rfl)) dX12_doOrder_106 ⟨Nat.le_of_ble_eq_true rfl, Nat.le_of_ble_eq_true rfl⟩) hS (fun q _ h => hFc q h) hFc (fun f134 t H1 locs ht hvm hw133 hB hz1 hk1 hS => ?_)
              refine tn_3 hw133 (fun hT hF135 hw133p => ?_); clear hw133
              have hR := hR.then hF135 (by decide)
              have hP := hB.1; rw [ht] at hP; have hD := tp_ad f134 hD; clear hB hFc hz1 hk1; subst ht; generalize t.heap = H at hP hS ⊢
              obtain ⟨hJ, hw133pe⟩ := hw133p
              refine tpk_32 hT y1 (fun g137 hf_o136 => ?_)
              have hI : mo_RI x b (mo_R g137) := by have q9 := hJ; rw [hf_o136, mo_i1] at q9; exact q9
              rw [hf_o26, mo_i1] at hw133pe
              rw [hf_o136, mo_i1] at hw133pe
              obtain ⟨hw133pek, hw133peq⟩ := hw133pe
              have hKN := hKN.th hw133pek (fun k q9 => False.elim q9)
              have pn138 : mo_R g137 (1) = n1 := (hw133peq.1).trans en1.symm
              have pn139 : mo_R g137 (11) = n11 := (hw133peq.2.1).trans en11.symm
              have pn140 : mo_R g137 (547 + 84 * qs + 10) = ns10 := (hw133peq.2.2).trans ens10.symm
              refine lv_goto (tgt := 120) hx hb dX12_doOrder_109 (by decide) ?_
              refine lv_aload_n hx hb dX12_doOrder_120 rfl (lv_at hl 3 rfl) ?_
              have hf_141 : f134 h0 = .inr (12, [.int o28_x0, .int o28_x1, .ref (ρ h0 2), .ref (ρ h0 3), .ref (ρ h0 4), .ref (ρ h0 5), .ref (ρ h0 6), .int o28_x7, .ref (ρ h0 8), .int o28_x9, .int o28_x10, .int o28_x11, .int o28_x12, .long o28_x13, .int o28_x14, .int o28_x15, .int o28_x16, .int o28_x17, .int o28_x18, .int o28_x19, .int o28_x20, .ref (ρ h0 21), .int o28_x22, .ref (ρ h0 23), .ref (ρ h0 24), .int o28_x25, .ref (ρ h0 26), .ref (ρ h0 27), .int o28_x28, .int o28_x29, .ref (ρ h0 30), .ref (ρ h0 31), .int o28_x32, .long o28_x33, .long o28_x34, .long o28_x35, .int o28_x36, .int o28_x37, .int o28_x38, .ref (ρ h0 39), .ref (ρ h0 40), .ref (ρ h0 41), .ref (ρ h0 42), .ref (ρ h0 43), .ref (ρ h0 44), .ref (ρ h0 45), .ref (ρ h0 46), .int o28_x47, .int o28_x48, .ref (ρ h0 49), .ref (ρ h0 50), .ref (ρ h0 51), .ref (ρ h0 52)]) := (hF135 _ (by rw [ht_h0]; decide)).trans hf_o28
              refine tpk_pos (tp_in hG ht_h0 (by decide)) hf_141 (fun q142 eq142 => ?_)
              refine va_get (D := (dC, dI)) (ci := 12) (v := .ref (ρ h0 2)) (C := RX12) (T := TX12) (N := 53) hx hb hts hfX12 hown hK hP q142 eq142 rfl 2 (by decide) (hts (.fieldLink RX12 7 "ColdShipsModel" "row" "[I") wa_148) (fun _ h9 => h9) rfl dX12_doOrder_121 ?_
              refine lv_iload_n hx hb dX12_doOrder_124 rfl (lv_at hl 5 rfl) ?_
              refine lv_bipush (v := 11) hx hb dX12_doOrder_125 (by decide) ?_
              refine lv_iadd hx hb dX12_doOrder_127 ?_
              refine lv_topi (fun z143 ez143 => ?_)
              have iz143 : z143.toInt = us.toInt + 11 := zi_add ez143 rfl rfl (by omega) (by omega)
              refine lv_dup2_11 hx hb dX12_doOrder_128 rfl rfl ?_
              refine tpk_pos (tp_in hG y1 (by decide)) hf_o136 (fun q144 eq144 => ?_)
              refine va_iald hx hb hK hP q144 0 eq144 rfl (vp_in_iff.mpr ⟨by omega, by omega⟩) dX12_doOrder_129 ?_
              refine lv_topi (fun z145 ez145 => ?_)
              refine lv_iload hx hb dX12_doOrder_130 (lv_at hl 0 rfl) ?_
              refine lv_isub hx hb dX12_doOrder_132 ?_
              refine lv_topi (fun z146 ez146 => ?_)
              refine va_iast hx hb hK hP hD hS q144 0 eq144 rfl (vp_in_iff.mpr ⟨by omega, by omega⟩) dX12_doOrder_133 (tp_k (.inl (κ 0, 12967, .inl (upd g137 z143.toNatClampNeg z146))) hD (tp_in hG y1 (by decide)) eq144 (fun f147 H locs hP hD hS g149 k148 => ?_))
              have hT := hT.up y1 g149 k148 tp_o32
              have hR := hR.up y1 (by decide) k148
              have hU : mo_U (mo_R g137) (mo_R (upd g137 z143.toNatClampNeg z146)) (547 + 84 * qs + 11) (z146.toInt) := mo_up (by omega) (rfl : z146.toInt = _) (by omega)
              generalize (upd g137 z143.toNatClampNeg z146) = g150 at g149 hU
              have hI := mo_w_sfree hI hU qs 11 (by omega) (by omega) (by omega)
              have hKN := hKN.up hU (Or.inl (by omega))
              have pn151 : mo_R g150 (1) = n1 := (hU.ne (by omega) (by omega)).trans pn138
              have pn152 : mo_R g150 (11) = n11 := (hU.ne (by omega) (by omega)).trans pn139
              have pn153 : mo_R g150 (547 + 84 * qs + 10) = ns10 := (hU.ne (by omega) (by omega)).trans pn140
              clear pn138 pn139 pn140
              refine lv_iload hx hb dX12_doOrder_134 (lv_at hl 0 rfl) ?_
              refine lv_if_le (tgt := 151) hx hb dX12_doOrder_136 (by decide) (fun c154 => ?_) (fun c154 => ?_)
              · have ic154 : r42.toInt ≤ 0 := zi_le rfl rfl c154
                exfalso; omega
              · have ic154 : r42.toInt > 0 := zi_lef rfl rfl c154
                refine lv_aload_n hx hb dX12_doOrder_139 rfl (lv_at hl 3 rfl) ?_
                have hf_155 : f147 h0 = .inr (12, [.int o28_x0, .int o28_x1, .ref (ρ h0 2), .ref (ρ h0 3), .ref (ρ h0 4), .ref (ρ h0 5), .ref (ρ h0 6), .int o28_x7, .ref (ρ h0 8), .int o28_x9, .int o28_x10, .int o28_x11, .int o28_x12, .long o28_x13, .int o28_x14, .int o28_x15, .int o28_x16, .int o28_x17, .int o28_x18, .int o28_x19, .int o28_x20, .ref (ρ h0 21), .int o28_x22, .ref (ρ h0 23), .ref (ρ h0 24), .int o28_x25, .ref (ρ h0 26), .ref (ρ h0 27), .int o28_x28, .int o28_x29, .ref (ρ h0 30), .ref (ρ h0 31), .int o28_x32, .long o28_x33, .long o28_x34, .long o28_x35, .int o28_x36, .int o28_x37, .int o28_x38, .ref (ρ h0 39), .ref (ρ h0 40), .ref (ρ h0 41), .ref (ρ h0 42), .ref (ρ h0 43), .ref (ρ h0 44), .ref (ρ h0 45), .ref (ρ h0 46), .int o28_x47, .int o28_x48, .ref (ρ h0 49), .ref (ρ h0 50), .ref (ρ h0 51), .ref (ρ h0 52)]) := (k148 _ (tp_ne ht_h0 y1 (by decide))).trans hf_141
                refine tpk_pos (tp_in hG ht_h0 (by decide)) hf_155 (fun q156 eq156 => ?_)
                refine va_get (D := (dC, dI)) (ci := 12) (v := .ref (ρ h0 2)) (C := RX12) (T := TX12) (N := 53) hx hb hts hfX12 hown hK hP q156 eq156 rfl 2 (by decide) (hts (.fieldLink RX12 7 "ColdShipsModel" "row" "[I") wa_148) (fun _ h9 => h9) rfl dX12_doOrder_140 ?_
                refine lv_iload_n hx hb dX12_doOrder_143 rfl (lv_at hl 5 rfl) ?_
                refine lv_bipush (v := 11) hx hb dX12_doOrder_144 (by decide) ?_
                refine lv_iadd hx hb dX12_doOrder_146 ?_
                refine lv_topi (fun z157 ez157 => ?_)
                have iz157 : z157.toInt = us.toInt + 11 := zi_add ez157 rfl rfl (by omega) (by omega)
                refine tpk_pos (tp_in hG y1 (by decide)) g149 (fun q158 eq158 => ?_)
                refine va_iald hx hb hK hP q158 0 eq158 rfl (vp_in_iff.mpr ⟨by omega, by omega⟩) dX12_doOrder_147 ?_
                refine lv_topi (fun z159 ez159 => ?_)
                refine lv_if_ne (tgt := 168) hx hb dX12_doOrder_148 (by decide) (fun c160 => ?_) (fun c160 => ?_)
                · have ic160 : z159.toInt ≠ 0 := zi_ne rfl rfl c160
                  exact W.vret hx hb hr (fun t ht hW => ⟨⟨f147, rfl, ⟨hT, hR, ⟨(by rw [g149, mo_i1]; exact hI), (by rw [g149, mo_i1, hf_o26, mo_i1]; exact hKN), (by first | (simp only [g149, hf_o26, mo_i1]; omega) | (simp only [g149, hf_o26, mo_i1]; trivial) | (simp only [g149, hf_o26, mo_i1]; done) | omega)⟩⟩, by rw [ht]; exact hP, va_K.moved hW.alike hK, hD⟩, hS.F ht⟩) hS.2.2 dX12_doOrder_168
                · have ic160 : z159.toInt = 0 := zi_nef rfl rfl c160
                  refine lv_iload hx hb dX12_doOrder_151 (lv_at hl 2 rfl) ?_
                  refine lv_iconst (v := 2) hx hb dX12_doOrder_153 (by decide) ?_
                  refine lv_icmp_ne (tgt := 163) hx hb dX12_doOrder_154 (by decide) (fun c161 => ?_) (fun c161 => ?_)
                  · have ic161 : z32.toInt ≠ 2 := zi_ne rfl rfl c161
                    refine lv_aload_n hx hb dX12_doOrder_163 rfl (lv_at hl 3 rfl) ?_
                    refine lv_iload_n hx hb dX12_doOrder_164 rfl (lv_at hl 5 rfl) ?_
                    have hFc := tp_fr hD hS hA
                    refine va_callv (va_runV (As := [.int us]) (rest := []) ⟨hx, hb, hml, hown, hts⟩ (t_X12_endOrder l dC dI _ κ Θ τ ν ρ L f147 hG hT h0 us x b qs ht_h0 (by omega) (by omega) (by omega) (by rw [g149, mo_i1]; exact hI) (by first | (simp only [g149, hf_o26, mo_i1]; omega) | (simp only [g149, hf_o26, mo_i1]; trivial) | (simp only [g149, hf_o26, mo_i1]; done) | omega) (by first | (simp only [g149, hf_o26, mo_i1]; omega) | (simp only [g149, hf_o26, mo_i1]; trivial) | (simp only [g149, hf_o26, mo_i1]; done) | omega)) (cwV 1 hts gX12_doOrder_X12_endOrder rfl rfl rfl ⟨rfl, pd_X12_endOrder⟩ ⟨Nat.le_of_ble_eq_true rfl, Nat.le_of_ble_eq_true rfl⟩) ⟨pz_blind, va_recv hK hP (ci := 12) (q0 := q156) rfl eq156, pz_pre hP hK hD hN⟩ rfl rfl hl.1 rfl (lv_room (Nat.le_of_ble_eq_true rfl)) dX12_doOrder_165 ⟨Nat.le_of_ble_eq_true rfl, Nat.le_of_ble_eq_true rfl⟩) hS (fun q _ h => hFc q h) hFc (fun f164 t H1 locs ht hvm hw163 hB hz1 hk1 hS => ?_)
                    refine tn_3 hw163 (fun hT hF165 hw163p => ?_); clear hw163
                    have hR := hR.then hF165 (by decide)
                    have hP := hB.1; rw [ht] at hP; have hD := tp_ad f164 hD; clear hB hFc hz1 hk1; subst ht; generalize t.heap = H at hP hS ⊢
                    obtain ⟨hJ, hw163pe⟩ := hw163p
                    refine tpk_32 hT y1 (fun g167 hf_o166 => ?_)
                    have hI : mo_RI x b (mo_R g167) := by have q9 := hJ; rw [hf_o166, mo_i1] at q9; exact q9
                    rw [g149, mo_i1] at hw163pe
                    rw [hf_o166, mo_i1] at hw163pe
                    obtain ⟨hw163pek, hw163peq⟩ := hw163pe
                    have hKN := hKN.th hw163pek (fun k q9 => False.elim q9)
                    have pn168 : mo_R g167 (1) = n1 := (hw163peq.1).trans pn151
                    have pn169 : mo_R g167 (11) = n11 := (hw163peq.2).trans pn152
                    clear pn151 pn152 pn153
                    exact W.vret hx hb hr (fun t ht hW => ⟨⟨f164, rfl, ⟨hT, hR, ⟨(by rw [hf_o166, mo_i1]; exact hI), (by rw [hf_o166, mo_i1, hf_o26, mo_i1]; exact hKN), (by first | (simp only [hf_o166, hf_o26, mo_i1]; omega) | (simp only [hf_o166, hf_o26, mo_i1]; trivial) | (simp only [hf_o166, hf_o26, mo_i1]; done) | omega)⟩⟩, by rw [ht]; exact hP, va_K.moved hW.alike hK, hD⟩, hS.F ht⟩) hS.2.2 dX12_doOrder_168
                  · have ic161 : z32.toInt = 2 := zi_nef rfl rfl c161
                    exfalso; omega
        · have ic41 : z32.toInt = 1 := zi_nef rfl rfl c41
          refine lv_aload_n hx hb dX12_doOrder_76 rfl (lv_at hl 2 rfl) ?_
          refine lv_iload_n hx hb dX12_doOrder_77 rfl (lv_at hl 4 rfl) ?_
          refine pz_calli (va_runV (As := [.int us]) (rest := []) ⟨hx, hb, hml, hown, hts⟩ (t_X12_toLoad l dC dI _ κ Θ τ ν ρ L f hG hT h0 us x b qs ht_h0 (by omega) (by omega) (by omega) (by rw [hf_o26, mo_i1]; exact hI) (by first | (simp only [hf_o26, mo_i1]; omega) | (simp only [hf_o26, mo_i1]; trivial) | (simp only [hf_o26, mo_i1]; done) | omega)) (cwV 1 hts gX12_doOrder_X12_toLoad rfl rfl rfl ⟨rfl, pd_X12_toLoad⟩ ⟨Nat.le_of_ble_eq_true rfl, Nat.le_of_ble_eq_true rfl⟩) ⟨pz_blind, va_recv hK hP (ci := 12) (q0 := q29) rfl eq29, pz_pre hP hK hD hN⟩ rfl rfl hl.1 rfl (lv_room (Nat.le_of_ble_eq_true rfl)) dX12_doOrder_78 ⟨Nat.le_of_ble_eq_true rfl, Nat.le_of_ble_eq_true rfl⟩) (fun r170 hw171 => ?_)
          obtain ⟨hw171r, hw171p⟩ := hw171
          rw [hf_o26, mo_i1] at hw171p
          refine lv_goto (tgt := 89) hx hb dX12_doOrder_81 (by decide) ?_
          refine lv_istore (lv' := [(6, .int r170), (5, .int z35), (4, .int z32), (0, .ref h0), (1, .int v), (2, .int us), (3, .int u)]) hx hb dX12_doOrder_89 hl (by decide) rfl (fun ls hl => ?_)
          refine lv_iload hx hb dX12_doOrder_91 (lv_at hl 0 rfl) ?_
          refine lv_if_le (tgt := 134) hx hb dX12_doOrder_93 (by decide) (fun c172 => ?_) (fun c172 => ?_)
          · have ic172 : r170.toInt ≤ 0 := zi_le rfl rfl c172
            refine lv_iload hx hb dX12_doOrder_134 (lv_at hl 0 rfl) ?_
            refine lv_if_le (tgt := 151) hx hb dX12_doOrder_136 (by decide) (fun c173 => ?_) (fun c173 => ?_)
            · have ic173 : r170.toInt ≤ 0 := zi_le rfl rfl c173
              refine lv_iload hx hb dX12_doOrder_151 (lv_at hl 2 rfl) ?_
              refine lv_iconst (v := 2) hx hb dX12_doOrder_153 (by decide) ?_
              refine lv_icmp_ne (tgt := 163) hx hb dX12_doOrder_154 (by decide) (fun c174 => ?_) (fun c174 => ?_)
              · have ic174 : z32.toInt ≠ 2 := zi_ne rfl rfl c174
                refine lv_aload_n hx hb dX12_doOrder_163 rfl (lv_at hl 3 rfl) ?_
                refine lv_iload_n hx hb dX12_doOrder_164 rfl (lv_at hl 5 rfl) ?_
                have hFc := tp_fr hD hS hA
                refine va_callv (va_runV (As := [.int us]) (rest := []) ⟨hx, hb, hml, hown, hts⟩ (t_X12_endOrder l dC dI _ κ Θ τ ν ρ L f hG hT h0 us x b qs ht_h0 (by omega) (by omega) (by omega) (by rw [hf_o26, mo_i1]; exact hI) (by first | (simp only [hf_o26, mo_i1]; omega) | (simp only [hf_o26, mo_i1]; trivial) | (simp only [hf_o26, mo_i1]; done) | omega) (by first | (simp only [hf_o26, mo_i1]; omega) | (simp only [hf_o26, mo_i1]; trivial) | (simp only [hf_o26, mo_i1]; done) | omega)) (cwV 1 hts gX12_doOrder_X12_endOrder rfl rfl rfl ⟨rfl, pd_X12_endOrder⟩ ⟨Nat.le_of_ble_eq_true rfl, Nat.le_of_ble_eq_true rfl⟩) ⟨pz_blind, va_recv hK hP (ci := 12) (q0 := q29) rfl eq29, pz_pre hP hK hD hN⟩ rfl rfl hl.1 rfl (lv_room (Nat.le_of_ble_eq_true rfl)) dX12_doOrder_165 ⟨Nat.le_of_ble_eq_true rfl, Nat.le_of_ble_eq_true rfl⟩) hS (fun q _ h => hFc q h) hFc (fun f177 t H1 locs ht hvm hw176 hB hz1 hk1 hS => ?_)
                refine tn_3 hw176 (fun hT hF178 hw176p => ?_); clear hw176
                have hR := hR.then hF178 (by decide)
                have hP := hB.1; rw [ht] at hP; have hD := tp_ad f177 hD; clear hB hFc hz1 hk1; subst ht; generalize t.heap = H at hP hS ⊢
                obtain ⟨hJ, hw176pe⟩ := hw176p
                refine tpk_32 hT y1 (fun g180 hf_o179 => ?_)
                have hI : mo_RI x b (mo_R g180) := by have q9 := hJ; rw [hf_o179, mo_i1] at q9; exact q9
                rw [hf_o26, mo_i1] at hw176pe
                rw [hf_o179, mo_i1] at hw176pe
                obtain ⟨hw176pek, hw176peq⟩ := hw176pe
                have hKN := hKN.th hw176pek (fun k q9 => False.elim q9)
                have pn181 : mo_R g180 (1) = n1 := (hw176peq.1).trans en1.symm
                have pn182 : mo_R g180 (11) = n11 := (hw176peq.2).trans en11.symm
                exact W.vret hx hb hr (fun t ht hW => ⟨⟨f177, rfl, ⟨hT, hR, ⟨(by rw [hf_o179, mo_i1]; exact hI), (by rw [hf_o179, mo_i1, hf_o26, mo_i1]; exact hKN), (by first | (simp only [hf_o179, hf_o26, mo_i1]; omega) | (simp only [hf_o179, hf_o26, mo_i1]; trivial) | (simp only [hf_o179, hf_o26, mo_i1]; done) | omega)⟩⟩, by rw [ht]; exact hP, va_K.moved hW.alike hK, hD⟩, hS.F ht⟩) hS.2.2 dX12_doOrder_168
              · have ic174 : z32.toInt = 2 := zi_nef rfl rfl c174
                exfalso; omega
            · have ic173 : r170.toInt > 0 := zi_lef rfl rfl c173
              exfalso; omega
          · have ic172 : r170.toInt > 0 := zi_lef rfl rfl c172
            refine lv_iload hx hb dX12_doOrder_96 (lv_at hl 2 rfl) ?_
            refine lv_iconst (v := 1) hx hb dX12_doOrder_98 (by decide) ?_
            refine lv_icmp_ne (tgt := 112) hx hb dX12_doOrder_99 (by decide) (fun c183 => ?_) (fun c183 => ?_)
            · have ic183 : z32.toInt ≠ 1 := zi_ne rfl rfl c183
              exfalso; omega
            · have ic183 : z32.toInt = 1 := zi_nef rfl rfl c183
              refine lv_aload_n hx hb dX12_doOrder_102 rfl (lv_at hl 3 rfl) ?_
              refine lv_iload_n hx hb dX12_doOrder_103 rfl (lv_at hl 5 rfl) ?_
              refine lv_iload hx hb dX12_doOrder_104 (lv_at hl 0 rfl) ?_
              have hFc := tp_fr hD hS hA
              refine va_callv (va_runV (As := [.int us, .int r170]) (rest := []) ⟨hx, hb, hml, hown, hts⟩ (t_X12_load l dC dI _ κ Θ τ ν ρ L f hG hT h0 us r170 x b qs ht_h0 (by omega) (by omega) (by omega) (by rw [hf_o26, mo_i1]; exact hI) (by first | (simp only [hf_o26, mo_i1]; omega) | (simp only [hf_o26, mo_i1]; trivial) | (simp only [hf_o26, mo_i1]; done) | omega) (by first | (simp only [hf_o26, mo_i1]; omega) | (simp only [hf_o26, mo_i1]; trivial) | (simp only [hf_o26, mo_i1]; done) | omega)) (cwV 2 hts gX12_doOrder_X12_load rfl rfl rfl ⟨rfl, pd_X12_load⟩ ⟨Nat.le_of_ble_eq_true rfl, Nat.le_of_ble_eq_true rfl⟩) ⟨pz_blind, va_recv hK hP (ci := 12) (q0 := q29) rfl eq29, pz_pre hP hK hD hN⟩ rfl rfl hl.1 rfl (lv_room (Nat.le_of_ble_eq_true rfl)) dX12_doOrder_106 ⟨Nat.le_of_ble_eq_true rfl, Nat.le_of_ble_eq_true rfl⟩) hS (fun q _ h => hFc q h) hFc (fun f186 t H1 locs ht hvm hw185 hB hz1 hk1 hS => ?_)
              refine tn_3 hw185 (fun hT hF187 hw185p => ?_); clear hw185
              have hR := hR.then hF187 (by decide)
              have hP := hB.1; rw [ht] at hP; have hD := tp_ad f186 hD; clear hB hFc hz1 hk1; subst ht; generalize t.heap = H at hP hS ⊢
              obtain ⟨hJ, hw185pe⟩ := hw185p
              refine tpk_32 hT y1 (fun g189 hf_o188 => ?_)
              have hI : mo_RI x b (mo_R g189) := by have q9 := hJ; rw [hf_o188, mo_i1] at q9; exact q9
              rw [hf_o26, mo_i1] at hw185pe
              rw [hf_o188, mo_i1] at hw185pe
              obtain ⟨hw185pek, hw185peq⟩ := hw185pe
              have hKN := hKN.th hw185pek (fun k q9 => False.elim q9)
              have pn190 : mo_R g189 (1) = n1 := (hw185peq.1).trans en1.symm
              have pn191 : mo_R g189 (11) = n11 := (hw185peq.2.1).trans en11.symm
              have pn192 : mo_R g189 (547 + 84 * qs + 10) = ns10 := (hw185peq.2.2).trans ens10.symm
              refine lv_goto (tgt := 120) hx hb dX12_doOrder_109 (by decide) ?_
              refine lv_aload_n hx hb dX12_doOrder_120 rfl (lv_at hl 3 rfl) ?_
              have hf_193 : f186 h0 = .inr (12, [.int o28_x0, .int o28_x1, .ref (ρ h0 2), .ref (ρ h0 3), .ref (ρ h0 4), .ref (ρ h0 5), .ref (ρ h0 6), .int o28_x7, .ref (ρ h0 8), .int o28_x9, .int o28_x10, .int o28_x11, .int o28_x12, .long o28_x13, .int o28_x14, .int o28_x15, .int o28_x16, .int o28_x17, .int o28_x18, .int o28_x19, .int o28_x20, .ref (ρ h0 21), .int o28_x22, .ref (ρ h0 23), .ref (ρ h0 24), .int o28_x25, .ref (ρ h0 26), .ref (ρ h0 27), .int o28_x28, .int o28_x29, .ref (ρ h0 30), .ref (ρ h0 31), .int o28_x32, .long o28_x33, .long o28_x34, .long o28_x35, .int o28_x36, .int o28_x37, .int o28_x38, .ref (ρ h0 39), .ref (ρ h0 40), .ref (ρ h0 41), .ref (ρ h0 42), .ref (ρ h0 43), .ref (ρ h0 44), .ref (ρ h0 45), .ref (ρ h0 46), .int o28_x47, .int o28_x48, .ref (ρ h0 49), .ref (ρ h0 50), .ref (ρ h0 51), .ref (ρ h0 52)]) := (hF187 _ (by rw [ht_h0]; decide)).trans hf_o28
              refine tpk_pos (tp_in hG ht_h0 (by decide)) hf_193 (fun q194 eq194 => ?_)
              refine va_get (D := (dC, dI)) (ci := 12) (v := .ref (ρ h0 2)) (C := RX12) (T := TX12) (N := 53) hx hb hts hfX12 hown hK hP q194 eq194 rfl 2 (by decide) (hts (.fieldLink RX12 7 "ColdShipsModel" "row" "[I") wa_148) (fun _ h9 => h9) rfl dX12_doOrder_121 ?_
              refine lv_iload_n hx hb dX12_doOrder_124 rfl (lv_at hl 5 rfl) ?_
              refine lv_bipush (v := 11) hx hb dX12_doOrder_125 (by decide) ?_
              refine lv_iadd hx hb dX12_doOrder_127 ?_
              refine lv_topi (fun z195 ez195 => ?_)
              have iz195 : z195.toInt = us.toInt + 11 := zi_add ez195 rfl rfl (by omega) (by omega)
              refine lv_dup2_11 hx hb dX12_doOrder_128 rfl rfl ?_
              refine tpk_pos (tp_in hG y1 (by decide)) hf_o188 (fun q196 eq196 => ?_)
              refine va_iald hx hb hK hP q196 0 eq196 rfl (vp_in_iff.mpr ⟨by omega, by omega⟩) dX12_doOrder_129 ?_
              refine lv_topi (fun z197 ez197 => ?_)
              refine lv_iload hx hb dX12_doOrder_130 (lv_at hl 0 rfl) ?_
              refine lv_isub hx hb dX12_doOrder_132 ?_
              refine lv_topi (fun z198 ez198 => ?_)
              refine va_iast hx hb hK hP hD hS q196 0 eq196 rfl (vp_in_iff.mpr ⟨by omega, by omega⟩) dX12_doOrder_133 (tp_k (.inl (κ 0, 12967, .inl (upd g189 z195.toNatClampNeg z198))) hD (tp_in hG y1 (by decide)) eq196 (fun f199 H locs hP hD hS g201 k200 => ?_))
              have hT := hT.up y1 g201 k200 tp_o32
              have hR := hR.up y1 (by decide) k200
              have hU : mo_U (mo_R g189) (mo_R (upd g189 z195.toNatClampNeg z198)) (547 + 84 * qs + 11) (z198.toInt) := mo_up (by omega) (rfl : z198.toInt = _) (by omega)
              generalize (upd g189 z195.toNatClampNeg z198) = g202 at g201 hU
              have hI := mo_w_sfree hI hU qs 11 (by omega) (by omega) (by omega)
              have hKN := hKN.up hU (Or.inl (by omega))
              have pn203 : mo_R g202 (1) = n1 := (hU.ne (by omega) (by omega)).trans pn190
              have pn204 : mo_R g202 (11) = n11 := (hU.ne (by omega) (by omega)).trans pn191
              have pn205 : mo_R g202 (547 + 84 * qs + 10) = ns10 := (hU.ne (by omega) (by omega)).trans pn192
              clear pn190 pn191 pn192
              refine lv_iload hx hb dX12_doOrder_134 (lv_at hl 0 rfl) ?_
              refine lv_if_le (tgt := 151) hx hb dX12_doOrder_136 (by decide) (fun c206 => ?_) (fun c206 => ?_)
              · have ic206 : r170.toInt ≤ 0 := zi_le rfl rfl c206
                exfalso; omega
              · have ic206 : r170.toInt > 0 := zi_lef rfl rfl c206
                refine lv_aload_n hx hb dX12_doOrder_139 rfl (lv_at hl 3 rfl) ?_
                have hf_207 : f199 h0 = .inr (12, [.int o28_x0, .int o28_x1, .ref (ρ h0 2), .ref (ρ h0 3), .ref (ρ h0 4), .ref (ρ h0 5), .ref (ρ h0 6), .int o28_x7, .ref (ρ h0 8), .int o28_x9, .int o28_x10, .int o28_x11, .int o28_x12, .long o28_x13, .int o28_x14, .int o28_x15, .int o28_x16, .int o28_x17, .int o28_x18, .int o28_x19, .int o28_x20, .ref (ρ h0 21), .int o28_x22, .ref (ρ h0 23), .ref (ρ h0 24), .int o28_x25, .ref (ρ h0 26), .ref (ρ h0 27), .int o28_x28, .int o28_x29, .ref (ρ h0 30), .ref (ρ h0 31), .int o28_x32, .long o28_x33, .long o28_x34, .long o28_x35, .int o28_x36, .int o28_x37, .int o28_x38, .ref (ρ h0 39), .ref (ρ h0 40), .ref (ρ h0 41), .ref (ρ h0 42), .ref (ρ h0 43), .ref (ρ h0 44), .ref (ρ h0 45), .ref (ρ h0 46), .int o28_x47, .int o28_x48, .ref (ρ h0 49), .ref (ρ h0 50), .ref (ρ h0 51), .ref (ρ h0 52)]) := (k200 _ (tp_ne ht_h0 y1 (by decide))).trans hf_193
                refine tpk_pos (tp_in hG ht_h0 (by decide)) hf_207 (fun q208 eq208 => ?_)
                refine va_get (D := (dC, dI)) (ci := 12) (v := .ref (ρ h0 2)) (C := RX12) (T := TX12) (N := 53) hx hb hts hfX12 hown hK hP q208 eq208 rfl 2 (by decide) (hts (.fieldLink RX12 7 "ColdShipsModel" "row" "[I") wa_148) (fun _ h9 => h9) rfl dX12_doOrder_140 ?_
                refine lv_iload_n hx hb dX12_doOrder_143 rfl (lv_at hl 5 rfl) ?_
                refine lv_bipush (v := 11) hx hb dX12_doOrder_144 (by decide) ?_
                refine lv_iadd hx hb dX12_doOrder_146 ?_
                refine lv_topi (fun z209 ez209 => ?_)
                have iz209 : z209.toInt = us.toInt + 11 := zi_add ez209 rfl rfl (by omega) (by omega)
                refine tpk_pos (tp_in hG y1 (by decide)) g201 (fun q210 eq210 => ?_)
                refine va_iald hx hb hK hP q210 0 eq210 rfl (vp_in_iff.mpr ⟨by omega, by omega⟩) dX12_doOrder_147 ?_
                refine lv_topi (fun z211 ez211 => ?_)
                refine lv_if_ne (tgt := 168) hx hb dX12_doOrder_148 (by decide) (fun c212 => ?_) (fun c212 => ?_)
                · have ic212 : z211.toInt ≠ 0 := zi_ne rfl rfl c212
                  exact W.vret hx hb hr (fun t ht hW => ⟨⟨f199, rfl, ⟨hT, hR, ⟨(by rw [g201, mo_i1]; exact hI), (by rw [g201, mo_i1, hf_o26, mo_i1]; exact hKN), (by first | (simp only [g201, hf_o26, mo_i1]; omega) | (simp only [g201, hf_o26, mo_i1]; trivial) | (simp only [g201, hf_o26, mo_i1]; done) | omega)⟩⟩, by rw [ht]; exact hP, va_K.moved hW.alike hK, hD⟩, hS.F ht⟩) hS.2.2 dX12_doOrder_168
                · have ic212 : z211.toInt = 0 := zi_nef rfl rfl c212
                  refine lv_iload hx hb dX12_doOrder_151 (lv_at hl 2 rfl) ?_
                  refine lv_iconst (v := 2) hx hb dX12_doOrder_153 (by decide) ?_
                  refine lv_icmp_ne (tgt := 163) hx hb dX12_doOrder_154 (by decide) (fun c213 => ?_) (fun c213 => ?_)
                  · have ic213 : z32.toInt ≠ 2 := zi_ne rfl rfl c213
                    refine lv_aload_n hx hb dX12_doOrder_163 rfl (lv_at hl 3 rfl) ?_
                    refine lv_iload_n hx hb dX12_doOrder_164 rfl (lv_at hl 5 rfl) ?_
                    have hFc := tp_fr hD hS hA
                    refine va_callv (va_runV (As := [.int us]) (rest := []) ⟨hx, hb, hml, hown, hts⟩ (t_X12_endOrder l dC dI _ κ Θ τ ν ρ L f199 hG hT h0 us x b qs ht_h0 (by omega) (by omega) (by omega) (by rw [g201, mo_i1]; exact hI) (by first | (simp only [g201, hf_o26, mo_i1]; omega) | (simp only [g201, hf_o26, mo_i1]; trivial) | (simp only [g201, hf_o26, mo_i1]; done) | omega) (by first | (simp only [g201, hf_o26, mo_i1]; omega) | (simp only [g201, hf_o26, mo_i1]; trivial) | (simp only [g201, hf_o26, mo_i1]; done) | omega)) (cwV 1 hts gX12_doOrder_X12_endOrder rfl rfl rfl ⟨rfl, pd_X12_endOrder⟩ ⟨Nat.le_of_ble_eq_true rfl, Nat.le_of_ble_eq_true rfl⟩) ⟨pz_blind, va_recv hK hP (ci := 12) (q0 := q208) rfl eq208, pz_pre hP hK hD hN⟩ rfl rfl hl.1 rfl (lv_room (Nat.le_of_ble_eq_true rfl)) dX12_doOrder_165 ⟨Nat.le_of_ble_eq_true rfl, Nat.le_of_ble_eq_true rfl⟩) hS (fun q _ h => hFc q h) hFc (fun f216 t H1 locs ht hvm hw215 hB hz1 hk1 hS => ?_)
                    refine tn_3 hw215 (fun hT hF217 hw215p => ?_); clear hw215
                    have hR := hR.then hF217 (by decide)
                    have hP := hB.1; rw [ht] at hP; have hD := tp_ad f216 hD; clear hB hFc hz1 hk1; subst ht; generalize t.heap = H at hP hS ⊢
                    obtain ⟨hJ, hw215pe⟩ := hw215p
                    refine tpk_32 hT y1 (fun g219 hf_o218 => ?_)
                    have hI : mo_RI x b (mo_R g219) := by have q9 := hJ; rw [hf_o218, mo_i1] at q9; exact q9
                    rw [g201, mo_i1] at hw215pe
                    rw [hf_o218, mo_i1] at hw215pe
                    obtain ⟨hw215pek, hw215peq⟩ := hw215pe
                    have hKN := hKN.th hw215pek (fun k q9 => False.elim q9)
                    have pn220 : mo_R g219 (1) = n1 := (hw215peq.1).trans pn203
                    have pn221 : mo_R g219 (11) = n11 := (hw215peq.2).trans pn204
                    clear pn203 pn204 pn205
                    exact W.vret hx hb hr (fun t ht hW => ⟨⟨f216, rfl, ⟨hT, hR, ⟨(by rw [hf_o218, mo_i1]; exact hI), (by rw [hf_o218, mo_i1, hf_o26, mo_i1]; exact hKN), (by first | (simp only [hf_o218, hf_o26, mo_i1]; omega) | (simp only [hf_o218, hf_o26, mo_i1]; trivial) | (simp only [hf_o218, hf_o26, mo_i1]; done) | omega)⟩⟩, by rw [ht]; exact hP, va_K.moved hW.alike hK, hD⟩, hS.F ht⟩) hS.2.2 dX12_doOrder_168
                  · have ic213 : z32.toInt = 2 := zi_nef rfl rfl c213
                    exfalso; omega
    · have ic37 : z32.toInt = 3 := zi_nef rfl rfl c37
      refine lv_iload_n hx hb dX12_doOrder_46 rfl (lv_at hl 5 rfl) ?_
      refine lv_iload hx hb dX12_doOrder_47 (lv_at hl 0 rfl) ?_
      refine lv_icmp_lt (tgt := 168) hx hb dX12_doOrder_49 (by decide) (fun c222 => ?_) (fun c222 => ?_)
      · have ic222 : u.toInt < z35.toInt := zi_lt rfl rfl c222
        exact W.vret hx hb hr (fun t ht hW => ⟨⟨f, rfl, ⟨hT, hR, ⟨(by rw [hf_o26, mo_i1]; exact hI), (by rw [hf_o26, mo_i1]; exact hKN), (by first | (simp only [hf_o26, mo_i1]; omega) | (simp only [hf_o26, mo_i1]; trivial) | (simp only [hf_o26, mo_i1]; done) | omega)⟩⟩, by rw [ht]; exact hP, va_K.moved hW.alike hK, hD⟩, hS.F ht⟩) hS.2.2 dX12_doOrder_168
      · have ic222 : u.toInt ≥ z35.toInt := zi_ltf rfl rfl c222
        refine lv_aload_n hx hb dX12_doOrder_52 rfl (lv_at hl 2 rfl) ?_
        refine lv_iload_n hx hb dX12_doOrder_53 rfl (lv_at hl 4 rfl) ?_
        have hFc := tp_fr hD hS hA
        refine va_callv (va_runV (As := [.int us]) (rest := []) ⟨hx, hb, hml, hown, hts⟩ (t_X12_endOrder l dC dI _ κ Θ τ ν ρ L f hG hT h0 us x b qs ht_h0 (by omega) (by omega) (by omega) (by rw [hf_o26, mo_i1]; exact hI) (by first | (simp only [hf_o26, mo_i1]; omega) | (simp only [hf_o26, mo_i1]; trivial) | (simp only [hf_o26, mo_i1]; done) | omega) (by first | (simp only [hf_o26, mo_i1]; omega) | (simp only [hf_o26, mo_i1]; trivial) | (simp only [hf_o26, mo_i1]; done) | omega)) (cwV 1 hts gX12_doOrder_X12_endOrder rfl rfl rfl ⟨rfl, pd_X12_endOrder⟩ ⟨Nat.le_of_ble_eq_true rfl, Nat.le_of_ble_eq_true rfl⟩) ⟨pz_blind, va_recv hK hP (ci := 12) (q0 := q29) rfl eq29, pz_pre hP hK hD hN⟩ rfl rfl hl.1 rfl (lv_room (Nat.le_of_ble_eq_true rfl)) dX12_doOrder_54 ⟨Nat.le_of_ble_eq_true rfl, Nat.le_of_ble_eq_true rfl⟩) hS (fun q _ h => hFc q h) hFc (fun f225 t H1 locs ht hvm hw224 hB hz1 hk1 hS => ?_)
        refine tn_3 hw224 (fun hT hF226 hw224p => ?_); clear hw224
        have hR := hR.then hF226 (by decide)
        have hP := hB.1; rw [ht] at hP; have hD := tp_ad f225 hD; clear hB hFc hz1 hk1; subst ht; generalize t.heap = H at hP hS ⊢
        obtain ⟨hJ, hw224pe⟩ := hw224p
        refine tpk_32 hT y1 (fun g228 hf_o227 => ?_)
        have hI : mo_RI x b (mo_R g228) := by have q9 := hJ; rw [hf_o227, mo_i1] at q9; exact q9
        rw [hf_o26, mo_i1] at hw224pe
        rw [hf_o227, mo_i1] at hw224pe
        obtain ⟨hw224pek, hw224peq⟩ := hw224pe
        have hKN := hKN.th hw224pek (fun k q9 => False.elim q9)
        have pn229 : mo_R g228 (1) = n1 := (hw224peq.1).trans en1.symm
        have pn230 : mo_R g228 (11) = n11 := (hw224peq.2).trans en11.symm
        refine lv_goto (tgt := 168) hx hb dX12_doOrder_57 (by decide) ?_
        exact W.vret hx hb hr (fun t ht hW => ⟨⟨f225, rfl, ⟨hT, hR, ⟨(by rw [hf_o227, mo_i1]; exact hI), (by rw [hf_o227, mo_i1, hf_o26, mo_i1]; exact hKN), (by first | (simp only [hf_o227, hf_o26, mo_i1]; omega) | (simp only [hf_o227, hf_o26, mo_i1]; trivial) | (simp only [hf_o227, hf_o26, mo_i1]; done) | omega)⟩⟩, by rw [ht]; exact hP, va_K.moved hW.alike hK, hD⟩, hS.F ht⟩) hS.2.2 dX12_doOrder_168
  · have ic36 : z32.toInt = 0 := zi_nef rfl rfl c36
    refine lv_aload_n hx hb dX12_doOrder_29 rfl (lv_at hl 2 rfl) ?_
    refine lv_iload_n hx hb dX12_doOrder_30 rfl (lv_at hl 4 rfl) ?_
    refine lv_iload_n hx hb dX12_doOrder_31 rfl (lv_at hl 5 rfl) ?_
    refine lv_iload hx hb dX12_doOrder_32 (lv_at hl 0 rfl) ?_
    have hFc := tp_fr hD hS hA
    refine va_callv (va_runV (As := [.int us, .int u, .int z35]) (rest := []) ⟨hx, hb, hml, hown, hts⟩ (t_X12_sail l dC dI _ κ Θ τ ν ρ L f hG hT h0 us u z35 x b qs ht_h0 (by first | decide | omega) (by first | decide | omega) (by omega) (by omega) (by omega) (by rw [hf_o26, mo_i1]; exact hI) (by first | (simp only [hf_o26, mo_i1]; omega) | (simp only [hf_o26, mo_i1]; trivial) | (simp only [hf_o26, mo_i1]; done) | omega) (by first | (simp only [hf_o26, mo_i1]; omega) | (simp only [hf_o26, mo_i1]; trivial) | (simp only [hf_o26, mo_i1]; done) | omega)) (cwV 3 hts gX12_doOrder_X12_sail rfl rfl rfl ⟨rfl, pd_X12_sail⟩ ⟨Nat.le_of_ble_eq_true rfl, Nat.le_of_ble_eq_true rfl⟩) ⟨pz_blind, va_recv hK hP (ci := 12) (q0 := q29) rfl eq29, pz_pre hP hK hD hN⟩ rfl rfl hl.1 rfl (lv_room (Nat.le_of_ble_eq_true rfl)) dX12_doOrder_34 ⟨Nat.le_of_ble_eq_true rfl, Nat.le_of_ble_eq_true rfl⟩) hS (fun q _ h => hFc q h) hFc (fun f233 t H1 locs ht hvm hw232 hB hz1 hk1 hS => ?_)
    refine tn_3 hw232 (fun hT hF234 hw232p => ?_); clear hw232
    have hR := hR.then hF234 (by decide)
    have hP := hB.1; rw [ht] at hP; have hD := tp_ad f233 hD; clear hB hFc hz1 hk1; subst ht; generalize t.heap = H at hP hS ⊢
    obtain ⟨hJ, hw232pe⟩ := hw232p
    refine tpk_32 hT y1 (fun g236 hf_o235 => ?_)
    have hI : mo_RI x b (mo_R g236) := by have q9 := hJ; rw [hf_o235, mo_i1] at q9; exact q9
    rw [hf_o26, mo_i1] at hw232pe
    rw [hf_o235, mo_i1] at hw232pe
    obtain ⟨hw232pek, hw232peq⟩ := hw232pe
    have hKN := hKN.th hw232pek (fun k q9 => False.elim q9)
    have pn237 : mo_R g236 (1) = n1 := (hw232peq.1).trans en1.symm
    have pn238 : mo_R g236 (11) = n11 := (hw232peq.2).trans en11.symm
    refine lv_goto (tgt := 168) hx hb dX12_doOrder_37 (by decide) ?_
    exact W.vret hx hb hr (fun t ht hW => ⟨⟨f233, rfl, ⟨hT, hR, ⟨(by rw [hf_o235, mo_i1]; exact hI), (by rw [hf_o235, mo_i1, hf_o26, mo_i1]; exact hKN), (by first | (simp only [hf_o235, hf_o26, mo_i1]; omega) | (simp only [hf_o235, hf_o26, mo_i1]; trivial) | (simp only [hf_o235, hf_o26, mo_i1]; done) | omega)⟩⟩, by rw [ht]; exact hP, va_K.moved hW.alike hK, hD⟩, hS.F ht⟩) hS.2.2 dX12_doOrder_168
end
section
theorem gX12_go_X12_in : GoodIn WALL (va_wsS RX12 99 yX12_in wqX12_in) := wg_S wa_213 wa_214 wa_5 wa_215
theorem gX12_go_X12_told : GoodIn WALL (wsV RX12 105 RX12 yX12_told wqX12_told) := wg_V wa_216 wa_217 wa_218 wa_5 wa_219
theorem gX12_go_X12_goShip : GoodIn WALL (wsV RX12 173 RX12 yX12_goShip wqX12_goShip) := wg_V wa_548 wa_549 wa_550 wa_5 wa_551
theorem dX12_go_0 : decode cX12_go 0 = .ok (.aload_n 0, 1) := od_42  (by decide +kernel)
theorem dX12_go_1 : decode cX12_go 1 = .ok (.iconst 0, 1) := od_3  (by decide +kernel)
theorem dX12_go_2 : decode cX12_go 2 = .ok (.putfield 91, 3) := od_181 (a := 0) (b := 91) (by decide +kernel) (by decide)
theorem dX12_go_5 : decode cX12_go 5 = .ok (.iload_n 1, 1) := od_27  (by decide +kernel)
theorem dX12_go_6 : decode cX12_go 6 = .ok (.i2l, 1) := od_133  (by decide +kernel)
theorem dX12_go_7 : decode cX12_go 7 = .ok (.lconst 1, 1) := od_10  (by decide +kernel)
theorem dX12_go_8 : decode cX12_go 8 = .ok (.ldc2_w 167, 3) := od_20 (a := 0) (b := 167) (by decide +kernel) (by decide)
theorem dX12_go_11 : decode cX12_go 11 = .ok (.invokestatic 99, 3) := od_184 (a := 0) (b := 99) (by decide +kernel) (by decide)
theorem dX12_go_14 : decode cX12_go 14 = .ok (.ifCond .eq 18, 3) := od_153 (a := 0) (b := 18) (by decide +kernel) (by decide +kernel)
theorem dX12_go_17 : decode cX12_go 17 = .ok (.aload_n 0, 1) := od_42  (by decide +kernel)
theorem dX12_go_18 : decode cX12_go 18 = .ok (.getfield 7, 3) := od_180 (a := 0) (b := 7) (by decide +kernel) (by decide)
theorem dX12_go_21 : decode cX12_go 21 = .ok (.bipush 11, 2) := od_16 (a := 11) (by decide +kernel) (by decide +kernel)
theorem dX12_go_23 : decode cX12_go 23 = .ok (.iaload, 1) := od_46  (by decide +kernel)
theorem dX12_go_24 : decode cX12_go 24 = .ok (.iload_n 1, 1) := od_27  (by decide +kernel)
theorem dX12_go_25 : decode cX12_go 25 = .ok (.iadd, 1) := od_96  (by decide +kernel)
theorem dX12_go_26 : decode cX12_go 26 = .ok (.sipush 2399, 3) := od_17 (a := 9) (b := 95) (by decide +kernel) (by decide +kernel)
theorem dX12_go_29 : decode cX12_go 29 = .ok (.if_icmp .le 9, 3) := od_164 (a := 0) (b := 9) (by decide +kernel) (by decide +kernel)
theorem dX12_go_32 : decode cX12_go 32 = .ok (.aload_n 0, 1) := od_42  (by decide +kernel)
theorem dX12_go_33 : decode cX12_go 33 = .ok (.iconst (-1), 1) := od_2  (by decide +kernel)
theorem dX12_go_34 : decode cX12_go 34 = .ok (.invokevirtual 105, 3) := od_182 (a := 0) (b := 105) (by decide +kernel) (by decide)
theorem dX12_go_37 : decode cX12_go 37 = .ok (.ireturn, 1) := od_172  (by decide +kernel)
theorem dX12_go_38 : decode cX12_go 38 = .ok (.iconst 0, 1) := od_3  (by decide +kernel)
theorem dX12_go_39 : decode cX12_go 39 = .ok (.istore_n 2, 1) := od_61  (by decide +kernel)
theorem dX12_go_40 : decode cX12_go 40 = .ok (.iload_n 2, 1) := od_28  (by decide +kernel)
theorem dX12_go_41 : decode cX12_go 41 = .ok (.iload_n 1, 1) := od_27  (by decide +kernel)
theorem dX12_go_42 : decode cX12_go 42 = .ok (.if_icmp .ge 55, 3) := od_162 (a := 0) (b := 55) (by decide +kernel) (by decide +kernel)
theorem dX12_go_45 : decode cX12_go 45 = .ok (.aload_n 0, 1) := od_42  (by decide +kernel)
theorem dX12_go_46 : decode cX12_go 46 = .ok (.iconst 0, 1) := od_3  (by decide +kernel)
theorem dX12_go_47 : decode cX12_go 47 = .ok (.putfield 169, 3) := od_181 (a := 0) (b := 169) (by decide +kernel) (by decide)
theorem dX12_go_50 : decode cX12_go 50 = .ok (.iconst 0, 1) := od_3  (by decide +kernel)
theorem dX12_go_51 : decode cX12_go 51 = .ok (.istore_n 3, 1) := od_62  (by decide +kernel)
theorem dX12_go_52 : decode cX12_go 52 = .ok (.iload_n 3, 1) := od_29  (by decide +kernel)
theorem dX12_go_53 : decode cX12_go 53 = .ok (.aload_n 0, 1) := od_42  (by decide +kernel)
theorem dX12_go_54 : decode cX12_go 54 = .ok (.getfield 7, 3) := od_180 (a := 0) (b := 7) (by decide +kernel) (by decide)
theorem dX12_go_57 : decode cX12_go 57 = .ok (.iconst 1, 1) := od_4  (by decide +kernel)
theorem dX12_go_58 : decode cX12_go 58 = .ok (.iaload, 1) := od_46  (by decide +kernel)
theorem dX12_go_59 : decode cX12_go 59 = .ok (.if_icmp .ge 21, 3) := od_162 (a := 0) (b := 21) (by decide +kernel) (by decide +kernel)
theorem dX12_go_62 : decode cX12_go 62 = .ok (.aload_n 0, 1) := od_42  (by decide +kernel)
theorem dX12_go_63 : decode cX12_go 63 = .ok (.iload_n 3, 1) := od_29  (by decide +kernel)
theorem dX12_go_64 : decode cX12_go 64 = .ok (.aload_n 0, 1) := od_42  (by decide +kernel)
theorem dX12_go_65 : decode cX12_go 65 = .ok (.getfield 7, 3) := od_180 (a := 0) (b := 7) (by decide +kernel) (by decide)
theorem dX12_go_68 : decode cX12_go 68 = .ok (.bipush 11, 2) := od_16 (a := 11) (by decide +kernel) (by decide +kernel)
theorem dX12_go_70 : decode cX12_go 70 = .ok (.iaload, 1) := od_46  (by decide +kernel)
theorem dX12_go_71 : decode cX12_go 71 = .ok (.invokevirtual 173, 3) := od_182 (a := 0) (b := 173) (by decide +kernel) (by decide)
theorem dX12_go_74 : decode cX12_go 74 = .ok (.iinc 3 1, 3) := od_132 (a := 3) (b := 1) (by decide +kernel) (by decide +kernel)
theorem dX12_go_77 : decode cX12_go 77 = .ok (.goto (-25), 3) := od_167 (a := 255) (b := 231) (by decide +kernel) (by decide +kernel)
theorem dX12_go_80 : decode cX12_go 80 = .ok (.aload_n 0, 1) := od_42  (by decide +kernel)
theorem dX12_go_81 : decode cX12_go 81 = .ok (.getfield 7, 3) := od_180 (a := 0) (b := 7) (by decide +kernel) (by decide)
theorem dX12_go_84 : decode cX12_go 84 = .ok (.bipush 11, 2) := od_16 (a := 11) (by decide +kernel) (by decide +kernel)
theorem dX12_go_86 : decode cX12_go 86 = .ok (.dup2, 1) := od_92  (by decide +kernel)
theorem dX12_go_87 : decode cX12_go 87 = .ok (.iaload, 1) := od_46  (by decide +kernel)
theorem dX12_go_88 : decode cX12_go 88 = .ok (.iconst 1, 1) := od_4  (by decide +kernel)
theorem dX12_go_89 : decode cX12_go 89 = .ok (.iadd, 1) := od_96  (by decide +kernel)
theorem dX12_go_90 : decode cX12_go 90 = .ok (.iastore, 1) := od_79  (by decide +kernel)
theorem dX12_go_91 : decode cX12_go 91 = .ok (.iinc 2 1, 3) := od_132 (a := 2) (b := 1) (by decide +kernel) (by decide +kernel)
theorem dX12_go_94 : decode cX12_go 94 = .ok (.goto (-54), 3) := od_167 (a := 255) (b := 202) (by decide +kernel) (by decide +kernel)
theorem dX12_go_97 : decode cX12_go 97 = .ok (.aload_n 0, 1) := od_42  (by decide +kernel)
theorem dX12_go_98 : decode cX12_go 98 = .ok (.aload_n 0, 1) := od_42  (by decide +kernel)
theorem dX12_go_99 : decode cX12_go 99 = .ok (.getfield 7, 3) := od_180 (a := 0) (b := 7) (by decide +kernel) (by decide)
theorem dX12_go_102 : decode cX12_go 102 = .ok (.bipush 11, 2) := od_16 (a := 11) (by decide +kernel) (by decide +kernel)
theorem dX12_go_104 : decode cX12_go 104 = .ok (.iaload, 1) := od_46  (by decide +kernel)
theorem dX12_go_105 : decode cX12_go 105 = .ok (.invokevirtual 105, 3) := od_182 (a := 0) (b := 105) (by decide +kernel) (by decide)
theorem dX12_go_108 : decode cX12_go 108 = .ok (.ireturn, 1) := od_172  (by decide +kernel)
theorem gX12_goShip_X12_shipAt : GoodIn WALL (va_wsS RX12 132 yX12_shipAt wqX12_shipAt) := wg_S wa_278 wa_279 wa_5 wa_280
theorem gX12_goShip_X12_take : GoodIn WALL (wsV RX12 179 RX12 yX12_take wqX12_take) := wg_V wa_553 wa_554 wa_555 wa_5 wa_556
theorem gX12_goShip_X12_heelOf : GoodIn WALL (wsV RX12 182 RX12 yX12_heelOf wqX12_heelOf) := wg_V wa_558 wa_559 wa_560 wa_5 wa_561
theorem gX12_goShip_X12_burn : GoodIn WALL (wsV RX12 185 RX12 yX12_burn wqX12_burn) := wg_V wa_562 wa_563 wa_564 wa_5 wa_565
theorem gX12_goShip_X12_doOrder : GoodIn WALL (wsV RX12 188 RX12 yX12_doOrder wqX12_doOrder) := wg_V wa_566 wa_567 wa_568 wa_5 wa_569
theorem gX12_goShip_X12_roomOf : GoodIn WALL (wsV RX12 164 RX12 yX12_roomOf wqX12_roomOf) := wg_V wa_623 wa_624 wa_625 wa_5 wa_626
theorem dX12_goShip_0 : decode cX12_goShip 0 = .ok (.iload_n 1, 1) := od_27  (by decide +kernel)
theorem dX12_goShip_1 : decode cX12_goShip 1 = .ok (.invokestatic 132, 3) := od_184 (a := 0) (b := 132) (by decide +kernel) (by decide)
theorem dX12_goShip_4 : decode cX12_goShip 4 = .ok (.istore_n 3, 1) := od_62  (by decide +kernel)
theorem dX12_goShip_5 : decode cX12_goShip 5 = .ok (.aload_n 0, 1) := od_42  (by decide +kernel)
theorem dX12_goShip_6 : decode cX12_goShip 6 = .ok (.getfield 7, 3) := od_180 (a := 0) (b := 7) (by decide +kernel) (by decide)
theorem dX12_goShip_9 : decode cX12_goShip 9 = .ok (.iload_n 3, 1) := od_29  (by decide +kernel)
theorem dX12_goShip_10 : decode cX12_goShip 10 = .ok (.iconst 4, 1) := od_7  (by decide +kernel)
theorem dX12_goShip_11 : decode cX12_goShip 11 = .ok (.iadd, 1) := od_96  (by decide +kernel)
theorem dX12_goShip_12 : decode cX12_goShip 12 = .ok (.iaload, 1) := od_46  (by decide +kernel)
theorem dX12_goShip_13 : decode cX12_goShip 13 = .ok (.i2l, 1) := od_133  (by decide +kernel)
theorem dX12_goShip_14 : decode cX12_goShip 14 = .ok (.aload_n 0, 1) := od_42  (by decide +kernel)
theorem dX12_goShip_15 : decode cX12_goShip 15 = .ok (.getfield 7, 3) := od_180 (a := 0) (b := 7) (by decide +kernel) (by decide)
theorem dX12_goShip_18 : decode cX12_goShip 18 = .ok (.bipush 12, 2) := od_16 (a := 12) (by decide +kernel) (by decide +kernel)
theorem dX12_goShip_20 : decode cX12_goShip 20 = .ok (.iaload, 1) := od_46  (by decide +kernel)
theorem dX12_goShip_21 : decode cX12_goShip 21 = .ok (.aload_n 0, 1) := od_42  (by decide +kernel)
theorem dX12_goShip_22 : decode cX12_goShip 22 = .ok (.getfield 7, 3) := od_180 (a := 0) (b := 7) (by decide +kernel) (by decide)
theorem dX12_goShip_25 : decode cX12_goShip 25 = .ok (.sipush 147, 3) := od_17 (a := 0) (b := 147) (by decide +kernel) (by decide +kernel)
theorem dX12_goShip_28 : decode cX12_goShip 28 = .ok (.iload_n 2, 1) := od_28  (by decide +kernel)
theorem dX12_goShip_29 : decode cX12_goShip 29 = .ok (.bipush 24, 2) := od_16 (a := 24) (by decide +kernel) (by decide +kernel)
theorem dX12_goShip_31 : decode cX12_goShip 31 = .ok (.idiv, 1) := od_108  (by decide +kernel)
theorem dX12_goShip_32 : decode cX12_goShip 32 = .ok (.iadd, 1) := od_96  (by decide +kernel)
theorem dX12_goShip_33 : decode cX12_goShip 33 = .ok (.iaload, 1) := od_46  (by decide +kernel)
theorem dX12_goShip_34 : decode cX12_goShip 34 = .ok (.iadd, 1) := od_96  (by decide +kernel)
theorem dX12_goShip_35 : decode cX12_goShip 35 = .ok (.i2l, 1) := od_133  (by decide +kernel)
theorem dX12_goShip_36 : decode cX12_goShip 36 = .ok (.lmul, 1) := od_105  (by decide +kernel)
theorem dX12_goShip_37 : decode cX12_goShip 37 = .ok (.ldc2_w 177, 3) := od_20 (a := 0) (b := 177) (by decide +kernel) (by decide)
theorem dX12_goShip_40 : decode cX12_goShip 40 = .ok (.ldiv, 1) := od_109  (by decide +kernel)
theorem dX12_goShip_41 : decode cX12_goShip 41 = .ok (.l2i, 1) := od_136  (by decide +kernel)
theorem dX12_goShip_42 : decode cX12_goShip 42 = .ok (.istore 4, 2) := od_54 (n := 4) (by decide +kernel)
theorem dX12_goShip_44 : decode cX12_goShip 44 = .ok (.aload_n 0, 1) := od_42  (by decide +kernel)
theorem dX12_goShip_45 : decode cX12_goShip 45 = .ok (.iload_n 3, 1) := od_29  (by decide +kernel)
theorem dX12_goShip_46 : decode cX12_goShip 46 = .ok (.iload 4, 2) := od_21 (n := 4) (by decide +kernel)
theorem dX12_goShip_48 : decode cX12_goShip 48 = .ok (.invokevirtual 179, 3) := od_182 (a := 0) (b := 179) (by decide +kernel) (by decide)
theorem dX12_goShip_51 : decode cX12_goShip 51 = .ok (.aload_n 0, 1) := od_42  (by decide +kernel)
theorem dX12_goShip_52 : decode cX12_goShip 52 = .ok (.getfield 7, 3) := od_180 (a := 0) (b := 7) (by decide +kernel) (by decide)
theorem dX12_goShip_55 : decode cX12_goShip 55 = .ok (.iload_n 3, 1) := od_29  (by decide +kernel)
theorem dX12_goShip_56 : decode cX12_goShip 56 = .ok (.iconst 5, 1) := od_8  (by decide +kernel)
theorem dX12_goShip_57 : decode cX12_goShip 57 = .ok (.iadd, 1) := od_96  (by decide +kernel)
theorem dX12_goShip_58 : decode cX12_goShip 58 = .ok (.dup2, 1) := od_92  (by decide +kernel)
theorem dX12_goShip_59 : decode cX12_goShip 59 = .ok (.iaload, 1) := od_46  (by decide +kernel)
theorem dX12_goShip_60 : decode cX12_goShip 60 = .ok (.iload 4, 2) := od_21 (n := 4) (by decide +kernel)
theorem dX12_goShip_62 : decode cX12_goShip 62 = .ok (.iadd, 1) := od_96  (by decide +kernel)
theorem dX12_goShip_63 : decode cX12_goShip 63 = .ok (.iastore, 1) := od_79  (by decide +kernel)
theorem dX12_goShip_64 : decode cX12_goShip 64 = .ok (.aload_n 0, 1) := od_42  (by decide +kernel)
theorem dX12_goShip_65 : decode cX12_goShip 65 = .ok (.getfield 7, 3) := od_180 (a := 0) (b := 7) (by decide +kernel) (by decide)
theorem dX12_goShip_68 : decode cX12_goShip 68 = .ok (.iload_n 3, 1) := od_29  (by decide +kernel)
theorem dX12_goShip_69 : decode cX12_goShip 69 = .ok (.iconst 4, 1) := od_7  (by decide +kernel)
theorem dX12_goShip_70 : decode cX12_goShip 70 = .ok (.iadd, 1) := od_96  (by decide +kernel)
theorem dX12_goShip_71 : decode cX12_goShip 71 = .ok (.iaload, 1) := od_46  (by decide +kernel)
theorem dX12_goShip_72 : decode cX12_goShip 72 = .ok (.aload_n 0, 1) := od_42  (by decide +kernel)
theorem dX12_goShip_73 : decode cX12_goShip 73 = .ok (.iload_n 3, 1) := od_29  (by decide +kernel)
theorem dX12_goShip_74 : decode cX12_goShip 74 = .ok (.invokevirtual 182, 3) := od_182 (a := 0) (b := 182) (by decide +kernel) (by decide)
theorem dX12_goShip_77 : decode cX12_goShip 77 = .ok (.if_icmp .ge 49, 3) := od_162 (a := 0) (b := 49) (by decide +kernel) (by decide +kernel)
theorem dX12_goShip_80 : decode cX12_goShip 80 = .ok (.aload_n 0, 1) := od_42  (by decide +kernel)
theorem dX12_goShip_81 : decode cX12_goShip 81 = .ok (.getfield 7, 3) := od_180 (a := 0) (b := 7) (by decide +kernel) (by decide)
theorem dX12_goShip_84 : decode cX12_goShip 84 = .ok (.iload_n 3, 1) := od_29  (by decide +kernel)
theorem dX12_goShip_85 : decode cX12_goShip 85 = .ok (.bipush 6, 2) := od_16 (a := 6) (by decide +kernel) (by decide +kernel)
theorem dX12_goShip_87 : decode cX12_goShip 87 = .ok (.iadd, 1) := od_96  (by decide +kernel)
theorem dX12_goShip_88 : decode cX12_goShip 88 = .ok (.aload_n 0, 1) := od_42  (by decide +kernel)
theorem dX12_goShip_89 : decode cX12_goShip 89 = .ok (.getfield 7, 3) := od_180 (a := 0) (b := 7) (by decide +kernel) (by decide)
theorem dX12_goShip_92 : decode cX12_goShip 92 = .ok (.iload_n 3, 1) := od_29  (by decide +kernel)
theorem dX12_goShip_93 : decode cX12_goShip 93 = .ok (.bipush 6, 2) := od_16 (a := 6) (by decide +kernel) (by decide +kernel)
theorem dX12_goShip_95 : decode cX12_goShip 95 = .ok (.iadd, 1) := od_96  (by decide +kernel)
theorem dX12_goShip_96 : decode cX12_goShip 96 = .ok (.iaload, 1) := od_46  (by decide +kernel)
theorem dX12_goShip_97 : decode cX12_goShip 97 = .ok (.iconst 5, 1) := od_8  (by decide +kernel)
theorem dX12_goShip_98 : decode cX12_goShip 98 = .ok (.iadd, 1) := od_96  (by decide +kernel)
theorem dX12_goShip_99 : decode cX12_goShip 99 = .ok (.sipush 1800, 3) := od_17 (a := 7) (b := 8) (by decide +kernel) (by decide +kernel)
theorem dX12_goShip_102 : decode cX12_goShip 102 = .ok (.if_icmp .le 9, 3) := od_164 (a := 0) (b := 9) (by decide +kernel) (by decide +kernel)
theorem dX12_goShip_105 : decode cX12_goShip 105 = .ok (.sipush 1800, 3) := od_17 (a := 7) (b := 8) (by decide +kernel) (by decide +kernel)
theorem dX12_goShip_108 : decode cX12_goShip 108 = .ok (.goto 14, 3) := od_167 (a := 0) (b := 14) (by decide +kernel) (by decide +kernel)
theorem dX12_goShip_111 : decode cX12_goShip 111 = .ok (.aload_n 0, 1) := od_42  (by decide +kernel)
theorem dX12_goShip_112 : decode cX12_goShip 112 = .ok (.getfield 7, 3) := od_180 (a := 0) (b := 7) (by decide +kernel) (by decide)
theorem dX12_goShip_115 : decode cX12_goShip 115 = .ok (.iload_n 3, 1) := od_29  (by decide +kernel)
theorem dX12_goShip_116 : decode cX12_goShip 116 = .ok (.bipush 6, 2) := od_16 (a := 6) (by decide +kernel) (by decide +kernel)
theorem dX12_goShip_118 : decode cX12_goShip 118 = .ok (.iadd, 1) := od_96  (by decide +kernel)
theorem dX12_goShip_119 : decode cX12_goShip 119 = .ok (.iaload, 1) := od_46  (by decide +kernel)
theorem dX12_goShip_120 : decode cX12_goShip 120 = .ok (.iconst 5, 1) := od_8  (by decide +kernel)
theorem dX12_goShip_121 : decode cX12_goShip 121 = .ok (.iadd, 1) := od_96  (by decide +kernel)
theorem dX12_goShip_122 : decode cX12_goShip 122 = .ok (.iastore, 1) := od_79  (by decide +kernel)
theorem dX12_goShip_123 : decode cX12_goShip 123 = .ok (.goto 128, 3) := od_167 (a := 0) (b := 128) (by decide +kernel) (by decide +kernel)
theorem dX12_goShip_126 : decode cX12_goShip 126 = .ok (.aload_n 0, 1) := od_42  (by decide +kernel)
theorem dX12_goShip_127 : decode cX12_goShip 127 = .ok (.getfield 7, 3) := od_180 (a := 0) (b := 7) (by decide +kernel) (by decide)
theorem dX12_goShip_130 : decode cX12_goShip 130 = .ok (.iload_n 3, 1) := od_29  (by decide +kernel)
theorem dX12_goShip_131 : decode cX12_goShip 131 = .ok (.bipush 6, 2) := od_16 (a := 6) (by decide +kernel) (by decide +kernel)
theorem dX12_goShip_133 : decode cX12_goShip 133 = .ok (.iadd, 1) := od_96  (by decide +kernel)
theorem dX12_goShip_134 : decode cX12_goShip 134 = .ok (.iaload, 1) := od_46  (by decide +kernel)
theorem dX12_goShip_135 : decode cX12_goShip 135 = .ok (.ifCond .le 116, 3) := od_158 (a := 0) (b := 116) (by decide +kernel) (by decide +kernel)
theorem dX12_goShip_138 : decode cX12_goShip 138 = .ok (.aload_n 0, 1) := od_42  (by decide +kernel)
theorem dX12_goShip_139 : decode cX12_goShip 139 = .ok (.getfield 7, 3) := od_180 (a := 0) (b := 7) (by decide +kernel) (by decide)
theorem dX12_goShip_142 : decode cX12_goShip 142 = .ok (.iload_n 3, 1) := od_29  (by decide +kernel)
theorem dX12_goShip_143 : decode cX12_goShip 143 = .ok (.bipush 6, 2) := od_16 (a := 6) (by decide +kernel) (by decide +kernel)
theorem dX12_goShip_145 : decode cX12_goShip 145 = .ok (.iadd, 1) := od_96  (by decide +kernel)
theorem dX12_goShip_146 : decode cX12_goShip 146 = .ok (.iaload, 1) := od_46  (by decide +kernel)
theorem dX12_goShip_147 : decode cX12_goShip 147 = .ok (.bipush 20, 2) := od_16 (a := 20) (by decide +kernel) (by decide +kernel)
theorem dX12_goShip_149 : decode cX12_goShip 149 = .ok (.if_icmp .ge 15, 3) := od_162 (a := 0) (b := 15) (by decide +kernel) (by decide +kernel)
theorem dX12_goShip_152 : decode cX12_goShip 152 = .ok (.aload_n 0, 1) := od_42  (by decide +kernel)
theorem dX12_goShip_153 : decode cX12_goShip 153 = .ok (.getfield 7, 3) := od_180 (a := 0) (b := 7) (by decide +kernel) (by decide)
theorem dX12_goShip_156 : decode cX12_goShip 156 = .ok (.iload_n 3, 1) := od_29  (by decide +kernel)
theorem dX12_goShip_157 : decode cX12_goShip 157 = .ok (.bipush 6, 2) := od_16 (a := 6) (by decide +kernel) (by decide +kernel)
theorem dX12_goShip_159 : decode cX12_goShip 159 = .ok (.iadd, 1) := od_96  (by decide +kernel)
theorem dX12_goShip_160 : decode cX12_goShip 160 = .ok (.iaload, 1) := od_46  (by decide +kernel)
theorem dX12_goShip_161 : decode cX12_goShip 161 = .ok (.goto 5, 3) := od_167 (a := 0) (b := 5) (by decide +kernel) (by decide +kernel)
theorem dX12_goShip_164 : decode cX12_goShip 164 = .ok (.bipush 20, 2) := od_16 (a := 20) (by decide +kernel) (by decide +kernel)
theorem dX12_goShip_166 : decode cX12_goShip 166 = .ok (.istore 5, 2) := od_54 (n := 5) (by decide +kernel)
theorem dX12_goShip_168 : decode cX12_goShip 168 = .ok (.aload_n 0, 1) := od_42  (by decide +kernel)
theorem dX12_goShip_169 : decode cX12_goShip 169 = .ok (.getfield 7, 3) := od_180 (a := 0) (b := 7) (by decide +kernel) (by decide)
theorem dX12_goShip_172 : decode cX12_goShip 172 = .ok (.iload_n 3, 1) := od_29  (by decide +kernel)
theorem dX12_goShip_173 : decode cX12_goShip 173 = .ok (.bipush 6, 2) := od_16 (a := 6) (by decide +kernel) (by decide +kernel)
theorem dX12_goShip_175 : decode cX12_goShip 175 = .ok (.iadd, 1) := od_96  (by decide +kernel)
theorem dX12_goShip_176 : decode cX12_goShip 176 = .ok (.dup2, 1) := od_92  (by decide +kernel)
theorem dX12_goShip_177 : decode cX12_goShip 177 = .ok (.iaload, 1) := od_46  (by decide +kernel)
theorem dX12_goShip_178 : decode cX12_goShip 178 = .ok (.iload 5, 2) := od_21 (n := 5) (by decide +kernel)
theorem dX12_goShip_180 : decode cX12_goShip 180 = .ok (.isub, 1) := od_100  (by decide +kernel)
theorem dX12_goShip_181 : decode cX12_goShip 181 = .ok (.iastore, 1) := od_79  (by decide +kernel)
theorem dX12_goShip_182 : decode cX12_goShip 182 = .ok (.iload 5, 2) := od_21 (n := 5) (by decide +kernel)
theorem dX12_goShip_184 : decode cX12_goShip 184 = .ok (.i2l, 1) := od_133  (by decide +kernel)
theorem dX12_goShip_185 : decode cX12_goShip 185 = .ok (.aload_n 0, 1) := od_42  (by decide +kernel)
theorem dX12_goShip_186 : decode cX12_goShip 186 = .ok (.getfield 7, 3) := od_180 (a := 0) (b := 7) (by decide +kernel) (by decide)
theorem dX12_goShip_189 : decode cX12_goShip 189 = .ok (.iload_n 3, 1) := od_29  (by decide +kernel)
theorem dX12_goShip_190 : decode cX12_goShip 190 = .ok (.bipush 7, 2) := od_16 (a := 7) (by decide +kernel) (by decide +kernel)
theorem dX12_goShip_192 : decode cX12_goShip 192 = .ok (.iadd, 1) := od_96  (by decide +kernel)
theorem dX12_goShip_193 : decode cX12_goShip 193 = .ok (.iaload, 1) := od_46  (by decide +kernel)
theorem dX12_goShip_194 : decode cX12_goShip 194 = .ok (.i2l, 1) := od_133  (by decide +kernel)
theorem dX12_goShip_195 : decode cX12_goShip 195 = .ok (.lmul, 1) := od_105  (by decide +kernel)
theorem dX12_goShip_196 : decode cX12_goShip 196 = .ok (.ldc2_w 177, 3) := od_20 (a := 0) (b := 177) (by decide +kernel) (by decide)
theorem dX12_goShip_199 : decode cX12_goShip 199 = .ok (.ldiv, 1) := od_109  (by decide +kernel)
theorem dX12_goShip_200 : decode cX12_goShip 200 = .ok (.l2i, 1) := od_136  (by decide +kernel)
theorem dX12_goShip_201 : decode cX12_goShip 201 = .ok (.istore 6, 2) := od_54 (n := 6) (by decide +kernel)
theorem dX12_goShip_203 : decode cX12_goShip 203 = .ok (.iload 6, 2) := od_21 (n := 6) (by decide +kernel)
theorem dX12_goShip_205 : decode cX12_goShip 205 = .ok (.aload_n 0, 1) := od_42  (by decide +kernel)
theorem dX12_goShip_206 : decode cX12_goShip 206 = .ok (.getfield 7, 3) := od_180 (a := 0) (b := 7) (by decide +kernel) (by decide)
theorem dX12_goShip_209 : decode cX12_goShip 209 = .ok (.iload_n 3, 1) := od_29  (by decide +kernel)
theorem dX12_goShip_210 : decode cX12_goShip 210 = .ok (.iconst 4, 1) := od_7  (by decide +kernel)
theorem dX12_goShip_211 : decode cX12_goShip 211 = .ok (.iadd, 1) := od_96  (by decide +kernel)
theorem dX12_goShip_212 : decode cX12_goShip 212 = .ok (.iaload, 1) := od_46  (by decide +kernel)
theorem dX12_goShip_213 : decode cX12_goShip 213 = .ok (.if_icmp .le 14, 3) := od_164 (a := 0) (b := 14) (by decide +kernel) (by decide +kernel)
theorem dX12_goShip_216 : decode cX12_goShip 216 = .ok (.aload_n 0, 1) := od_42  (by decide +kernel)
theorem dX12_goShip_217 : decode cX12_goShip 217 = .ok (.getfield 7, 3) := od_180 (a := 0) (b := 7) (by decide +kernel) (by decide)
theorem dX12_goShip_220 : decode cX12_goShip 220 = .ok (.iload_n 3, 1) := od_29  (by decide +kernel)
theorem dX12_goShip_221 : decode cX12_goShip 221 = .ok (.iconst 4, 1) := od_7  (by decide +kernel)
theorem dX12_goShip_222 : decode cX12_goShip 222 = .ok (.iadd, 1) := od_96  (by decide +kernel)
theorem dX12_goShip_223 : decode cX12_goShip 223 = .ok (.iaload, 1) := od_46  (by decide +kernel)
theorem dX12_goShip_224 : decode cX12_goShip 224 = .ok (.goto 5, 3) := od_167 (a := 0) (b := 5) (by decide +kernel) (by decide +kernel)
theorem dX12_goShip_227 : decode cX12_goShip 227 = .ok (.iload 6, 2) := od_21 (n := 6) (by decide +kernel)
theorem dX12_goShip_229 : decode cX12_goShip 229 = .ok (.istore 6, 2) := od_54 (n := 6) (by decide +kernel)
theorem dX12_goShip_231 : decode cX12_goShip 231 = .ok (.aload_n 0, 1) := od_42  (by decide +kernel)
theorem dX12_goShip_232 : decode cX12_goShip 232 = .ok (.iload_n 3, 1) := od_29  (by decide +kernel)
theorem dX12_goShip_233 : decode cX12_goShip 233 = .ok (.iload 6, 2) := od_21 (n := 6) (by decide +kernel)
theorem dX12_goShip_235 : decode cX12_goShip 235 = .ok (.invokevirtual 179, 3) := od_182 (a := 0) (b := 179) (by decide +kernel) (by decide)
theorem dX12_goShip_238 : decode cX12_goShip 238 = .ok (.aload_n 0, 1) := od_42  (by decide +kernel)
theorem dX12_goShip_239 : decode cX12_goShip 239 = .ok (.getfield 7, 3) := od_180 (a := 0) (b := 7) (by decide +kernel) (by decide)
theorem dX12_goShip_242 : decode cX12_goShip 242 = .ok (.iload_n 3, 1) := od_29  (by decide +kernel)
theorem dX12_goShip_243 : decode cX12_goShip 243 = .ok (.iconst 5, 1) := od_8  (by decide +kernel)
theorem dX12_goShip_244 : decode cX12_goShip 244 = .ok (.iadd, 1) := od_96  (by decide +kernel)
theorem dX12_goShip_245 : decode cX12_goShip 245 = .ok (.dup2, 1) := od_92  (by decide +kernel)
theorem dX12_goShip_246 : decode cX12_goShip 246 = .ok (.iaload, 1) := od_46  (by decide +kernel)
theorem dX12_goShip_247 : decode cX12_goShip 247 = .ok (.iload 6, 2) := od_21 (n := 6) (by decide +kernel)
theorem dX12_goShip_249 : decode cX12_goShip 249 = .ok (.iadd, 1) := od_96  (by decide +kernel)
theorem dX12_goShip_250 : decode cX12_goShip 250 = .ok (.iastore, 1) := od_79  (by decide +kernel)
theorem dX12_goShip_251 : decode cX12_goShip 251 = .ok (.aload_n 0, 1) := od_42  (by decide +kernel)
theorem dX12_goShip_252 : decode cX12_goShip 252 = .ok (.iload_n 3, 1) := od_29  (by decide +kernel)
theorem dX12_goShip_253 : decode cX12_goShip 253 = .ok (.invokevirtual 185, 3) := od_182 (a := 0) (b := 185) (by decide +kernel) (by decide)
theorem dX12_goShip_256 : decode cX12_goShip 256 = .ok (.aload_n 0, 1) := od_42  (by decide +kernel)
theorem dX12_goShip_257 : decode cX12_goShip 257 = .ok (.getfield 7, 3) := od_180 (a := 0) (b := 7) (by decide +kernel) (by decide)
theorem dX12_goShip_260 : decode cX12_goShip 260 = .ok (.iload_n 3, 1) := od_29  (by decide +kernel)
theorem dX12_goShip_261 : decode cX12_goShip 261 = .ok (.bipush 10, 2) := od_16 (a := 10) (by decide +kernel) (by decide +kernel)
theorem dX12_goShip_263 : decode cX12_goShip 263 = .ok (.iadd, 1) := od_96  (by decide +kernel)
theorem dX12_goShip_264 : decode cX12_goShip 264 = .ok (.iaload, 1) := od_46  (by decide +kernel)
theorem dX12_goShip_265 : decode cX12_goShip 265 = .ok (.ifCond .le 10, 3) := od_158 (a := 0) (b := 10) (by decide +kernel) (by decide +kernel)
theorem dX12_goShip_268 : decode cX12_goShip 268 = .ok (.aload_n 0, 1) := od_42  (by decide +kernel)
theorem dX12_goShip_269 : decode cX12_goShip 269 = .ok (.iload_n 1, 1) := od_27  (by decide +kernel)
theorem dX12_goShip_270 : decode cX12_goShip 270 = .ok (.iload_n 3, 1) := od_29  (by decide +kernel)
theorem dX12_goShip_271 : decode cX12_goShip 271 = .ok (.iload_n 2, 1) := od_28  (by decide +kernel)
theorem dX12_goShip_272 : decode cX12_goShip 272 = .ok (.invokevirtual 188, 3) := od_182 (a := 0) (b := 188) (by decide +kernel) (by decide)
theorem dX12_goShip_275 : decode cX12_goShip 275 = .ok (.aload_n 0, 1) := od_42  (by decide +kernel)
theorem dX12_goShip_276 : decode cX12_goShip 276 = .ok (.getfield 7, 3) := od_180 (a := 0) (b := 7) (by decide +kernel) (by decide)
theorem dX12_goShip_279 : decode cX12_goShip 279 = .ok (.bipush 13, 2) := od_16 (a := 13) (by decide +kernel) (by decide +kernel)
theorem dX12_goShip_281 : decode cX12_goShip 281 = .ok (.iaload, 1) := od_46  (by decide +kernel)
theorem dX12_goShip_282 : decode cX12_goShip 282 = .ok (.i2l, 1) := od_133  (by decide +kernel)
theorem dX12_goShip_283 : decode cX12_goShip 283 = .ok (.lconst 1, 1) := od_10  (by decide +kernel)
theorem dX12_goShip_284 : decode cX12_goShip 284 = .ok (.ladd, 1) := od_97  (by decide +kernel)
theorem dX12_goShip_285 : decode cX12_goShip 285 = .ok (.aload_n 0, 1) := od_42  (by decide +kernel)
theorem dX12_goShip_286 : decode cX12_goShip 286 = .ok (.iload_n 3, 1) := od_29  (by decide +kernel)
theorem dX12_goShip_287 : decode cX12_goShip 287 = .ok (.invokevirtual 164, 3) := od_182 (a := 0) (b := 164) (by decide +kernel) (by decide)
theorem dX12_goShip_290 : decode cX12_goShip 290 = .ok (.i2l, 1) := od_133  (by decide +kernel)
theorem dX12_goShip_291 : decode cX12_goShip 291 = .ok (.lmul, 1) := od_105  (by decide +kernel)
theorem dX12_goShip_292 : decode cX12_goShip 292 = .ok (.lconst 1, 1) := od_10  (by decide +kernel)
theorem dX12_goShip_293 : decode cX12_goShip 293 = .ok (.lsub, 1) := od_101  (by decide +kernel)
theorem dX12_goShip_294 : decode cX12_goShip 294 = .ok (.ldc2_w 122, 3) := od_20 (a := 0) (b := 122) (by decide +kernel) (by decide)
theorem dX12_goShip_297 : decode cX12_goShip 297 = .ok (.ldiv, 1) := od_109  (by decide +kernel)
theorem dX12_goShip_298 : decode cX12_goShip 298 = .ok (.lstore 5, 2) := od_55 (n := 5) (by decide +kernel)
theorem dX12_goShip_300 : decode cX12_goShip 300 = .ok (.aload_n 0, 1) := od_42  (by decide +kernel)
theorem dX12_goShip_301 : decode cX12_goShip 301 = .ok (.getfield 7, 3) := od_180 (a := 0) (b := 7) (by decide +kernel) (by decide)
theorem dX12_goShip_304 : decode cX12_goShip 304 = .ok (.iload_n 3, 1) := od_29  (by decide +kernel)
theorem dX12_goShip_305 : decode cX12_goShip 305 = .ok (.iconst 5, 1) := od_8  (by decide +kernel)
theorem dX12_goShip_306 : decode cX12_goShip 306 = .ok (.iadd, 1) := od_96  (by decide +kernel)
theorem dX12_goShip_307 : decode cX12_goShip 307 = .ok (.iaload, 1) := od_46  (by decide +kernel)
theorem dX12_goShip_308 : decode cX12_goShip 308 = .ok (.i2l, 1) := od_133  (by decide +kernel)
theorem dX12_goShip_309 : decode cX12_goShip 309 = .ok (.lload 5, 2) := od_22 (n := 5) (by decide +kernel)
theorem dX12_goShip_311 : decode cX12_goShip 311 = .ok (.lcmp, 1) := od_148  (by decide +kernel)
theorem dX12_goShip_312 : decode cX12_goShip 312 = .ok (.ifCond .le 40, 3) := od_158 (a := 0) (b := 40) (by decide +kernel) (by decide +kernel)
theorem dX12_goShip_315 : decode cX12_goShip 315 = .ok (.aload_n 0, 1) := od_42  (by decide +kernel)
theorem dX12_goShip_316 : decode cX12_goShip 316 = .ok (.getfield 7, 3) := od_180 (a := 0) (b := 7) (by decide +kernel) (by decide)
theorem dX12_goShip_319 : decode cX12_goShip 319 = .ok (.iload_n 3, 1) := od_29  (by decide +kernel)
theorem dX12_goShip_320 : decode cX12_goShip 320 = .ok (.bipush 12, 2) := od_16 (a := 12) (by decide +kernel) (by decide +kernel)
theorem dX12_goShip_322 : decode cX12_goShip 322 = .ok (.iadd, 1) := od_96  (by decide +kernel)
theorem dX12_goShip_323 : decode cX12_goShip 323 = .ok (.iconst 2, 1) := od_5  (by decide +kernel)
theorem dX12_goShip_324 : decode cX12_goShip 324 = .ok (.iadd, 1) := od_96  (by decide +kernel)
theorem dX12_goShip_325 : decode cX12_goShip 325 = .ok (.dup2, 1) := od_92  (by decide +kernel)
theorem dX12_goShip_326 : decode cX12_goShip 326 = .ok (.iaload, 1) := od_46  (by decide +kernel)
theorem dX12_goShip_327 : decode cX12_goShip 327 = .ok (.aload_n 0, 1) := od_42  (by decide +kernel)
theorem dX12_goShip_328 : decode cX12_goShip 328 = .ok (.getfield 7, 3) := od_180 (a := 0) (b := 7) (by decide +kernel) (by decide)
theorem dX12_goShip_331 : decode cX12_goShip 331 = .ok (.iload_n 3, 1) := od_29  (by decide +kernel)
theorem dX12_goShip_332 : decode cX12_goShip 332 = .ok (.iconst 5, 1) := od_8  (by decide +kernel)
theorem dX12_goShip_333 : decode cX12_goShip 333 = .ok (.iadd, 1) := od_96  (by decide +kernel)
theorem dX12_goShip_334 : decode cX12_goShip 334 = .ok (.iaload, 1) := od_46  (by decide +kernel)
theorem dX12_goShip_335 : decode cX12_goShip 335 = .ok (.lload 5, 2) := od_22 (n := 5) (by decide +kernel)
theorem dX12_goShip_337 : decode cX12_goShip 337 = .ok (.l2i, 1) := od_136  (by decide +kernel)
theorem dX12_goShip_338 : decode cX12_goShip 338 = .ok (.isub, 1) := od_100  (by decide +kernel)
theorem dX12_goShip_339 : decode cX12_goShip 339 = .ok (.iadd, 1) := od_96  (by decide +kernel)
theorem dX12_goShip_340 : decode cX12_goShip 340 = .ok (.iastore, 1) := od_79  (by decide +kernel)
theorem dX12_goShip_341 : decode cX12_goShip 341 = .ok (.aload_n 0, 1) := od_42  (by decide +kernel)
theorem dX12_goShip_342 : decode cX12_goShip 342 = .ok (.getfield 7, 3) := od_180 (a := 0) (b := 7) (by decide +kernel) (by decide)
theorem dX12_goShip_345 : decode cX12_goShip 345 = .ok (.iload_n 3, 1) := od_29  (by decide +kernel)
theorem dX12_goShip_346 : decode cX12_goShip 346 = .ok (.iconst 5, 1) := od_8  (by decide +kernel)
theorem dX12_goShip_347 : decode cX12_goShip 347 = .ok (.iadd, 1) := od_96  (by decide +kernel)
theorem dX12_goShip_348 : decode cX12_goShip 348 = .ok (.lload 5, 2) := od_22 (n := 5) (by decide +kernel)
theorem dX12_goShip_350 : decode cX12_goShip 350 = .ok (.l2i, 1) := od_136  (by decide +kernel)
theorem dX12_goShip_351 : decode cX12_goShip 351 = .ok (.iastore, 1) := od_79  (by decide +kernel)
theorem dX12_goShip_352 : decode cX12_goShip 352 = .ok (.return_, 1) := od_177  (by decide +kernel)
end

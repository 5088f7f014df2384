set_option maxHeartbeats 4000000 in
set_option maxRecDepth 100000 in
theorem t_X12_sail (l : Launch) (dC : Nat → ClassId) (dI : Nat → Nat → Nat) (sz : Nat) (κ : Nat → ClassId) (τ ν : Nat → Nat) (ρ : Nat → Nat → Nat) (L : List Nat) (f : Nat → va_E) (hG : tp_G τ ν ρ L) (hT : tp_T (mo_O κ) κ τ ν ρ f) (h0 : Nat) (us : Int32) (u : Int32) (a : Int32) (x : Int) (b : Int) (qs : Int) (ht_h0 : τ h0 = 13) (hr_u : 0 ≤ u.toInt ∧ u.toInt ≤ 2399) (hr_a : 0 ≤ a.toInt ∧ a.toInt ≤ 5) (hL_us : us.toInt = 547 + 84 * qs) (hq_us : 0 ≤ qs ∧ qs ≤ 5) (hbb : 0 ≤ b ∧ b ≤ 1000) (hJ : mo_RI x b (mo_R (mo_i (f (ρ h0 2))))) (ho : 1 ≤ (mo_R (mo_i (f (ρ h0 2)))) (547 + 84 * qs + 10)) (hn1 : qs < (mo_R (mo_i (f (ρ h0 2)))) (1)) : Met l yX12_sail wqX12_sail ({ frames := 4, cells := 0, slots := 0, locals := 1200 }) (va_Pc [.ref h0, .int us, .int u, .int a] (pz_B dC dI (tp_K κ) (va_pl L f) sz)) (va_Qv (fun (f1 : Nat → va_E) => tp_T (mo_O κ) κ τ ν ρ f1 ∧ tp_F τ [13, 32] f f1 ∧ mo_RI x b (mo_R (mo_i (f1 (ρ h0 2)))) ∧ (mo_R (mo_i (f1 (ρ h0 2)))) (1) = (mo_R (mo_i (f (ρ h0 2)))) (1) ∧ (mo_R (mo_i (f1 (ρ h0 2)))) (11) = (mo_R (mo_i (f (ρ h0 2)))) (11)) (fun (f1 : Nat → va_E) (t : State) => pz_E dC dI (tp_K κ) (va_A (va_pl L f) sz) (va_pl L f1) t) (va_A (va_pl L f) sz)) 0 0 (va_A (va_pl L f) sz) := by
  refine Met.ofW (cc := cX12_sail) (maxL := 5) (ret := none) (by decide) rfl ?_
  intro p e s m args below meth c s₁ B hml hv
  obtain ⟨rfl, hsz, hP, hK, hD0, hN⟩ := hv
  have hx := B.exec
  have hb := B.bytes
  have hr := B.returns
  have hts := fun (w : Cond) (h : w ∈ WALL) => atoms_spec (ws := wqX12_sail) B.pre w (List.mem_cons_of_mem _ h)
  have hown : s.vm.findClass RX12 = some m.cls := findClass_of_methodNamed B.named
  have hlocks := B.notSynchronized
  subst hsz
  have hD := hD0.self (sz := s.heap.size)
  generalize hAe : va_A (va_pl L f) s.heap.size = A at hD ⊢
  have hA : ∀ q : Nat, s.heap.size ≤ q → A q := fun q h => by rw [← hAe]; exact Or.inr h
  have hS : va_S A s.heap s.heap [] := va_S.rf
  have hR : tp_F τ [13, 32] f f := tp_F.rf
  have hl := lv_entry ([.ref h0, .int us, .int u, .int a]) (n := 5) (Nat.le_of_ble_eq_true rfl)
  rw [lg_entry_eq]
  generalize (lg_sl ([.ref h0, .int us, .int u, .int a]) ++ List.replicate (5 - (lg_sl ([.ref h0, .int us, .int u, .int a])).length) Slot.unset).toArray = ls at hl ⊢
  have hl : lv_has ls 5 [(0, .ref h0), (1, .int us), (2, .int u), (3, .int a)] := hl
  refine tgk_13 hG ht_h0 (fun y1 y2 y3 y4 y5 y6 y7 y8 y9 y10 y11 y12 y13 y14 y15 y16 y17 y18 y19 y20 y21 y22 y23 y24 y25 => ?_)
  refine tpk_32 hT y1 (fun g27 hf_o26 => ?_)
  have hI : mo_RI x b (mo_R g27) := by have q9 := hJ; rw [hf_o26, mo_i1] at q9; exact q9
  rw [hf_o26, mo_i1] at ho
  rw [hf_o26, mo_i1] at hn1
  obtain ⟨n1, en1⟩ : ∃ n : Int, n = mo_R g27 (1) := ⟨_, rfl⟩
  have kn1 := hI.k1
  obtain ⟨n11, en11⟩ : ∃ n : Int, n = mo_R g27 (11) := ⟨_, rfl⟩
  have kn11 := hI.k11
  obtain ⟨ns10, ens10⟩ : ∃ n : Int, n = mo_R g27 (547 + 84 * qs + 10) := ⟨_, rfl⟩
  refine lv_aload_n hx hb dX12_sail_0 rfl (lv_at hl 0 rfl) ?_
  refine tpk_13 hT ht_h0 (fun o28_x0 o28_x1 o28_x7 o28_x9 o28_x10 o28_x11 o28_x12 o28_x13 o28_x14 o28_x15 o28_x16 o28_x17 o28_x18 o28_x19 o28_x20 o28_x22 o28_x25 o28_x28 o28_x29 o28_x32 o28_x33 o28_x34 o28_x35 o28_x36 o28_x37 o28_x38 o28_x47 o28_x48 hf_o28 ro28_0 ro28_1 ro28_2 ro28_3 ro28_4 ro28_5 ro28_6 ro28_7 ro28_8 ro28_9 ro28_10 ro28_11 ro28_12 ro28_13 => ?_)
  refine tpk_pos (tp_in hG ht_h0 (by decide)) hf_o28 (fun q29 eq29 => ?_)
  refine va_get (D := (dC, dI)) (ci := 12) (v := .ref (ρ h0 2)) (C := RX12) (T := TX12) (N := 53) hx hb hts hfX12 hown hK hP q29 eq29 rfl 2 (by decide) (hts (.fieldLink RX12 7 "ColdShipsModel" "row" "[I") wa_148) (fun _ h9 => h9) rfl dX12_sail_1 ?_
  refine lv_iload_n hx hb dX12_sail_4 rfl (lv_at hl 1 rfl) ?_
  refine lv_iconst (v := 1) hx hb dX12_sail_5 (by decide) ?_
  refine lv_iadd hx hb dX12_sail_6 ?_
  refine lv_topi (fun z30 ez30 => ?_)
  have iz30 : z30.toInt = us.toInt + 1 := zi_add ez30 rfl rfl (by omega) (by omega)
  refine tpk_pos (tp_in hG y1 (by decide)) hf_o26 (fun q31 eq31 => ?_)
  refine va_iald hx hb hK hP q31 0 eq31 rfl (vp_in_iff.mpr ⟨by omega, by omega⟩) dX12_sail_7 ?_
  refine lv_topi (fun z32 ez32 => ?_)
  refine tp_join 112 (fun H locs ls stk => ∃ f34 : Nat → va_E, stk = [] ∧ tp_T (mo_O κ) κ τ ν ρ f34 ∧ tp_F τ [13, 32] f f34 ∧ ((mo_RI x b (mo_R (mo_i (f34 (ρ h0 2)))))) ∧ (((mo_R (mo_i (f34 (ρ h0 2)))) (1) = n1)) ∧ (((mo_R (mo_i (f34 (ρ h0 2)))) (11) = n11)) ∧ (((mo_R (mo_i (f34 (ρ h0 2)))) (547 + 84 * qs + 10) = ns10)) ∧ va_P (dC, dI) vwCl (va_pl L f34) H ∧ va_D A (va_pl L f34) ∧ va_S A s.heap H locs ∧ lv_has ls 5 [(0, .ref h0), (1, .int us), (2, .int u), (3, .int a)]) ?_ (fun hj33 => ?_)
  · intro H locs ls stk hI
    refine Exists.elim hI (fun f34 hE90 => tn_11 hE90 (fun e90 hT hR hJ jf36 jf37 jf38 hP hD hS hl => ?_))
    clear hE90 hI; subst e90
    refine tpk_32 hT y1 (fun g40 hf_o39 => ?_)
    have hI : mo_RI x b (mo_R g40) := by have q9 := hJ; rw [hf_o39, mo_i1] at q9; exact q9
    rw [hf_o39, mo_i1] at jf36
    rw [hf_o39, mo_i1] at jf37
    rw [hf_o39, mo_i1] at jf38
    refine lv_aload_n hx hb dX12_sail_112 rfl (lv_at hl 0 rfl) ?_
    refine tpk_13 hT ht_h0 (fun o41_x0 o41_x1 o41_x7 o41_x9 o41_x10 o41_x11 o41_x12 o41_x13 o41_x14 o41_x15 o41_x16 o41_x17 o41_x18 o41_x19 o41_x20 o41_x22 o41_x25 o41_x28 o41_x29 o41_x32 o41_x33 o41_x34 o41_x35 o41_x36 o41_x37 o41_x38 o41_x47 o41_x48 hf_o41 ro41_0 ro41_1 ro41_2 ro41_3 ro41_4 ro41_5 ro41_6 ro41_7 ro41_8 ro41_9 ro41_10 ro41_11 ro41_12 ro41_13 => ?_)
    refine tpk_pos (tp_in hG ht_h0 (by decide)) hf_o41 (fun q42 eq42 => ?_)
    refine va_get (D := (dC, dI)) (ci := 12) (v := .ref (ρ h0 2)) (C := RX12) (T := TX12) (N := 53) hx hb hts hfX12 hown hK hP q42 eq42 rfl 2 (by decide) (hts (.fieldLink RX12 7 "ColdShipsModel" "row" "[I") wa_148) (fun _ h9 => h9) rfl dX12_sail_113 ?_
    refine lv_iload_n hx hb dX12_sail_116 rfl (lv_at hl 1 rfl) ?_
    refine lv_bipush (v := 9) hx hb dX12_sail_117 (by decide) ?_
    refine lv_iadd hx hb dX12_sail_119 ?_
    refine lv_topi (fun z43 ez43 => ?_)
    have iz43 : z43.toInt = us.toInt + 9 := zi_add ez43 rfl rfl (by omega) (by omega)
    refine tpk_pos (tp_in hG y1 (by decide)) hf_o39 (fun q44 eq44 => ?_)
    refine va_iald hx hb hK hP q44 0 eq44 rfl (vp_in_iff.mpr ⟨by omega, by omega⟩) dX12_sail_120 ?_
    refine lv_topi (fun z45 ez45 => ?_)
    refine lv_iconst (v := 1) hx hb dX12_sail_121 (by decide) ?_
    refine lv_icmp_eq (tgt := 150) hx hb dX12_sail_122 (by decide) (fun c46 => ?_) (fun c46 => ?_)
    · have ic46 : z45.toInt = 1 := zi_eq rfl rfl c46
      exact W.vret hx hb hr (fun t ht hW => ⟨⟨f34, rfl, ⟨hT, hR, ⟨(by rw [hf_o39, mo_i1]; exact hI), (by first | (simp only [hf_o39, hf_o26, mo_i1]; omega) | (simp only [hf_o39, hf_o26, mo_i1]; trivial) | (simp only [hf_o39, hf_o26, mo_i1]; done) | omega)⟩⟩, by rw [ht]; exact hP, va_K.moved hW.alike hK, hD⟩, hS.F ht⟩) hS.2.2 dX12_sail_150
    · have ic46 : z45.toInt ≠ 1 := zi_eqf rfl rfl c46
      refine lv_aload_n hx hb dX12_sail_125 rfl (lv_at hl 0 rfl) ?_
      refine va_get (D := (dC, dI)) (ci := 12) (v := .ref (ρ h0 2)) (C := RX12) (T := TX12) (N := 53) hx hb hts hfX12 hown hK hP q42 eq42 rfl 2 (by decide) (hts (.fieldLink RX12 7 "ColdShipsModel" "row" "[I") wa_148) (fun _ h9 => h9) rfl dX12_sail_126 ?_
      refine lv_sipush (v := 147) hx hb dX12_sail_129 (by decide) ?_
      refine lv_iload_n hx hb dX12_sail_132 rfl (lv_at hl 2 rfl) ?_
      refine lv_bipush (v := 24) hx hb dX12_sail_133 (by decide) ?_
      refine lv_idiv hx hb dX12_sail_135 (by decide) ?_
      refine lv_topi (fun z47 ez47 => ?_)
      have iz47 : z47.toInt = u.toInt / 24 := zi_div ez47 rfl (show (24 : Int32).toInt = 24 from rfl) (by omega) (by omega)
      refine lv_iadd hx hb dX12_sail_136 ?_
      refine lv_topi (fun z48 ez48 => ?_)
      have iz48 : z48.toInt = 147 + z47.toInt := zi_add ez48 rfl rfl (by omega) (by omega)
      refine va_iald hx hb hK hP q44 0 eq44 rfl (vp_in_iff.mpr ⟨by omega, by omega⟩) dX12_sail_137 ?_
      refine lv_topi (fun z49 ez49 => ?_)
      have jz49 : z49.toInt = mo_R g40 (147 + z47.toInt) := mo_rd ez49 (by omega)
      have kz49 := hI.E (d := z47.toInt) (by omega) (by omega)
      refine lv_bipush (v := 6) hx hb dX12_sail_138 (by decide) ?_
      refine tp_join 151 (fun H locs ls stk => stk = [] ∧ va_P (dC, dI) vwCl (va_pl L f34) H ∧ va_D A (va_pl L f34) ∧ va_S A s.heap H locs ∧ lv_has ls 5 [(0, .ref h0), (1, .int us), (2, .int u), (3, .int a)]) ?_ (fun hj50 => ?_)
      · intro H locs ls stk hI
        refine tn_5 hI (fun e90 hP hD hS hl => ?_)
        clear hI; subst e90
        refine lv_aload_n hx hb dX12_sail_151 rfl (lv_at hl 0 rfl) ?_
        refine va_get (D := (dC, dI)) (ci := 12) (v := .ref (ρ h0 2)) (C := RX12) (T := TX12) (N := 53) hx hb hts hfX12 hown hK hP q42 eq42 rfl 2 (by decide) (hts (.fieldLink RX12 7 "ColdShipsModel" "row" "[I") wa_148) (fun _ h9 => h9) rfl dX12_sail_152 ?_
        refine lv_iload_n hx hb dX12_sail_155 rfl (lv_at hl 1 rfl) ?_
        refine lv_iconst (v := 3) hx hb dX12_sail_156 (by decide) ?_
        refine lv_iadd hx hb dX12_sail_157 ?_
        refine lv_topi (fun z51 ez51 => ?_)
        have iz51 : z51.toInt = us.toInt + 3 := zi_add ez51 rfl rfl (by omega) (by omega)
        refine va_iald hx hb hK hP q44 0 eq44 rfl (vp_in_iff.mpr ⟨by omega, by omega⟩) dX12_sail_158 ?_
        refine lv_topi (fun z52 ez52 => ?_)
        refine lv_iconst (v := 1) hx hb dX12_sail_159 (by decide) ?_
        refine tp_join 224 (fun H locs ls stk => ∃ f54 : Nat → va_E, stk = [] ∧ tp_T (mo_O κ) κ τ ν ρ f54 ∧ tp_F τ [13, 32] f f54 ∧ ((mo_RI x b (mo_R (mo_i (f54 (ρ h0 2)))))) ∧ (((mo_R (mo_i (f54 (ρ h0 2)))) (1) = n1)) ∧ (((mo_R (mo_i (f54 (ρ h0 2)))) (11) = n11)) ∧ (((mo_R (mo_i (f54 (ρ h0 2)))) (547 + 84 * qs + 10) = ns10)) ∧ va_P (dC, dI) vwCl (va_pl L f54) H ∧ va_D A (va_pl L f54) ∧ va_S A s.heap H locs ∧ lv_has ls 5 [(0, .ref h0), (1, .int us), (2, .int u), (3, .int a)]) ?_ (fun hj53 => ?_)
        · intro H locs ls stk hI
          refine Exists.elim hI (fun f54 hE90 => tn_11 hE90 (fun e90 hT hR hJ jf56 jf57 jf58 hP hD hS hl => ?_))
          clear hE90 hI; subst e90
          refine tpk_32 hT y1 (fun g60 hf_o59 => ?_)
          have hI : mo_RI x b (mo_R g60) := by have q9 := hJ; rw [hf_o59, mo_i1] at q9; exact q9
          rw [hf_o59, mo_i1] at jf56
          rw [hf_o59, mo_i1] at jf57
          rw [hf_o59, mo_i1] at jf58
          refine lv_aload_n hx hb dX12_sail_224 rfl (lv_at hl 0 rfl) ?_
          refine tpk_13 hT ht_h0 (fun o61_x0 o61_x1 o61_x7 o61_x9 o61_x10 o61_x11 o61_x12 o61_x13 o61_x14 o61_x15 o61_x16 o61_x17 o61_x18 o61_x19 o61_x20 o61_x22 o61_x25 o61_x28 o61_x29 o61_x32 o61_x33 o61_x34 o61_x35 o61_x36 o61_x37 o61_x38 o61_x47 o61_x48 hf_o61 ro61_0 ro61_1 ro61_2 ro61_3 ro61_4 ro61_5 ro61_6 ro61_7 ro61_8 ro61_9 ro61_10 ro61_11 ro61_12 ro61_13 => ?_)
          refine tpk_pos (tp_in hG ht_h0 (by decide)) hf_o61 (fun q62 eq62 => ?_)
          refine va_get (D := (dC, dI)) (ci := 12) (v := .ref (ρ h0 2)) (C := RX12) (T := TX12) (N := 53) hx hb hts hfX12 hown hK hP q62 eq62 rfl 2 (by decide) (hts (.fieldLink RX12 7 "ColdShipsModel" "row" "[I") wa_148) (fun _ h9 => h9) rfl dX12_sail_225 ?_
          refine lv_iload_n hx hb dX12_sail_228 rfl (lv_at hl 1 rfl) ?_
          refine lv_iconst (v := 1) hx hb dX12_sail_229 (by decide) ?_
          refine lv_iadd hx hb dX12_sail_230 ?_
          refine lv_topi (fun z63 ez63 => ?_)
          have iz63 : z63.toInt = us.toInt + 1 := zi_add ez63 rfl rfl (by omega) (by omega)
          refine lv_dup2_11 hx hb dX12_sail_231 rfl rfl ?_
          refine tpk_pos (tp_in hG y1 (by decide)) hf_o59 (fun q64 eq64 => ?_)
          refine va_iald hx hb hK hP q64 0 eq64 rfl (vp_in_iff.mpr ⟨by omega, by omega⟩) dX12_sail_232 ?_
          refine lv_topi (fun z65 ez65 => ?_)
          refine lv_iconst (v := 1) hx hb dX12_sail_233 (by decide) ?_
          refine lv_isub hx hb dX12_sail_234 ?_
          refine lv_topi (fun z66 ez66 => ?_)
          refine va_iast hx hb hK hP hD hS q64 0 eq64 rfl (vp_in_iff.mpr ⟨by omega, by omega⟩) dX12_sail_235 (tp_k (.inl (κ 0, 12967, .inl (upd g60 z63.toNatClampNeg z66))) hD (tp_in hG y1 (by decide)) eq64 (fun f67 H locs hP hD hS g69 k68 => ?_))
          have hT := hT.up y1 g69 k68 tp_o32
          have hR := hR.up y1 (by decide) k68
          have hU : mo_U (mo_R g60) (mo_R (upd g60 z63.toNatClampNeg z66)) (547 + 84 * qs + 1) (z66.toInt) := mo_up (by omega) (rfl : z66.toInt = _) (by omega)
          generalize (upd g60 z63.toNatClampNeg z66) = g70 at g69 hU
          have hI := mo_w_sfree hI hU qs 1 (by omega) (by omega) (by omega)
          have pn71 : mo_R g70 (1) = n1 := (hU.ne (by omega) (by omega)).trans jf56
          have pn72 : mo_R g70 (11) = n11 := (hU.ne (by omega) (by omega)).trans jf57
          have pn73 : mo_R g70 (547 + 84 * qs + 10) = ns10 := (hU.ne (by omega) (by omega)).trans jf58
          refine lv_aload_n hx hb dX12_sail_236 rfl (lv_at hl 0 rfl) ?_
          have hf_74 : f67 h0 = .inr (12, [.int o61_x0, .int o61_x1, .ref (ρ h0 2), .ref (ρ h0 3), .ref (ρ h0 4), .ref (ρ h0 5), .ref (ρ h0 6), .int o61_x7, .ref (ρ h0 8), .int o61_x9, .int o61_x10, .int o61_x11, .int o61_x12, .long o61_x13, .int o61_x14, .int o61_x15, .int o61_x16, .int o61_x17, .int o61_x18, .int o61_x19, .int o61_x20, .ref (ρ h0 21), .int o61_x22, .ref (ρ h0 23), .ref (ρ h0 24), .int o61_x25, .ref (ρ h0 26), .ref (ρ h0 27), .int o61_x28, .int o61_x29, .ref (ρ h0 30), .ref (ρ h0 31), .int o61_x32, .long o61_x33, .long o61_x34, .long o61_x35, .int o61_x36, .int o61_x37, .int o61_x38, .ref (ρ h0 39), .ref (ρ h0 40), .ref (ρ h0 41), .ref (ρ h0 42), .ref (ρ h0 43), .ref (ρ h0 44), .ref (ρ h0 45), .ref (ρ h0 46), .int o61_x47, .int o61_x48, .ref (ρ h0 49), .ref (ρ h0 50), .ref (ρ h0 51), .ref (ρ h0 52)]) := (k68 _ (tp_ne ht_h0 y1 (by decide))).trans hf_o61
          refine tpk_pos (tp_in hG ht_h0 (by decide)) hf_74 (fun q75 eq75 => ?_)
          refine va_get (D := (dC, dI)) (ci := 12) (v := .ref (ρ h0 2)) (C := RX12) (T := TX12) (N := 53) hx hb hts hfX12 hown hK hP q75 eq75 rfl 2 (by decide) (hts (.fieldLink RX12 7 "ColdShipsModel" "row" "[I") wa_148) (fun _ h9 => h9) rfl dX12_sail_237 ?_
          refine lv_iload_n hx hb dX12_sail_240 rfl (lv_at hl 1 rfl) ?_
          refine lv_iconst (v := 1) hx hb dX12_sail_241 (by decide) ?_
          refine lv_iadd hx hb dX12_sail_242 ?_
          refine lv_topi (fun z76 ez76 => ?_)
          have iz76 : z76.toInt = us.toInt + 1 := zi_add ez76 rfl rfl (by omega) (by omega)
          refine tpk_pos (tp_in hG y1 (by decide)) g69 (fun q77 eq77 => ?_)
          refine va_iald hx hb hK hP q77 0 eq77 rfl (vp_in_iff.mpr ⟨by omega, by omega⟩) dX12_sail_243 ?_
          refine lv_topi (fun z78 ez78 => ?_)
          refine lv_if_ne (tgt := 252) hx hb dX12_sail_244 (by decide) (fun c79 => ?_) (fun c79 => ?_)
          · have ic79 : z78.toInt ≠ 0 := zi_ne rfl rfl c79
            exact W.vret hx hb hr (fun t ht hW => ⟨⟨f67, rfl, ⟨hT, hR, ⟨(by rw [g69, mo_i1]; exact hI), (by first | (simp only [g69, hf_o26, mo_i1]; omega) | (simp only [g69, hf_o26, mo_i1]; trivial) | (simp only [g69, hf_o26, mo_i1]; done) | omega)⟩⟩, by rw [ht]; exact hP, va_K.moved hW.alike hK, hD⟩, hS.F ht⟩) hS.2.2 dX12_sail_252
          · have ic79 : z78.toInt = 0 := zi_nef rfl rfl c79
            refine lv_aload_n hx hb dX12_sail_247 rfl (lv_at hl 0 rfl) ?_
            refine lv_iload_n hx hb dX12_sail_248 rfl (lv_at hl 1 rfl) ?_
            have hFc := tp_fr hD hS hA
            refine va_callv (va_runV (As := [.int us]) (rest := []) ⟨hx, hb, hml, hown, hts⟩ (t_X12_endOrder l dC dI _ κ τ ν ρ L f67 hG hT h0 us x b qs ht_h0 (by omega) (by omega) (by omega) (by rw [g69, mo_i1]; exact hI) (by first | (simp only [g69, hf_o26, mo_i1]; omega) | (simp only [g69, hf_o26, mo_i1]; trivial) | (simp only [g69, hf_o26, mo_i1]; done) | omega) (by first | (simp only [g69, hf_o26, mo_i1]; omega) | (simp only [g69, hf_o26, mo_i1]; trivial) | (simp only [g69, hf_o26, mo_i1]; done) | omega)) (cwV 1 hts gX12_sail_X12_endOrder rfl rfl rfl ⟨rfl, pd_X12_endOrder⟩ ⟨Nat.le_of_ble_eq_true rfl, Nat.le_of_ble_eq_true rfl⟩) ⟨pz_blind, va_recv hK hP (ci := 12) (q0 := q75) rfl eq75, pz_pre hP hK hD hN⟩ rfl rfl hl.1 rfl (lv_room (Nat.le_of_ble_eq_true rfl)) dX12_sail_249 ⟨Nat.le_of_ble_eq_true rfl, Nat.le_of_ble_eq_true rfl⟩) hS (fun q _ h => hFc q h) hFc (fun f82 t H1 locs ht hvm hw81 hB hz1 hk1 hS => ?_)
            refine tn_3 hw81 (fun hT hF83 hw81p => ?_); clear hw81
            have hR := hR.then hF83 (by decide)
            have hP := hB.1; rw [ht] at hP; have hD := tp_ad f82 hD; clear hB hFc hz1 hk1; subst ht; generalize t.heap = H at hP hS ⊢
            obtain ⟨hJ, hw81pe⟩ := hw81p
            refine tpk_32 hT y1 (fun g85 hf_o84 => ?_)
            have hI : mo_RI x b (mo_R g85) := by have q9 := hJ; rw [hf_o84, mo_i1] at q9; exact q9
            rw [g69, mo_i1] at hw81pe
            rw [hf_o84, mo_i1] at hw81pe
            have pn86 : mo_R g85 (1) = n1 := (hw81pe.1).trans pn71
            have pn87 : mo_R g85 (11) = n11 := (hw81pe.2).trans pn72
            clear pn71 pn72 pn73
            exact W.vret hx hb hr (fun t ht hW => ⟨⟨f82, rfl, ⟨hT, hR, ⟨(by rw [hf_o84, mo_i1]; exact hI), (by first | (simp only [hf_o84, hf_o26, mo_i1]; omega) | (simp only [hf_o84, hf_o26, mo_i1]; trivial) | (simp only [hf_o84, hf_o26, mo_i1]; done) | omega)⟩⟩, by rw [ht]; exact hP, va_K.moved hW.alike hK, hD⟩, hS.F ht⟩) hS.2.2 dX12_sail_252
        · refine lv_icmp_ne (tgt := 224) hx hb dX12_sail_160 (by decide) (fun c88 => ?_) (fun c88 => ?_)
          · have ic88 : z52.toInt ≠ 1 := zi_ne rfl rfl c88
            exact hj53 _ _ _ _ ⟨f34, rfl, hT, hR, (by rw [hf_o39, mo_i1]; exact hI), (by rw [hf_o39, mo_i1]; omega), (by rw [hf_o39, mo_i1]; omega), (by rw [hf_o39, mo_i1]; omega), hP, hD, hS, lv_sub hl [0, 1, 2, 3] rfl⟩
          · have ic88 : z52.toInt = 1 := zi_nef rfl rfl c88
            refine lv_aload_n hx hb dX12_sail_163 rfl (lv_at hl 0 rfl) ?_
            refine va_get (D := (dC, dI)) (ci := 12) (v := .ref (ρ h0 2)) (C := RX12) (T := TX12) (N := 53) hx hb hts hfX12 hown hK hP q42 eq42 rfl 2 (by decide) (hts (.fieldLink RX12 7 "ColdShipsModel" "row" "[I") wa_148) (fun _ h9 => h9) rfl dX12_sail_164 ?_
            refine lv_iload_n hx hb dX12_sail_167 rfl (lv_at hl 1 rfl) ?_
            refine lv_iconst (v := 1) hx hb dX12_sail_168 (by decide) ?_
            refine lv_iadd hx hb dX12_sail_169 ?_
            refine lv_topi (fun z89 ez89 => ?_)
            have iz89 : z89.toInt = us.toInt + 1 := zi_add ez89 rfl rfl (by omega) (by omega)
            refine va_iald hx hb hK hP q44 0 eq44 rfl (vp_in_iff.mpr ⟨by omega, by omega⟩) dX12_sail_170 ?_
            refine lv_topi (fun z90 ez90 => ?_)
            refine lv_aload_n hx hb dX12_sail_171 rfl (lv_at hl 0 rfl) ?_
            refine va_get (D := (dC, dI)) (ci := 12) (v := .ref (ρ h0 2)) (C := RX12) (T := TX12) (N := 53) hx hb hts hfX12 hown hK hP q42 eq42 rfl 2 (by decide) (hts (.fieldLink RX12 7 "ColdShipsModel" "row" "[I") wa_148) (fun _ h9 => h9) rfl dX12_sail_172 ?_
            refine lv_iload_n hx hb dX12_sail_175 rfl (lv_at hl 1 rfl) ?_
            refine lv_iconst (v := 2) hx hb dX12_sail_176 (by decide) ?_
            refine lv_iadd hx hb dX12_sail_177 ?_
            refine lv_topi (fun z91 ez91 => ?_)
            have iz91 : z91.toInt = us.toInt + 2 := zi_add ez91 rfl rfl (by omega) (by omega)
            refine va_iald hx hb hK hP q44 0 eq44 rfl (vp_in_iff.mpr ⟨by omega, by omega⟩) dX12_sail_178 ?_
            refine lv_topi (fun z92 ez92 => ?_)
            refine lv_iconst (v := 2) hx hb dX12_sail_179 (by decide) ?_
            refine lv_idiv hx hb dX12_sail_180 (by decide) ?_
            refine lv_topi (fun z93 ez93 => ?_)
            refine lv_icmp_ne (tgt := 224) hx hb dX12_sail_181 (by decide) (fun c94 => ?_) (fun c94 => ?_)
            · have ic94 : z90.toInt ≠ z93.toInt := zi_ne rfl rfl c94
              exact hj53 _ _ _ _ ⟨f34, rfl, hT, hR, (by rw [hf_o39, mo_i1]; exact hI), (by rw [hf_o39, mo_i1]; omega), (by rw [hf_o39, mo_i1]; omega), (by rw [hf_o39, mo_i1]; omega), hP, hD, hS, lv_sub hl [0, 1, 2, 3] rfl⟩
            · have ic94 : z90.toInt = z93.toInt := zi_nef rfl rfl c94
              refine lv_iload_n hx hb dX12_sail_184 rfl (lv_at hl 2 rfl) ?_
              refine lv_bipush (v := 24) hx hb dX12_sail_185 (by decide) ?_
              refine lv_irem hx hb dX12_sail_187 (by decide) ?_
              refine lv_topi (fun z95 ez95 => ?_)
              have iz95 : z95.toInt = u.toInt % 24 := zi_rem ez95 rfl (show (24 : Int32).toInt = 24 from rfl) (by omega) (by omega)
              refine lv_istore (lv' := [(4, .int z95), (0, .ref h0), (1, .int us), (2, .int u), (3, .int a)]) hx hb dX12_sail_188 hl (by decide) rfl (fun ls hl => ?_)
              refine lv_aload_n hx hb dX12_sail_190 rfl (lv_at hl 1 rfl) ?_
              refine va_get (D := (dC, dI)) (ci := 12) (v := .int o41_x7) (C := RX12) (T := TX12) (N := 53) hx hb hts hfX12 hown hK hP q42 eq42 rfl 7 (by decide) (hts (.fieldLink RX12 169 "ColdShipsModel" "isTurnTaken" "Z") wa_547) (fun _ h9 => h9) rfl dX12_sail_191 ?_
              refine lv_if_ne (tgt := 218) hx hb dX12_sail_194 (by decide) (fun c96 => ?_) (fun c96 => ?_)
              · have ic96 : o41_x7.toInt ≠ 0 := zi_ne rfl rfl c96
                replace ic96 : 1 ≤ o41_x7.toInt := by omega
                exact W.vret hx hb hr (fun t ht hW => ⟨⟨f34, rfl, ⟨hT, hR, ⟨(by rw [hf_o39, mo_i1]; exact hI), (by first | (simp only [hf_o39, hf_o26, mo_i1]; omega) | (simp only [hf_o39, hf_o26, mo_i1]; trivial) | (simp only [hf_o39, hf_o26, mo_i1]; done) | omega)⟩⟩, by rw [ht]; exact hP, va_K.moved hW.alike hK, hD⟩, hS.F ht⟩) hS.2.2 dX12_sail_218
              · have ic96 : o41_x7.toInt = 0 := zi_nef rfl rfl c96
                refine lv_iload hx hb dX12_sail_197 (lv_at hl 0 rfl) ?_
                refine lv_bipush (v := 6) hx hb dX12_sail_199 (by decide) ?_
                refine lv_icmp_eq (tgt := 219) hx hb dX12_sail_201 (by decide) (fun c97 => ?_) (fun c97 => ?_)
                · have ic97 : z95.toInt = 6 := zi_eq rfl rfl c97
                  refine lv_aload_n hx hb dX12_sail_219 rfl (lv_at hl 1 rfl) ?_
                  refine lv_iconst (v := 1) hx hb dX12_sail_220 (by decide) ?_
                  refine va_put (D := (dC, dI)) (ci := 12) (v := .int 1) (ty := .boolean) (C := RX12) (T := TX12) (N := 53) hx hb hts hfX12 tyX12 tyX12_ok nmX12 hown hK hP hD hS q42 eq42 rfl 7 (by decide) (hts (.fieldLink RX12 169 "ColdShipsModel" "isTurnTaken" "Z") wa_547) (fun _ h9 => h9) rfl (tyX12_ok 7 (by decide)) rfl rfl (Nat.le_of_ble_eq_true rfl) dX12_sail_221 (tp_k (.inr (12, [.int o41_x0, .int o41_x1, .ref (ρ h0 2), .ref (ρ h0 3), .ref (ρ h0 4), .ref (ρ h0 5), .ref (ρ h0 6), .int 1, .ref (ρ h0 8), .int o41_x9, .int o41_x10, .int o41_x11, .int o41_x12, .long o41_x13, .int o41_x14, .int o41_x15, .int o41_x16, .int o41_x17, .int o41_x18, .int o41_x19, .int o41_x20, .ref (ρ h0 21), .int o41_x22, .ref (ρ h0 23), .ref (ρ h0 24), .int o41_x25, .ref (ρ h0 26), .ref (ρ h0 27), .int o41_x28, .int o41_x29, .ref (ρ h0 30), .ref (ρ h0 31), .int o41_x32, .long o41_x33, .long o41_x34, .long o41_x35, .int o41_x36, .int o41_x37, .int o41_x38, .ref (ρ h0 39), .ref (ρ h0 40), .ref (ρ h0 41), .ref (ρ h0 42), .ref (ρ h0 43), .ref (ρ h0 44), .ref (ρ h0 45), .ref (ρ h0 46), .int o41_x47, .int o41_x48, .ref (ρ h0 49), .ref (ρ h0 50), .ref (ρ h0 51), .ref (ρ h0 52)])) hD (tp_in hG ht_h0 (by decide)) eq42 (fun f98 H locs hP hD hS g100 k99 => ?_))
                  have hT := hT.up ht_h0 g100 k99 ⟨_, _, _, _, _, _, _, _, _, _, _, _, _, _, _, _, _, _, _, _, _, _, _, _, _, _, _, _, rfl, (by decide), ro41_1, ro41_2, ro41_3, ro41_4, ro41_5, ro41_6, ro41_7, ro41_8, ro41_9, ro41_10, ro41_11, ro41_12, ro41_13⟩
                  have hR := hR.up ht_h0 (by decide) k99
                  have hf_101 : f98 (ρ h0 2) = .inl (κ 0, 12967, .inl g40) := (k99 _ (tp_ne y1 ht_h0 (by decide))).trans hf_o39
                  exact hj53 _ _ _ _ ⟨f98, rfl, hT, hR, (by rw [hf_101, mo_i1]; exact hI), (by rw [hf_101, mo_i1]; omega), (by rw [hf_101, mo_i1]; omega), (by rw [hf_101, mo_i1]; omega), hP, hD, hS, lv_sub hl [1, 2, 3, 4] rfl⟩
                · have ic97 : z95.toInt ≠ 6 := zi_eqf rfl rfl c97
                  refine lv_iload hx hb dX12_sail_204 (lv_at hl 0 rfl) ?_
                  refine lv_bipush (v := 12) hx hb dX12_sail_206 (by decide) ?_
                  refine lv_icmp_eq (tgt := 219) hx hb dX12_sail_208 (by decide) (fun c102 => ?_) (fun c102 => ?_)
                  · have ic102 : z95.toInt = 12 := zi_eq rfl rfl c102
                    refine lv_aload_n hx hb dX12_sail_219 rfl (lv_at hl 1 rfl) ?_
                    refine lv_iconst (v := 1) hx hb dX12_sail_220 (by decide) ?_
                    refine va_put (D := (dC, dI)) (ci := 12) (v := .int 1) (ty := .boolean) (C := RX12) (T := TX12) (N := 53) hx hb hts hfX12 tyX12 tyX12_ok nmX12 hown hK hP hD hS q42 eq42 rfl 7 (by decide) (hts (.fieldLink RX12 169 "ColdShipsModel" "isTurnTaken" "Z") wa_547) (fun _ h9 => h9) rfl (tyX12_ok 7 (by decide)) rfl rfl (Nat.le_of_ble_eq_true rfl) dX12_sail_221 (tp_k (.inr (12, [.int o41_x0, .int o41_x1, .ref (ρ h0 2), .ref (ρ h0 3), .ref (ρ h0 4), .ref (ρ h0 5), .ref (ρ h0 6), .int 1, .ref (ρ h0 8), .int o41_x9, .int o41_x10, .int o41_x11, .int o41_x12, .long o41_x13, .int o41_x14, .int o41_x15, .int o41_x16, .int o41_x17, .int o41_x18, .int o41_x19, .int o41_x20, .ref (ρ h0 21), .int o41_x22, .ref (ρ h0 23), .ref (ρ h0 24), .int o41_x25, .ref (ρ h0 26), .ref (ρ h0 27), .int o41_x28, .int o41_x29, .ref (ρ h0 30), .ref (ρ h0 31), .int o41_x32, .long o41_x33, .long o41_x34, .long o41_x35, .int o41_x36, .int o41_x37, .int o41_x38, .ref (ρ h0 39), .ref (ρ h0 40), .ref (ρ h0 41), .ref (ρ h0 42), .ref (ρ h0 43), .ref (ρ h0 44), .ref (ρ h0 45), .ref (ρ h0 46), .int o41_x47, .int o41_x48, .ref (ρ h0 49), .ref (ρ h0 50), .ref (ρ h0 51), .ref (ρ h0 52)])) hD (tp_in hG ht_h0 (by decide)) eq42 (fun f103 H locs hP hD hS g105 k104 => ?_))
                    have hT := hT.up ht_h0 g105 k104 ⟨_, _, _, _, _, _, _, _, _, _, _, _, _, _, _, _, _, _, _, _, _, _, _, _, _, _, _, _, rfl, (by decide), ro41_1, ro41_2, ro41_3, ro41_4, ro41_5, ro41_6, ro41_7, ro41_8, ro41_9, ro41_10, ro41_11, ro41_12, ro41_13⟩
                    have hR := hR.up ht_h0 (by decide) k104
                    have hf_106 : f103 (ρ h0 2) = .inl (κ 0, 12967, .inl g40) := (k104 _ (tp_ne y1 ht_h0 (by decide))).trans hf_o39
                    exact hj53 _ _ _ _ ⟨f103, rfl, hT, hR, (by rw [hf_106, mo_i1]; exact hI), (by rw [hf_106, mo_i1]; omega), (by rw [hf_106, mo_i1]; omega), (by rw [hf_106, mo_i1]; omega), hP, hD, hS, lv_sub hl [1, 2, 3, 4] rfl⟩
                  · have ic102 : z95.toInt ≠ 12 := zi_eqf rfl rfl c102
                    refine lv_iload hx hb dX12_sail_211 (lv_at hl 0 rfl) ?_
                    refine lv_bipush (v := 18) hx hb dX12_sail_213 (by decide) ?_
                    refine lv_icmp_eq (tgt := 219) hx hb dX12_sail_215 (by decide) (fun c107 => ?_) (fun c107 => ?_)
                    · have ic107 : z95.toInt = 18 := zi_eq rfl rfl c107
                      refine lv_aload_n hx hb dX12_sail_219 rfl (lv_at hl 1 rfl) ?_
                      refine lv_iconst (v := 1) hx hb dX12_sail_220 (by decide) ?_
                      refine va_put (D := (dC, dI)) (ci := 12) (v := .int 1) (ty := .boolean) (C := RX12) (T := TX12) (N := 53) hx hb hts hfX12 tyX12 tyX12_ok nmX12 hown hK hP hD hS q42 eq42 rfl 7 (by decide) (hts (.fieldLink RX12 169 "ColdShipsModel" "isTurnTaken" "Z") wa_547) (fun _ h9 => h9) rfl (tyX12_ok 7 (by decide)) rfl rfl (Nat.le_of_ble_eq_true rfl) dX12_sail_221 (tp_k (.inr (12, [.int o41_x0, .int o41_x1, .ref (ρ h0 2), .ref (ρ h0 3), .ref (ρ h0 4), .ref (ρ h0 5), .ref (ρ h0 6), .int 1, .ref (ρ h0 8), .int o41_x9, .int o41_x10, .int o41_x11, .int o41_x12, .long o41_x13, .int o41_x14, .int o41_x15, .int o41_x16, .int o41_x17, .int o41_x18, .int o41_x19, .int o41_x20, .ref (ρ h0 21), .int o41_x22, .ref (ρ h0 23), .ref (ρ h0 24), .int o41_x25, .ref (ρ h0 26), .ref (ρ h0 27), .int o41_x28, .int o41_x29, .ref (ρ h0 30), .ref (ρ h0 31), .int o41_x32, .long o41_x33, .long o41_x34, .long o41_x35, .int o41_x36, .int o41_x37, .int o41_x38, .ref (ρ h0 39), .ref (ρ h0 40), .ref (ρ h0 41), .ref (ρ h0 42), .ref (ρ h0 43), .ref (ρ h0 44), .ref (ρ h0 45), .ref (ρ h0 46), .int o41_x47, .int o41_x48, .ref (ρ h0 49), .ref (ρ h0 50), .ref (ρ h0 51), .ref (ρ h0 52)])) hD (tp_in hG ht_h0 (by decide)) eq42 (fun f108 H locs hP hD hS g110 k109 => ?_))
                      have hT := hT.up ht_h0 g110 k109 ⟨_, _, _, _, _, _, _, _, _, _, _, _, _, _, _, _, _, _, _, _, _, _, _, _, _, _, _, _, rfl, (by decide), ro41_1, ro41_2, ro41_3, ro41_4, ro41_5, ro41_6, ro41_7, ro41_8, ro41_9, ro41_10, ro41_11, ro41_12, ro41_13⟩
                      have hR := hR.up ht_h0 (by decide) k109
                      have hf_111 : f108 (ρ h0 2) = .inl (κ 0, 12967, .inl g40) := (k109 _ (tp_ne y1 ht_h0 (by decide))).trans hf_o39
                      exact hj53 _ _ _ _ ⟨f108, rfl, hT, hR, (by rw [hf_111, mo_i1]; exact hI), (by rw [hf_111, mo_i1]; omega), (by rw [hf_111, mo_i1]; omega), (by rw [hf_111, mo_i1]; omega), hP, hD, hS, lv_sub hl [1, 2, 3, 4] rfl⟩
                    · have ic107 : z95.toInt ≠ 18 := zi_eqf rfl rfl c107
                      exact W.vret hx hb hr (fun t ht hW => ⟨⟨f34, rfl, ⟨hT, hR, ⟨(by rw [hf_o39, mo_i1]; exact hI), (by first | (simp only [hf_o39, hf_o26, mo_i1]; omega) | (simp only [hf_o39, hf_o26, mo_i1]; trivial) | (simp only [hf_o39, hf_o26, mo_i1]; done) | omega)⟩⟩, by rw [ht]; exact hP, va_K.moved hW.alike hK, hD⟩, hS.F ht⟩) hS.2.2 dX12_sail_218
      · refine lv_icmp_le (tgt := 151) hx hb dX12_sail_140 (by decide) (fun c112 => ?_) (fun c112 => ?_)
        · have ic112 : z49.toInt ≤ 6 := zi_le rfl rfl c112
          exact hj50 _ _ _ _ ⟨rfl, hP, hD, hS, lv_sub hl [0, 1, 2, 3] rfl⟩
        · have ic112 : z49.toInt > 6 := zi_lef rfl rfl c112
          refine lv_iload_n hx hb dX12_sail_143 rfl (lv_at hl 2 rfl) ?_
          refine lv_iconst (v := 2) hx hb dX12_sail_144 (by decide) ?_
          refine lv_irem hx hb dX12_sail_145 (by decide) ?_
          refine lv_topi (fun z113 ez113 => ?_)
          have iz113 : z113.toInt = u.toInt % 2 := zi_rem ez113 rfl (show (2 : Int32).toInt = 2 from rfl) (by omega) (by omega)
          refine lv_iconst (v := 1) hx hb dX12_sail_146 (by decide) ?_
          refine lv_icmp_ne (tgt := 151) hx hb dX12_sail_147 (by decide) (fun c114 => ?_) (fun c114 => ?_)
          · have ic114 : z113.toInt ≠ 1 := zi_ne rfl rfl c114
            replace ic114 : z113.toInt ≤ 0 := by omega
            exact hj50 _ _ _ _ ⟨rfl, hP, hD, hS, lv_sub hl [0, 1, 2, 3] rfl⟩
          · have ic114 : z113.toInt = 1 := zi_nef rfl rfl c114
            exact W.vret hx hb hr (fun t ht hW => ⟨⟨f34, rfl, ⟨hT, hR, ⟨(by rw [hf_o39, mo_i1]; exact hI), (by first | (simp only [hf_o39, hf_o26, mo_i1]; omega) | (simp only [hf_o39, hf_o26, mo_i1]; trivial) | (simp only [hf_o39, hf_o26, mo_i1]; done) | omega)⟩⟩, by rw [ht]; exact hP, va_K.moved hW.alike hK, hD⟩, hS.F ht⟩) hS.2.2 dX12_sail_150
  · refine lv_if_ne (tgt := 112) hx hb dX12_sail_8 (by decide) (fun c115 => ?_) (fun c115 => ?_)
    · have ic115 : z32.toInt ≠ 0 := zi_ne rfl rfl c115
      exact hj33 _ _ _ _ ⟨f, rfl, hT, hR, (by rw [hf_o26, mo_i1]; exact hI), (by rw [hf_o26, mo_i1]; omega), (by rw [hf_o26, mo_i1]; omega), (by rw [hf_o26, mo_i1]; omega), hP, hD, hS, lv_sub hl [0, 1, 2, 3] rfl⟩
    · have ic115 : z32.toInt = 0 := zi_nef rfl rfl c115
      refine lv_aload_n hx hb dX12_sail_11 rfl (lv_at hl 0 rfl) ?_
      refine va_get (D := (dC, dI)) (ci := 12) (v := .ref (ρ h0 2)) (C := RX12) (T := TX12) (N := 53) hx hb hts hfX12 hown hK hP q29 eq29 rfl 2 (by decide) (hts (.fieldLink RX12 7 "ColdShipsModel" "row" "[I") wa_148) (fun _ h9 => h9) rfl dX12_sail_12 ?_
      refine lv_iload_n hx hb dX12_sail_15 rfl (lv_at hl 1 rfl) ?_
      refine lv_iconst (v := 0) hx hb dX12_sail_16 (by decide) ?_
      refine lv_iadd hx hb dX12_sail_17 ?_
      refine lv_topi (fun z116 ez116 => ?_)
      have iz116 : z116.toInt = us.toInt + 0 := zi_add ez116 rfl rfl (by omega) (by omega)
      refine va_iald hx hb hK hP q31 0 eq31 rfl (vp_in_iff.mpr ⟨by omega, by omega⟩) dX12_sail_18 ?_
      refine lv_topi (fun z117 ez117 => ?_)
      have jz117 : z117.toInt = mo_R g27 (547 + 84 * qs + 0) := mo_rd ez117 (by omega)
      have kz117 := hI.SA (s := qs) (by omega) (by omega)
      refine lv_iload_n hx hb dX12_sail_19 rfl (lv_at hl 3 rfl) ?_
      refine lv_icmp_ne (tgt := 29) hx hb dX12_sail_20 (by decide) (fun c118 => ?_) (fun c118 => ?_)
      · have ic118 : z117.toInt ≠ a.toInt := zi_ne rfl rfl c118
        refine lv_aload_n hx hb dX12_sail_29 rfl (lv_at hl 0 rfl) ?_
        refine lv_aload_n hx hb dX12_sail_30 rfl (lv_at hl 0 rfl) ?_
        refine va_get (D := (dC, dI)) (ci := 12) (v := .ref (ρ h0 2)) (C := RX12) (T := TX12) (N := 53) hx hb hts hfX12 hown hK hP q29 eq29 rfl 2 (by decide) (hts (.fieldLink RX12 7 "ColdShipsModel" "row" "[I") wa_148) (fun _ h9 => h9) rfl dX12_sail_31 ?_
        refine lv_iload_n hx hb dX12_sail_34 rfl (lv_at hl 1 rfl) ?_
        refine lv_iconst (v := 0) hx hb dX12_sail_35 (by decide) ?_
        refine lv_iadd hx hb dX12_sail_36 ?_
        refine lv_topi (fun z119 ez119 => ?_)
        have iz119 : z119.toInt = us.toInt + 0 := zi_add ez119 rfl rfl (by omega) (by omega)
        refine va_iald hx hb hK hP q31 0 eq31 rfl (vp_in_iff.mpr ⟨by omega, by omega⟩) dX12_sail_37 ?_
        refine lv_topi (fun z120 ez120 => ?_)
        have jz120 : z120.toInt = mo_R g27 (547 + 84 * qs + 0) := mo_rd ez120 (by omega)
        have kz120 := hI.SA (s := qs) (by omega) (by omega)
        have vz120 : z120.toInt = z117.toInt := jz120.trans (jz117).symm
        refine lv_iload_n hx hb dX12_sail_38 rfl (lv_at hl 3 rfl) ?_
        refine pz_calli (va_runV (As := [.int z120, .int a]) (rest := []) ⟨hx, hb, hml, hown, hts⟩ (t_X12_wayOf l dC dI _ κ τ ν ρ L f hG hT h0 z120 a x b ht_h0 (by first | decide | omega) (by first | decide | omega) (by omega) (by rw [hf_o26, mo_i1]; exact hI)) (cwV 2 hts gX12_sail_X12_wayOf rfl rfl rfl ⟨rfl, pd_X12_wayOf⟩ ⟨Nat.le_of_ble_eq_true rfl, Nat.le_of_ble_eq_true rfl⟩) ⟨pz_blind, va_recv hK hP (ci := 12) (q0 := q29) rfl eq29, pz_pre hP hK hD hN⟩ rfl rfl hl.1 rfl (lv_room (Nat.le_of_ble_eq_true rfl)) dX12_sail_39 ⟨Nat.le_of_ble_eq_true rfl, Nat.le_of_ble_eq_true rfl⟩) (fun r121 hw122 => ?_)
        obtain ⟨hw122r, hw122p⟩ := hw122
        refine lv_istore (lv' := [(4, .int r121), (0, .ref h0), (1, .int us), (2, .int u), (3, .int a)]) hx hb dX12_sail_42 hl (by decide) rfl (fun ls hl => ?_)
        refine lv_iload hx hb dX12_sail_44 (lv_at hl 0 rfl) ?_
        refine lv_if_ne (tgt := 50) hx hb dX12_sail_46 (by decide) (fun c123 => ?_) (fun c123 => ?_)
        · have ic123 : r121.toInt ≠ 0 := zi_ne rfl rfl c123
          refine lv_aload_n hx hb dX12_sail_50 rfl (lv_at hl 1 rfl) ?_
          refine va_get (D := (dC, dI)) (ci := 12) (v := .ref (ρ h0 2)) (C := RX12) (T := TX12) (N := 53) hx hb hts hfX12 hown hK hP q29 eq29 rfl 2 (by decide) (hts (.fieldLink RX12 7 "ColdShipsModel" "row" "[I") wa_148) (fun _ h9 => h9) rfl dX12_sail_51 ?_
          refine lv_iload_n hx hb dX12_sail_54 rfl (lv_at hl 2 rfl) ?_
          refine lv_iconst (v := 3) hx hb dX12_sail_55 (by decide) ?_
          refine lv_iadd hx hb dX12_sail_56 ?_
          refine lv_topi (fun z124 ez124 => ?_)
          have iz124 : z124.toInt = us.toInt + 3 := zi_add ez124 rfl rfl (by omega) (by omega)
          refine lv_aload_n hx hb dX12_sail_57 rfl (lv_at hl 1 rfl) ?_
          refine va_get (D := (dC, dI)) (ci := 12) (v := .ref (ρ h0 2)) (C := RX12) (T := TX12) (N := 53) hx hb hts hfX12 hown hK hP q29 eq29 rfl 2 (by decide) (hts (.fieldLink RX12 7 "ColdShipsModel" "row" "[I") wa_148) (fun _ h9 => h9) rfl dX12_sail_58 ?_
          refine lv_bipush (v := 50) hx hb dX12_sail_61 (by decide) ?_
          refine lv_iconst (v := 2) hx hb dX12_sail_63 (by decide) ?_
          refine lv_bipush (v := 6) hx hb dX12_sail_64 (by decide) ?_
          refine lv_aload_n hx hb dX12_sail_66 rfl (lv_at hl 1 rfl) ?_
          refine va_get (D := (dC, dI)) (ci := 12) (v := .ref (ρ h0 2)) (C := RX12) (T := TX12) (N := 53) hx hb hts hfX12 hown hK hP q29 eq29 rfl 2 (by decide) (hts (.fieldLink RX12 7 "ColdShipsModel" "row" "[I") wa_148) (fun _ h9 => h9) rfl dX12_sail_67 ?_
          refine lv_iload_n hx hb dX12_sail_70 rfl (lv_at hl 2 rfl) ?_
          refine lv_iconst (v := 0) hx hb dX12_sail_71 (by decide) ?_
          refine lv_iadd hx hb dX12_sail_72 ?_
          refine lv_topi (fun z125 ez125 => ?_)
          have iz125 : z125.toInt = us.toInt + 0 := zi_add ez125 rfl rfl (by omega) (by omega)
          refine va_iald hx hb hK hP q31 0 eq31 rfl (vp_in_iff.mpr ⟨by omega, by omega⟩) dX12_sail_73 ?_
          refine lv_topi (fun z126 ez126 => ?_)
          have jz126 : z126.toInt = mo_R g27 (547 + 84 * qs + 0) := mo_rd ez126 (by omega)
          have kz126 := hI.SA (s := qs) (by omega) (by omega)
          have vz126 : z126.toInt = z117.toInt := jz126.trans (jz117).symm
          refine lv_imul hx hb dX12_sail_74 ?_
          refine lv_topi (fun z127 ez127 => ?_)
          have iz127 : z127.toInt = 6 * z126.toInt := zi_mul ez127 rfl rfl (by omega) (by omega)
          refine lv_iload_n hx hb dX12_sail_75 rfl (lv_at hl 4 rfl) ?_
          refine lv_iadd hx hb dX12_sail_76 ?_
          refine lv_topi (fun z128 ez128 => ?_)
          have iz128 : z128.toInt = z127.toInt + a.toInt := zi_add ez128 rfl rfl (by omega) (by omega)
          refine lv_imul hx hb dX12_sail_77 ?_
          refine lv_topi (fun z129 ez129 => ?_)
          have iz129 : z129.toInt = 2 * z128.toInt := zi_mul ez129 rfl rfl (by omega) (by omega)
          refine lv_iadd hx hb dX12_sail_78 ?_
          refine lv_topi (fun z130 ez130 => ?_)
          have iz130 : z130.toInt = 50 + z129.toInt := zi_add ez130 rfl rfl (by omega) (by omega)
          refine lv_iconst (v := 1) hx hb dX12_sail_79 (by decide) ?_
          refine lv_iadd hx hb dX12_sail_80 ?_
          refine lv_topi (fun z131 ez131 => ?_)
          have iz131 : z131.toInt = z130.toInt + 1 := zi_add ez131 rfl rfl (by omega) (by omega)
          refine va_iald hx hb hK hP q31 0 eq31 rfl (vp_in_iff.mpr ⟨by omega, by omega⟩) dX12_sail_81 ?_
          refine lv_topi (fun z132 ez132 => ?_)
          refine va_iast hx hb hK hP hD hS q31 0 eq31 rfl (vp_in_iff.mpr ⟨by omega, by omega⟩) dX12_sail_82 (tp_k (.inl (κ 0, 12967, .inl (upd g27 z124.toNatClampNeg z132))) hD (tp_in hG y1 (by decide)) eq31 (fun f133 H locs hP hD hS g135 k134 => ?_))
          have hT := hT.up y1 g135 k134 tp_o32
          have hR := hR.up y1 (by decide) k134
          have hU : mo_U (mo_R g27) (mo_R (upd g27 z124.toNatClampNeg z132)) (547 + 84 * qs + 3) (z132.toInt) := mo_up (by omega) (rfl : z132.toInt = _) (by omega)
          generalize (upd g27 z124.toNatClampNeg z132) = g136 at g135 hU
          have hI := mo_w_sfree hI hU qs 3 (by omega) (by omega) (by omega)
          have pn137 : mo_R g136 (1) = n1 := (hU.ne (by omega) (by omega)).trans en1.symm
          have pn138 : mo_R g136 (11) = n11 := (hU.ne (by omega) (by omega)).trans en11.symm
          have pn139 : mo_R g136 (547 + 84 * qs + 10) = ns10 := (hU.ne (by omega) (by omega)).trans ens10.symm
          refine lv_aload_n hx hb dX12_sail_83 rfl (lv_at hl 1 rfl) ?_
          have hf_140 : f133 h0 = .inr (12, [.int o28_x0, .int o28_x1, .ref (ρ h0 2), .ref (ρ h0 3), .ref (ρ h0 4), .ref (ρ h0 5), .ref (ρ h0 6), .int o28_x7, .ref (ρ h0 8), .int o28_x9, .int o28_x10, .int o28_x11, .int o28_x12, .long o28_x13, .int o28_x14, .int o28_x15, .int o28_x16, .int o28_x17, .int o28_x18, .int o28_x19, .int o28_x20, .ref (ρ h0 21), .int o28_x22, .ref (ρ h0 23), .ref (ρ h0 24), .int o28_x25, .ref (ρ h0 26), .ref (ρ h0 27), .int o28_x28, .int o28_x29, .ref (ρ h0 30), .ref (ρ h0 31), .int o28_x32, .long o28_x33, .long o28_x34, .long o28_x35, .int o28_x36, .int o28_x37, .int o28_x38, .ref (ρ h0 39), .ref (ρ h0 40), .ref (ρ h0 41), .ref (ρ h0 42), .ref (ρ h0 43), .ref (ρ h0 44), .ref (ρ h0 45), .ref (ρ h0 46), .int o28_x47, .int o28_x48, .ref (ρ h0 49), .ref (ρ h0 50), .ref (ρ h0 51), .ref (ρ h0 52)]) := (k134 _ (tp_ne ht_h0 y1 (by decide))).trans hf_o28
          refine tpk_pos (tp_in hG ht_h0 (by decide)) hf_140 (fun q141 eq141 => ?_)
          refine va_get (D := (dC, dI)) (ci := 12) (v := .ref (ρ h0 2)) (C := RX12) (T := TX12) (N := 53) hx hb hts hfX12 hown hK hP q141 eq141 rfl 2 (by decide) (hts (.fieldLink RX12 7 "ColdShipsModel" "row" "[I") wa_148) (fun _ h9 => h9) rfl dX12_sail_84 ?_
          refine lv_iload_n hx hb dX12_sail_87 rfl (lv_at hl 2 rfl) ?_
          refine lv_iconst (v := 1) hx hb dX12_sail_88 (by decide) ?_
          refine lv_iadd hx hb dX12_sail_89 ?_
          refine lv_topi (fun z142 ez142 => ?_)
          have iz142 : z142.toInt = us.toInt + 1 := zi_add ez142 rfl rfl (by omega) (by omega)
          refine lv_iload hx hb dX12_sail_90 (lv_at hl 0 rfl) ?_
          refine tpk_pos (tp_in hG y1 (by decide)) g135 (fun q143 eq143 => ?_)
          refine va_iast hx hb hK hP hD hS q143 0 eq143 rfl (vp_in_iff.mpr ⟨by omega, by omega⟩) dX12_sail_92 (tp_k (.inl (κ 0, 12967, .inl (upd g136 z142.toNatClampNeg r121))) hD (tp_in hG y1 (by decide)) eq143 (fun f144 H locs hP hD hS g146 k145 => ?_))
          have hT := hT.up y1 g146 k145 tp_o32
          have hR := hR.up y1 (by decide) k145
          have hU : mo_U (mo_R g136) (mo_R (upd g136 z142.toNatClampNeg r121)) (547 + 84 * qs + 1) (r121.toInt) := mo_up (by omega) (rfl : r121.toInt = _) (by omega)
          generalize (upd g136 z142.toNatClampNeg r121) = g147 at g146 hU
          have hI := mo_w_sfree hI hU qs 1 (by omega) (by omega) (by omega)
          have pn148 : mo_R g147 (1) = n1 := (hU.ne (by omega) (by omega)).trans pn137
          have pn149 : mo_R g147 (11) = n11 := (hU.ne (by omega) (by omega)).trans pn138
          have pn150 : mo_R g147 (547 + 84 * qs + 10) = ns10 := (hU.ne (by omega) (by omega)).trans pn139
          clear pn137 pn138 pn139
          refine lv_aload_n hx hb dX12_sail_93 rfl (lv_at hl 1 rfl) ?_
          have hf_151 : f144 h0 = .inr (12, [.int o28_x0, .int o28_x1, .ref (ρ h0 2), .ref (ρ h0 3), .ref (ρ h0 4), .ref (ρ h0 5), .ref (ρ h0 6), .int o28_x7, .ref (ρ h0 8), .int o28_x9, .int o28_x10, .int o28_x11, .int o28_x12, .long o28_x13, .int o28_x14, .int o28_x15, .int o28_x16, .int o28_x17, .int o28_x18, .int o28_x19, .int o28_x20, .ref (ρ h0 21), .int o28_x22, .ref (ρ h0 23), .ref (ρ h0 24), .int o28_x25, .ref (ρ h0 26), .ref (ρ h0 27), .int o28_x28, .int o28_x29, .ref (ρ h0 30), .ref (ρ h0 31), .int o28_x32, .long o28_x33, .long o28_x34, .long o28_x35, .int o28_x36, .int o28_x37, .int o28_x38, .ref (ρ h0 39), .ref (ρ h0 40), .ref (ρ h0 41), .ref (ρ h0 42), .ref (ρ h0 43), .ref (ρ h0 44), .ref (ρ h0 45), .ref (ρ h0 46), .int o28_x47, .int o28_x48, .ref (ρ h0 49), .ref (ρ h0 50), .ref (ρ h0 51), .ref (ρ h0 52)]) := (k145 _ (tp_ne ht_h0 y1 (by decide))).trans hf_140
          refine tpk_pos (tp_in hG ht_h0 (by decide)) hf_151 (fun q152 eq152 => ?_)
          refine va_get (D := (dC, dI)) (ci := 12) (v := .ref (ρ h0 2)) (C := RX12) (T := TX12) (N := 53) hx hb hts hfX12 hown hK hP q152 eq152 rfl 2 (by decide) (hts (.fieldLink RX12 7 "ColdShipsModel" "row" "[I") wa_148) (fun _ h9 => h9) rfl dX12_sail_94 ?_
          refine lv_iload_n hx hb dX12_sail_97 rfl (lv_at hl 2 rfl) ?_
          refine lv_iconst (v := 2) hx hb dX12_sail_98 (by decide) ?_
          refine lv_iadd hx hb dX12_sail_99 ?_
          refine lv_topi (fun z153 ez153 => ?_)
          have iz153 : z153.toInt = us.toInt + 2 := zi_add ez153 rfl rfl (by omega) (by omega)
          refine lv_iload hx hb dX12_sail_100 (lv_at hl 0 rfl) ?_
          refine tpk_pos (tp_in hG y1 (by decide)) g146 (fun q154 eq154 => ?_)
          refine va_iast hx hb hK hP hD hS q154 0 eq154 rfl (vp_in_iff.mpr ⟨by omega, by omega⟩) dX12_sail_102 (tp_k (.inl (κ 0, 12967, .inl (upd g147 z153.toNatClampNeg r121))) hD (tp_in hG y1 (by decide)) eq154 (fun f155 H locs hP hD hS g157 k156 => ?_))
          have hT := hT.up y1 g157 k156 tp_o32
          have hR := hR.up y1 (by decide) k156
          have hU : mo_U (mo_R g147) (mo_R (upd g147 z153.toNatClampNeg r121)) (547 + 84 * qs + 2) (r121.toInt) := mo_up (by omega) (rfl : r121.toInt = _) (by omega)
          generalize (upd g147 z153.toNatClampNeg r121) = g158 at g157 hU
          have hI := mo_w_sfree hI hU qs 2 (by omega) (by omega) (by omega)
          have pn159 : mo_R g158 (1) = n1 := (hU.ne (by omega) (by omega)).trans pn148
          have pn160 : mo_R g158 (11) = n11 := (hU.ne (by omega) (by omega)).trans pn149
          have pn161 : mo_R g158 (547 + 84 * qs + 10) = ns10 := (hU.ne (by omega) (by omega)).trans pn150
          clear pn148 pn149 pn150
          refine lv_aload_n hx hb dX12_sail_103 rfl (lv_at hl 1 rfl) ?_
          have hf_162 : f155 h0 = .inr (12, [.int o28_x0, .int o28_x1, .ref (ρ h0 2), .ref (ρ h0 3), .ref (ρ h0 4), .ref (ρ h0 5), .ref (ρ h0 6), .int o28_x7, .ref (ρ h0 8), .int o28_x9, .int o28_x10, .int o28_x11, .int o28_x12, .long o28_x13, .int o28_x14, .int o28_x15, .int o28_x16, .int o28_x17, .int o28_x18, .int o28_x19, .int o28_x20, .ref (ρ h0 21), .int o28_x22, .ref (ρ h0 23), .ref (ρ h0 24), .int o28_x25, .ref (ρ h0 26), .ref (ρ h0 27), .int o28_x28, .int o28_x29, .ref (ρ h0 30), .ref (ρ h0 31), .int o28_x32, .long o28_x33, .long o28_x34, .long o28_x35, .int o28_x36, .int o28_x37, .int o28_x38, .ref (ρ h0 39), .ref (ρ h0 40), .ref (ρ h0 41), .ref (ρ h0 42), .ref (ρ h0 43), .ref (ρ h0 44), .ref (ρ h0 45), .ref (ρ h0 46), .int o28_x47, .int o28_x48, .ref (ρ h0 49), .ref (ρ h0 50), .ref (ρ h0 51), .ref (ρ h0 52)]) := (k156 _ (tp_ne ht_h0 y1 (by decide))).trans hf_151
          refine tpk_pos (tp_in hG ht_h0 (by decide)) hf_162 (fun q163 eq163 => ?_)
          refine va_get (D := (dC, dI)) (ci := 12) (v := .ref (ρ h0 2)) (C := RX12) (T := TX12) (N := 53) hx hb hts hfX12 hown hK hP q163 eq163 rfl 2 (by decide) (hts (.fieldLink RX12 7 "ColdShipsModel" "row" "[I") wa_148) (fun _ h9 => h9) rfl dX12_sail_104 ?_
          refine lv_iload_n hx hb dX12_sail_107 rfl (lv_at hl 2 rfl) ?_
          refine lv_iconst (v := 0) hx hb dX12_sail_108 (by decide) ?_
          refine lv_iadd hx hb dX12_sail_109 ?_
          refine lv_topi (fun z164 ez164 => ?_)
          have iz164 : z164.toInt = us.toInt + 0 := zi_add ez164 rfl rfl (by omega) (by omega)
          refine lv_iload_n hx hb dX12_sail_110 rfl (lv_at hl 4 rfl) ?_
          refine tpk_pos (tp_in hG y1 (by decide)) g157 (fun q165 eq165 => ?_)
          refine va_iast hx hb hK hP hD hS q165 0 eq165 rfl (vp_in_iff.mpr ⟨by omega, by omega⟩) dX12_sail_111 (tp_k (.inl (κ 0, 12967, .inl (upd g158 z164.toNatClampNeg a))) hD (tp_in hG y1 (by decide)) eq165 (fun f166 H locs hP hD hS g168 k167 => ?_))
          have hT := hT.up y1 g168 k167 tp_o32
          have hR := hR.up y1 (by decide) k167
          have hU : mo_U (mo_R g158) (mo_R (upd g158 z164.toNatClampNeg a)) (547 + 84 * qs + 0) (a.toInt) := mo_up (by omega) (rfl : a.toInt = _) (by omega)
          generalize (upd g158 z164.toNatClampNeg a) = g169 at g168 hU
          have hI := mo_w_AT hI hU qs (by omega) (by omega) (by omega)
          have pn170 : mo_R g169 (1) = n1 := (hU.ne (by omega) (by omega)).trans pn159
          have pn171 : mo_R g169 (11) = n11 := (hU.ne (by omega) (by omega)).trans pn160
          have pn172 : mo_R g169 (547 + 84 * qs + 10) = ns10 := (hU.ne (by omega) (by omega)).trans pn161
          clear pn159 pn160 pn161
          exact hj33 _ _ _ _ ⟨f166, rfl, hT, hR, (by rw [g168, mo_i1]; exact hI), (by rw [g168, mo_i1]; omega), (by rw [g168, mo_i1]; omega), (by rw [g168, mo_i1]; omega), hP, hD, hS, lv_sub hl [1, 2, 3, 4] rfl⟩
        · have ic123 : r121.toInt = 0 := zi_nef rfl rfl c123
          exact W.vret hx hb hr (fun t ht hW => ⟨⟨f, rfl, ⟨hT, hR, ⟨(by rw [hf_o26, mo_i1]; exact hI), (by first | (simp only [hf_o26, mo_i1]; omega) | (simp only [hf_o26, mo_i1]; trivial) | (simp only [hf_o26, mo_i1]; done) | omega)⟩⟩, by rw [ht]; exact hP, va_K.moved hW.alike hK, hD⟩, hS.F ht⟩) hS.2.2 dX12_sail_49
      · have ic118 : z117.toInt = a.toInt := zi_nef rfl rfl c118
        refine lv_aload_n hx hb dX12_sail_23 rfl (lv_at hl 0 rfl) ?_
        refine lv_iload_n hx hb dX12_sail_24 rfl (lv_at hl 1 rfl) ?_
        have hFc := tp_fr hD hS hA
        refine va_callv (va_runV (As := [.int us]) (rest := []) ⟨hx, hb, hml, hown, hts⟩ (t_X12_endOrder l dC dI _ κ τ ν ρ L f hG hT h0 us x b qs ht_h0 (by omega) (by omega) (by omega) (by rw [hf_o26, mo_i1]; exact hI) (by first | (simp only [hf_o26, mo_i1]; omega) | (simp only [hf_o26, mo_i1]; trivial) | (simp only [hf_o26, mo_i1]; done) | omega) (by first | (simp only [hf_o26, mo_i1]; omega) | (simp only [hf_o26, mo_i1]; trivial) | (simp only [hf_o26, mo_i1]; done) | omega)) (cwV 1 hts gX12_sail_X12_endOrder rfl rfl rfl ⟨rfl, pd_X12_endOrder⟩ ⟨Nat.le_of_ble_eq_true rfl, Nat.le_of_ble_eq_true rfl⟩) ⟨pz_blind, va_recv hK hP (ci := 12) (q0 := q29) rfl eq29, pz_pre hP hK hD hN⟩ rfl rfl hl.1 rfl (lv_room (Nat.le_of_ble_eq_true rfl)) dX12_sail_25 ⟨Nat.le_of_ble_eq_true rfl, Nat.le_of_ble_eq_true rfl⟩) hS (fun q _ h => hFc q h) hFc (fun f175 t H1 locs ht hvm hw174 hB hz1 hk1 hS => ?_)
        refine tn_3 hw174 (fun hT hF176 hw174p => ?_); clear hw174
        have hR := hR.then hF176 (by decide)
        have hP := hB.1; rw [ht] at hP; have hD := tp_ad f175 hD; clear hB hFc hz1 hk1; subst ht; generalize t.heap = H at hP hS ⊢
        obtain ⟨hJ, hw174pe⟩ := hw174p
        refine tpk_32 hT y1 (fun g178 hf_o177 => ?_)
        have hI : mo_RI x b (mo_R g178) := by have q9 := hJ; rw [hf_o177, mo_i1] at q9; exact q9
        rw [hf_o26, mo_i1] at hw174pe
        rw [hf_o177, mo_i1] at hw174pe
        have pn179 : mo_R g178 (1) = n1 := (hw174pe.1).trans en1.symm
        have pn180 : mo_R g178 (11) = n11 := (hw174pe.2).trans en11.symm
        exact W.vret hx hb hr (fun t ht hW => ⟨⟨f175, rfl, ⟨hT, hR, ⟨(by rw [hf_o177, mo_i1]; exact hI), (by first | (simp only [hf_o177, hf_o26, mo_i1]; omega) | (simp only [hf_o177, hf_o26, mo_i1]; trivial) | (simp only [hf_o177, hf_o26, mo_i1]; done) | omega)⟩⟩, by rw [ht]; exact hP, va_K.moved hW.alike hK, hD⟩, hS.F ht⟩) hS.2.2 dX12_sail_28

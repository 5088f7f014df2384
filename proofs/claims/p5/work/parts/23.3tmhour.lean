set_option maxHeartbeats 4000000 in
set_option maxRecDepth 100000 in
theorem t_X12_endLanding (l : Launch) (dC : Nat → ClassId) (dI : Nat → Nat → Nat) (sz : Nat) (κ : Nat → ClassId) (τ ν : Nat → Nat) (ρ : Nat → Nat → Nat) (L : List Nat) (f : Nat → va_E) (hG : tp_G τ ν ρ L) (hT : tp_T (mo_O κ) κ τ ν ρ f) (h0 : Nat) (v : Int32) (us : Int32) (x : Int) (b : Int) (qs : Int) (ht_h0 : τ h0 = 13) (hL_us : us.toInt = 547 + 84 * qs) (hq_us : 0 ≤ qs ∧ qs ≤ 5) (hbb : 0 ≤ b ∧ b ≤ 1000) (hJ : mo_RI x b (mo_R (mo_i (f (ρ h0 2))))) (hvq : v.toInt = qs) (hn1 : qs < (mo_R (mo_i (f (ρ h0 2)))) (1)) : Met l yX12_endLanding wqX12_endLanding ({ frames := 3, cells := 0, slots := 0, locals := 800 }) (va_Pc [.ref h0, .int v, .int us] (pz_B dC dI (tp_K κ) (va_pl L f) sz)) (va_Qv (fun (f1 : Nat → va_E) => tp_T (mo_O κ) κ τ ν ρ f1 ∧ tp_F τ [32] f f1 ∧ mo_RI x b (mo_R (mo_i (f1 (ρ h0 2)))) ∧ (mo_R (mo_i (f1 (ρ h0 2)))) (1) = (mo_R (mo_i (f (ρ h0 2)))) (1) ∧ (mo_R (mo_i (f1 (ρ h0 2)))) (11) = (mo_R (mo_i (f (ρ h0 2)))) (11) ∧ (mo_R (mo_i (f1 (ρ h0 2)))) (547 + 84 * qs + 10) = (mo_R (mo_i (f (ρ h0 2)))) (547 + 84 * qs + 10)) (fun (f1 : Nat → va_E) (t : State) => pz_E dC dI (tp_K κ) (va_A (va_pl L f) sz) (va_pl L f1) t) (va_A (va_pl L f) sz)) 0 0 (va_A (va_pl L f) sz) := by
  refine Met.ofW (cc := cX12_endLanding) (maxL := 5) (ret := none) (by decide) rfl ?_
  intro p e s m args below meth c s₁ B hml hv
  obtain ⟨rfl, hsz, hP, hK, hD0, hN⟩ := hv
  have hx := B.exec
  have hb := B.bytes
  have hr := B.returns
  have hts := fun (w : Cond) (h : w ∈ WALL) => atoms_spec (ws := wqX12_endLanding) B.pre w (List.mem_cons_of_mem _ h)
  have hown : s.vm.findClass RX12 = some m.cls := findClass_of_methodNamed B.named
  have hlocks := B.notSynchronized
  subst hsz
  have hD := hD0.self (sz := s.heap.size)
  generalize hAe : va_A (va_pl L f) s.heap.size = A at hD ⊢
  have hA : ∀ q : Nat, s.heap.size ≤ q → A q := fun q h => by rw [← hAe]; exact Or.inr h
  have hS : va_S A s.heap s.heap [] := va_S.rf
  have hR : tp_F τ [32] f f := tp_F.rf
  have hl := lv_entry ([.ref h0, .int v, .int us]) (n := 5) (Nat.le_of_ble_eq_true rfl)
  rw [lg_entry_eq]
  generalize (lg_sl ([.ref h0, .int v, .int us]) ++ List.replicate (5 - (lg_sl ([.ref h0, .int v, .int us])).length) Slot.unset).toArray = ls at hl ⊢
  have hl : lv_has ls 5 [(0, .ref h0), (1, .int v), (2, .int us)] := hl
  refine tgk_13 hG ht_h0 (fun y1 y2 y3 y4 y5 y6 y7 y8 y9 y10 y11 y12 y13 y14 y15 y16 y17 y18 y19 y20 y21 y22 y23 y24 y25 => ?_)
  refine tpk_32 hT y1 (fun g27 hf_o26 => ?_)
  have hI : mo_RI x b (mo_R g27) := by have q9 := hJ; rw [hf_o26, mo_i1] at q9; exact q9
  rw [hf_o26, mo_i1] at hn1
  obtain ⟨n1, en1⟩ : ∃ n : Int, n = mo_R g27 (1) := ⟨_, rfl⟩
  have kn1 := hI.k1
  obtain ⟨n11, en11⟩ : ∃ n : Int, n = mo_R g27 (11) := ⟨_, rfl⟩
  have kn11 := hI.k11
  obtain ⟨ns10, ens10⟩ : ∃ n : Int, n = mo_R g27 (547 + 84 * qs + 10) := ⟨_, rfl⟩
  refine lv_aload_n hx hb dX12_endLanding_0 rfl (lv_at hl 0 rfl) ?_
  refine tpk_13 hT ht_h0 (fun o28_x0 o28_x1 o28_x7 o28_x9 o28_x10 o28_x11 o28_x12 o28_x13 o28_x14 o28_x15 o28_x16 o28_x17 o28_x18 o28_x19 o28_x20 o28_x22 o28_x25 o28_x28 o28_x29 o28_x32 o28_x33 o28_x34 o28_x35 o28_x36 o28_x37 o28_x38 o28_x47 o28_x48 hf_o28 ro28_0 ro28_1 ro28_2 ro28_3 ro28_4 ro28_5 ro28_6 ro28_7 ro28_8 ro28_9 ro28_10 ro28_11 ro28_12 ro28_13 => ?_)
  refine tpk_pos (tp_in hG ht_h0 (by decide)) hf_o28 (fun q29 eq29 => ?_)
  refine va_get (D := (dC, dI)) (ci := 12) (v := .ref (ρ h0 2)) (C := RX12) (T := TX12) (N := 53) hx hb hts hfX12 hown hK hP q29 eq29 rfl 2 (by decide) (hts (.fieldLink RX12 7 "ColdShipsModel" "row" "[I") wa_148) (fun _ h9 => h9) rfl dX12_endLanding_1 ?_
  refine lv_iload_n hx hb dX12_endLanding_4 rfl (lv_at hl 2 rfl) ?_
  refine lv_bipush (v := 22) hx hb dX12_endLanding_5 (by decide) ?_
  refine lv_iadd hx hb dX12_endLanding_7 ?_
  refine lv_topi (fun z30 ez30 => ?_)
  have iz30 : z30.toInt = us.toInt + 22 := zi_add ez30 rfl rfl (by omega) (by omega)
  refine tpk_pos (tp_in hG y1 (by decide)) hf_o26 (fun q31 eq31 => ?_)
  refine va_iald hx hb hK hP q31 0 eq31 rfl (vp_in_iff.mpr ⟨by omega, by omega⟩) dX12_endLanding_8 ?_
  refine lv_topi (fun z32 ez32 => ?_)
  have jz32 : z32.toInt = mo_R g27 (547 + 84 * qs + 22) := mo_rd ez32 (by omega)
  refine tp_join 155 (fun H locs ls stk => ∃ f34 : Nat → va_E, stk = [] ∧ tp_T (mo_O κ) κ τ ν ρ f34 ∧ tp_F τ [32] f f34 ∧ ((mo_RI x b (mo_R (mo_i (f34 (ρ h0 2)))))) ∧ (((mo_R (mo_i (f34 (ρ h0 2)))) (1) = n1)) ∧ (((mo_R (mo_i (f34 (ρ h0 2)))) (11) = n11)) ∧ (((mo_R (mo_i (f34 (ρ h0 2)))) (547 + 84 * qs + 10) = ns10)) ∧ va_P (dC, dI) vwCl (va_pl L f34) H ∧ va_D A (va_pl L f34) ∧ va_S A s.heap H locs ∧ lv_has ls 5 [(0, .ref h0), (1, .int v), (2, .int us)]) ?_ (fun hj33 => ?_)
  · intro H locs ls stk hI
    refine Exists.elim hI (fun f34 hE90 => tn_11 hE90 (fun e90 hT hR hJ jf36 jf37 jf38 hP hD hS hl => ?_))
    clear hE90 hI; subst e90
    refine tpk_32 hT y1 (fun g40 hf_o39 => ?_)
    have hI : mo_RI x b (mo_R g40) := by have q9 := hJ; rw [hf_o39, mo_i1] at q9; exact q9
    rw [hf_o39, mo_i1] at jf36
    rw [hf_o39, mo_i1] at jf37
    rw [hf_o39, mo_i1] at jf38
    refine lv_aload_n hx hb dX12_endLanding_155 rfl (lv_at hl 0 rfl) ?_
    refine tpk_13 hT ht_h0 (fun o41_x0 o41_x1 o41_x7 o41_x9 o41_x10 o41_x11 o41_x12 o41_x13 o41_x14 o41_x15 o41_x16 o41_x17 o41_x18 o41_x19 o41_x20 o41_x22 o41_x25 o41_x28 o41_x29 o41_x32 o41_x33 o41_x34 o41_x35 o41_x36 o41_x37 o41_x38 o41_x47 o41_x48 hf_o41 ro41_0 ro41_1 ro41_2 ro41_3 ro41_4 ro41_5 ro41_6 ro41_7 ro41_8 ro41_9 ro41_10 ro41_11 ro41_12 ro41_13 => ?_)
    refine tpk_pos (tp_in hG ht_h0 (by decide)) hf_o41 (fun q42 eq42 => ?_)
    refine va_get (D := (dC, dI)) (ci := 12) (v := .ref (ρ h0 2)) (C := RX12) (T := TX12) (N := 53) hx hb hts hfX12 hown hK hP q42 eq42 rfl 2 (by decide) (hts (.fieldLink RX12 7 "ColdShipsModel" "row" "[I") wa_148) (fun _ h9 => h9) rfl dX12_endLanding_156 ?_
    refine lv_iload_n hx hb dX12_endLanding_159 rfl (lv_at hl 2 rfl) ?_
    refine lv_bipush (v := 22) hx hb dX12_endLanding_160 (by decide) ?_
    refine lv_iadd hx hb dX12_endLanding_162 ?_
    refine lv_topi (fun z43 ez43 => ?_)
    have iz43 : z43.toInt = us.toInt + 22 := zi_add ez43 rfl rfl (by omega) (by omega)
    refine lv_iconst (v := 0) hx hb dX12_endLanding_163 (by decide) ?_
    refine tpk_pos (tp_in hG y1 (by decide)) hf_o39 (fun q44 eq44 => ?_)
    refine va_iast hx hb hK hP hD hS q44 0 eq44 rfl (vp_in_iff.mpr ⟨by omega, by omega⟩) dX12_endLanding_164 (tp_k (.inl (κ 0, 12967, .inl (upd g40 z43.toNatClampNeg (0 : Int32)))) hD (tp_in hG y1 (by decide)) eq44 (fun f45 H locs hP hD hS g47 k46 => ?_))
    have hT := hT.up y1 g47 k46 tp_o32
    have hR := hR.up y1 (by decide) k46
    have hU : mo_U (mo_R g40) (mo_R (upd g40 z43.toNatClampNeg (0 : Int32))) (547 + 84 * qs + 22) (0) := mo_up (by omega) (show (0 : Int32).toInt = 0 from rfl) (by omega)
    generalize (upd g40 z43.toNatClampNeg (0 : Int32)) = g48 at g47 hU
    have hI := mo_w_sfree hI hU qs 22 (by omega) (by omega) (by omega)
    have pn49 : mo_R g48 (1) = n1 := (hU.ne (by omega) (by omega)).trans jf36
    have pn50 : mo_R g48 (11) = n11 := (hU.ne (by omega) (by omega)).trans jf37
    have pn51 : mo_R g48 (547 + 84 * qs + 10) = ns10 := (hU.ne (by omega) (by omega)).trans jf38
    have pn52 : mo_R g48 (547 + 84 * qs + 22) = 0 := hU.eq (by omega)
    refine lv_iconst (v := 0) hx hb dX12_endLanding_165 (by decide) ?_
    refine lv_istore_n (lv' := [(3, .int 0), (0, .ref h0), (1, .int v), (2, .int us)]) hx hb dX12_endLanding_166 rfl hl (by decide) rfl (fun ls hl => ?_)
    refine pz_loop (fun n0 H locs ls => ∃ f54 : Nat → va_E, ∃ w53 : Int32, n0 = (6 - (w53.toInt)).toNat ∧ tp_T (mo_O κ) κ τ ν ρ f54 ∧ tp_F τ [32] f f54 ∧ ((mo_RI x b (mo_R (mo_i (f54 (ρ h0 2)))))) ∧ (((mo_R (mo_i (f54 (ρ h0 2)))) (1) = n1)) ∧ (((mo_R (mo_i (f54 (ρ h0 2)))) (11) = n11)) ∧ (((mo_R (mo_i (f54 (ρ h0 2)))) (547 + 84 * qs + 10) = ns10)) ∧ (0 ≤ w53.toInt ∧ w53.toInt ≤ 6) ∧ va_P (dC, dI) vwCl (va_pl L f54) H ∧ va_D A (va_pl L f54) ∧ va_S A s.heap H locs ∧ lv_has ls 5 [(3, .int w53), (0, .ref h0), (1, .int v), (2, .int us)]) ?_ _ _ _ _ ⟨f45, 0, rfl, hT, hR, (by rw [g47, mo_i1]; exact hI), (by rw [g47, mo_i1]; have : (0 : Int32).toInt = 0 := rfl; omega), (by rw [g47, mo_i1]; have : (0 : Int32).toInt = 0 := rfl; omega), (by rw [g47, mo_i1]; have : (0 : Int32).toInt = 0 := rfl; omega), (by have : (0 : Int32).toInt = 0 := rfl; omega), hP, hD, hS, lv_sub hl [0, 1, 2, 3] rfl⟩
    intro n0 H locs ls hI ih56
    refine Exists.elim hI (fun f54 hE90 => Exists.elim hE90 (fun w53 hE91 => tn_12 hE91 (fun hn57 hT hR hJ jf58 jf59 jf60 rw53 hP hD hS hl => ?_)))
    clear hE91 hE90 hI
    refine tpk_32 hT y1 (fun g62 hf_o61 => ?_)
    have hI : mo_RI x b (mo_R g62) := by have q9 := hJ; rw [hf_o61, mo_i1] at q9; exact q9
    rw [hf_o61, mo_i1] at jf58
    rw [hf_o61, mo_i1] at jf59
    rw [hf_o61, mo_i1] at jf60
    refine lv_iload_n hx hb dX12_endLanding_167 rfl (lv_at hl 0 rfl) ?_
    refine lv_bipush (v := 6) hx hb dX12_endLanding_168 (by decide) ?_
    refine lv_icmp_ge (tgt := 191) hx hb dX12_endLanding_170 (by decide) (fun c63 => ?_) (fun c63 => ?_)
    · have ic63 : w53.toInt ≥ 6 := zi_ge rfl rfl c63
      exact W.vret hx hb hr (fun t ht hW => ⟨⟨f54, rfl, ⟨hT, hR, ⟨(by rw [hf_o61, mo_i1]; exact hI), (by first | (simp only [hf_o61, hf_o26, mo_i1]; omega) | (simp only [hf_o61, hf_o26, mo_i1]; trivial) | (simp only [hf_o61, hf_o26, mo_i1]; done) | omega)⟩⟩, by rw [ht]; exact hP, va_K.moved hW.alike hK, hD⟩, hS.F ht⟩) hS.2.2 dX12_endLanding_191
    · have ic63 : w53.toInt < 6 := zi_gef rfl rfl c63
      refine lv_aload_n hx hb dX12_endLanding_173 rfl (lv_at hl 1 rfl) ?_
      refine tpk_13 hT ht_h0 (fun o64_x0 o64_x1 o64_x7 o64_x9 o64_x10 o64_x11 o64_x12 o64_x13 o64_x14 o64_x15 o64_x16 o64_x17 o64_x18 o64_x19 o64_x20 o64_x22 o64_x25 o64_x28 o64_x29 o64_x32 o64_x33 o64_x34 o64_x35 o64_x36 o64_x37 o64_x38 o64_x47 o64_x48 hf_o64 ro64_0 ro64_1 ro64_2 ro64_3 ro64_4 ro64_5 ro64_6 ro64_7 ro64_8 ro64_9 ro64_10 ro64_11 ro64_12 ro64_13 => ?_)
      refine tpk_pos (tp_in hG ht_h0 (by decide)) hf_o64 (fun q65 eq65 => ?_)
      refine va_get (D := (dC, dI)) (ci := 12) (v := .ref (ρ h0 2)) (C := RX12) (T := TX12) (N := 53) hx hb hts hfX12 hown hK hP q65 eq65 rfl 2 (by decide) (hts (.fieldLink RX12 7 "ColdShipsModel" "row" "[I") wa_148) (fun _ h9 => h9) rfl dX12_endLanding_174 ?_
      refine lv_iload_n hx hb dX12_endLanding_177 rfl (lv_at hl 3 rfl) ?_
      refine lv_bipush (v := 25) hx hb dX12_endLanding_178 (by decide) ?_
      refine lv_iadd hx hb dX12_endLanding_180 ?_
      refine lv_topi (fun z66 ez66 => ?_)
      have iz66 : z66.toInt = us.toInt + 25 := zi_add ez66 rfl rfl (by omega) (by omega)
      refine lv_iload_n hx hb dX12_endLanding_181 rfl (lv_at hl 0 rfl) ?_
      refine lv_iadd hx hb dX12_endLanding_182 ?_
      refine lv_topi (fun z67 ez67 => ?_)
      have iz67 : z67.toInt = z66.toInt + w53.toInt := zi_add ez67 rfl rfl (by omega) (by omega)
      refine lv_iconst (v := 0) hx hb dX12_endLanding_183 (by decide) ?_
      refine tpk_pos (tp_in hG y1 (by decide)) hf_o61 (fun q68 eq68 => ?_)
      refine va_iast hx hb hK hP hD hS q68 0 eq68 rfl (vp_in_iff.mpr ⟨by omega, by omega⟩) dX12_endLanding_184 (tp_k (.inl (κ 0, 12967, .inl (upd g62 z67.toNatClampNeg (0 : Int32)))) hD (tp_in hG y1 (by decide)) eq68 (fun f69 H locs hP hD hS g71 k70 => ?_))
      have hT := hT.up y1 g71 k70 tp_o32
      have hR := hR.up y1 (by decide) k70
      have hU : mo_U (mo_R g62) (mo_R (upd g62 z67.toNatClampNeg (0 : Int32))) (547 + 84 * qs + 25 + w53.toInt) (0) := mo_up (by omega) (show (0 : Int32).toInt = 0 from rfl) (by omega)
      generalize (upd g62 z67.toNatClampNeg (0 : Int32)) = g72 at g71 hU
      have hI := mo_w_sfree hI hU qs (25 + w53.toInt) (by omega) (by omega) (by omega)
      have pn73 : mo_R g72 (1) = n1 := (hU.ne (by omega) (by omega)).trans jf58
      have pn74 : mo_R g72 (11) = n11 := (hU.ne (by omega) (by omega)).trans jf59
      have pn75 : mo_R g72 (547 + 84 * qs + 10) = ns10 := (hU.ne (by omega) (by omega)).trans jf60
      obtain ⟨z76, ez76⟩ : ∃ y : Int32, y = w53 + 1 := ⟨_, rfl⟩
      refine lv_iinc (v := z76) (lv' := [(3, .int z76), (0, .ref h0), (1, .int v), (2, .int us)]) hx hb dX12_endLanding_185 hl (k := 0) rfl (by rw [ez76]; rfl) (by decide) rfl (fun ls hl => ?_)
      have iz76 : z76.toInt = w53.toInt + 1 := zi_add ez76 rfl rfl (by omega) (by omega)
      refine lv_goto (tgt := 167) hx hb dX12_endLanding_188 (by decide) ?_
      exact ih56 _ _ _ _ (by rw [hn57]; omega) ⟨f69, z76, rfl, hT, hR, (by rw [g71, mo_i1]; exact hI), (by rw [g71, mo_i1]; omega), (by rw [g71, mo_i1]; omega), (by rw [g71, mo_i1]; omega), (by omega), hP, hD, hS, lv_sub hl [0, 1, 2, 3] rfl⟩
  · refine lv_if_le (tgt := 155) hx hb dX12_endLanding_9 (by decide) (fun c77 => ?_) (fun c77 => ?_)
    · have ic77 : z32.toInt ≤ 0 := zi_le rfl rfl c77
      exact hj33 _ _ _ _ ⟨f, rfl, hT, hR, (by rw [hf_o26, mo_i1]; exact hI), (by rw [hf_o26, mo_i1]; omega), (by rw [hf_o26, mo_i1]; omega), (by rw [hf_o26, mo_i1]; omega), hP, hD, hS, lv_sub hl [0, 1, 2] rfl⟩
    · have ic77 : z32.toInt > 0 := zi_lef rfl rfl c77
      refine lv_aload_n hx hb dX12_endLanding_12 rfl (lv_at hl 0 rfl) ?_
      refine va_get (D := (dC, dI)) (ci := 12) (v := .ref (ρ h0 2)) (C := RX12) (T := TX12) (N := 53) hx hb hts hfX12 hown hK hP q29 eq29 rfl 2 (by decide) (hts (.fieldLink RX12 7 "ColdShipsModel" "row" "[I") wa_148) (fun _ h9 => h9) rfl dX12_endLanding_13 ?_
      refine lv_iconst (v := 5) hx hb dX12_endLanding_16 (by decide) ?_
      refine va_iald hx hb hK hP q31 0 eq31 rfl (vp_in_iff.mpr ⟨by decide, by decide⟩) dX12_endLanding_17 ?_
      refine lv_topi (fun z78 ez78 => ?_)
      have jz78 : z78.toInt = mo_R g27 (5) := mo_rd ez78 (show (5 : Int32).toInt = (5) from by decide)
      have kz78 := hI.k5
      refine lv_bipush (v := 60) hx hb dX12_endLanding_18 (by decide) ?_
      refine lv_icmp_ge (tgt := 155) hx hb dX12_endLanding_20 (by decide) (fun c79 => ?_) (fun c79 => ?_)
      · have ic79 : z78.toInt ≥ 60 := zi_ge rfl rfl c79
        exact hj33 _ _ _ _ ⟨f, rfl, hT, hR, (by rw [hf_o26, mo_i1]; exact hI), (by rw [hf_o26, mo_i1]; omega), (by rw [hf_o26, mo_i1]; omega), (by rw [hf_o26, mo_i1]; omega), hP, hD, hS, lv_sub hl [0, 1, 2] rfl⟩
      · have ic79 : z78.toInt < 60 := zi_gef rfl rfl c79
        refine lv_sipush (v := 1051) hx hb dX12_endLanding_23 (by decide) ?_
        refine lv_bipush (v := 16) hx hb dX12_endLanding_26 (by decide) ?_
        refine lv_aload_n hx hb dX12_endLanding_28 rfl (lv_at hl 0 rfl) ?_
        refine va_get (D := (dC, dI)) (ci := 12) (v := .ref (ρ h0 2)) (C := RX12) (T := TX12) (N := 53) hx hb hts hfX12 hown hK hP q29 eq29 rfl 2 (by decide) (hts (.fieldLink RX12 7 "ColdShipsModel" "row" "[I") wa_148) (fun _ h9 => h9) rfl dX12_endLanding_29 ?_
        refine lv_iconst (v := 5) hx hb dX12_endLanding_32 (by decide) ?_
        refine va_iald hx hb hK hP q31 0 eq31 rfl (vp_in_iff.mpr ⟨by decide, by decide⟩) dX12_endLanding_33 ?_
        refine lv_topi (fun z80 ez80 => ?_)
        have jz80 : z80.toInt = mo_R g27 (5) := mo_rd ez80 (show (5 : Int32).toInt = (5) from by decide)
        have kz80 := hI.k5
        have vz80 : z80.toInt = z78.toInt := jz80.trans (jz78).symm
        refine lv_imul hx hb dX12_endLanding_34 ?_
        refine lv_topi (fun z81 ez81 => ?_)
        have iz81 : z81.toInt = 16 * z80.toInt := zi_mul ez81 rfl rfl (by omega) (by omega)
        refine lv_iadd hx hb dX12_endLanding_35 ?_
        refine lv_topi (fun z82 ez82 => ?_)
        have iz82 : z82.toInt = 1051 + z81.toInt := zi_add ez82 rfl rfl (by omega) (by omega)
        refine lv_istore_n (lv' := [(3, .int z82), (0, .ref h0), (1, .int v), (2, .int us)]) hx hb dX12_endLanding_36 rfl hl (by decide) rfl (fun ls hl => ?_)
        refine lv_aload_n hx hb dX12_endLanding_37 rfl (lv_at hl 1 rfl) ?_
        refine lv_iload_n hx hb dX12_endLanding_38 rfl (lv_at hl 0 rfl) ?_
        refine lv_iload_n hx hb dX12_endLanding_39 rfl (lv_at hl 2 rfl) ?_
        refine lv_aload_n hx hb dX12_endLanding_40 rfl (lv_at hl 1 rfl) ?_
        refine va_get (D := (dC, dI)) (ci := 12) (v := .ref (ρ h0 2)) (C := RX12) (T := TX12) (N := 53) hx hb hts hfX12 hown hK hP q29 eq29 rfl 2 (by decide) (hts (.fieldLink RX12 7 "ColdShipsModel" "row" "[I") wa_148) (fun _ h9 => h9) rfl dX12_endLanding_41 ?_
        refine lv_iload_n hx hb dX12_endLanding_44 rfl (lv_at hl 3 rfl) ?_
        refine lv_iconst (v := 0) hx hb dX12_endLanding_45 (by decide) ?_
        refine lv_iadd hx hb dX12_endLanding_46 ?_
        refine lv_topi (fun z83 ez83 => ?_)
        have iz83 : z83.toInt = us.toInt + 0 := zi_add ez83 rfl rfl (by omega) (by omega)
        refine va_iald hx hb hK hP q31 0 eq31 rfl (vp_in_iff.mpr ⟨by omega, by omega⟩) dX12_endLanding_47 ?_
        refine lv_topi (fun z84 ez84 => ?_)
        have jz84 : z84.toInt = mo_R g27 (547 + 84 * qs + 0) := mo_rd ez84 (by omega)
        have kz84 := hI.SA (s := qs) (by omega) (by omega)
        refine lv_aload_n hx hb dX12_endLanding_48 rfl (lv_at hl 1 rfl) ?_
        refine va_get (D := (dC, dI)) (ci := 12) (v := .ref (ρ h0 2)) (C := RX12) (T := TX12) (N := 53) hx hb hts hfX12 hown hK hP q29 eq29 rfl 2 (by decide) (hts (.fieldLink RX12 7 "ColdShipsModel" "row" "[I") wa_148) (fun _ h9 => h9) rfl dX12_endLanding_49 ?_
        refine lv_iload_n hx hb dX12_endLanding_52 rfl (lv_at hl 3 rfl) ?_
        refine lv_bipush (v := 23) hx hb dX12_endLanding_53 (by decide) ?_
        refine lv_iadd hx hb dX12_endLanding_55 ?_
        refine lv_topi (fun z85 ez85 => ?_)
        have iz85 : z85.toInt = us.toInt + 23 := zi_add ez85 rfl rfl (by omega) (by omega)
        refine va_iald hx hb hK hP q31 0 eq31 rfl (vp_in_iff.mpr ⟨by omega, by omega⟩) dX12_endLanding_56 ?_
        refine lv_topi (fun z86 ez86 => ?_)
        refine lv_aload_n hx hb dX12_endLanding_57 rfl (lv_at hl 1 rfl) ?_
        refine va_get (D := (dC, dI)) (ci := 12) (v := .ref (ρ h0 2)) (C := RX12) (T := TX12) (N := 53) hx hb hts hfX12 hown hK hP q29 eq29 rfl 2 (by decide) (hts (.fieldLink RX12 7 "ColdShipsModel" "row" "[I") wa_148) (fun _ h9 => h9) rfl dX12_endLanding_58 ?_
        refine lv_iload_n hx hb dX12_endLanding_61 rfl (lv_at hl 3 rfl) ?_
        refine lv_bipush (v := 24) hx hb dX12_endLanding_62 (by decide) ?_
        refine lv_iadd hx hb dX12_endLanding_64 ?_
        refine lv_topi (fun z87 ez87 => ?_)
        have iz87 : z87.toInt = us.toInt + 24 := zi_add ez87 rfl rfl (by omega) (by omega)
        refine va_iald hx hb hK hP q31 0 eq31 rfl (vp_in_iff.mpr ⟨by omega, by omega⟩) dX12_endLanding_65 ?_
        refine lv_topi (fun z88 ez88 => ?_)
        have jz88 : z88.toInt = mo_R g27 (547 + 84 * qs + 24) := mo_rd ez88 (by omega)
        have kz88 := hI.SL (s := qs) (by omega) (by omega)
        have hFc := tp_fr hD hS hA
        refine va_callv (va_runV (As := [.int z82, .int v, .int z84, .int z86, .int z88]) (rest := []) ⟨hx, hb, hml, hown, hts⟩ (t_X12_addFour l dC dI _ κ τ ν ρ L f hG hT h0 z82 v z84 z86 z88 ht_h0 (by first | decide | omega)) (cwV 5 hts gX12_endLanding_X12_addFour rfl rfl rfl ⟨rfl, pd_X12_addFour⟩ ⟨Nat.le_of_ble_eq_true rfl, Nat.le_of_ble_eq_true rfl⟩) ⟨pz_blind, va_recv hK hP (ci := 12) (q0 := q29) rfl eq29, pz_pre hP hK hD hN⟩ rfl rfl hl.1 rfl (lv_room (Nat.le_of_ble_eq_true rfl)) dX12_endLanding_66 ⟨Nat.le_of_ble_eq_true rfl, Nat.le_of_ble_eq_true rfl⟩) hS (fun q _ h => hFc q h) hFc (fun f91 t H1 locs ht hvm hw90 hB hz1 hk1 hS => ?_)
        refine tn_3 hw90 (fun hT hF92 hw90p => ?_); clear hw90
        have hR := hR.then hF92 (by decide)
        have hP := hB.1; rw [ht] at hP; have hD := tp_ad f91 hD; clear hB hFc hz1 hk1; subst ht; generalize t.heap = H at hP hS ⊢
        rw [hf_o26, mo_i1] at hw90p
        obtain ⟨Q1_92, Q2_92, Q3_92, u1_92, u2_92, u3_92, u4_92⟩ := hw90p
        refine tpk_32 hT y1 (fun g94 hf_o93 => ?_)
        rw [hf_o93, mo_i1] at u4_92
        have hU : mo_U (mo_R g27) (Q1_92) (1051 + 16 * z78.toInt + 0) (v.toInt) := by have q9 := u1_92; rw [show z82.toInt = (1051 + 16 * z78.toInt + 0) by omega] at q9; exact q9
        have hI := mo_w_land hI hU z78.toInt (0) (by omega) (by omega) (by omega)
        have pn95 : Q1_92 (1) = n1 := (hU.ne (by omega) (by omega)).trans en1.symm
        have pn96 : Q1_92 (11) = n11 := (hU.ne (by omega) (by omega)).trans en11.symm
        have pn97 : Q1_92 (547 + 84 * qs + 10) = ns10 := (hU.ne (by omega) (by omega)).trans ens10.symm
        have pn98 : Q1_92 (547 + 84 * qs + 22) = z32.toInt := (hU.ne (by omega) (by omega)).trans (jz32).symm
        have pn99 : Q1_92 (5) = z78.toInt := (hU.ne (by omega) (by omega)).trans (jz78).symm
        have pn100 : Q1_92 (1051 + 16 * z78.toInt + 0) = v.toInt := hU.eq (by omega)
        have hU : mo_U (Q1_92) (Q2_92) (1051 + 16 * z78.toInt + 1) (z84.toInt) := by have q9 := u2_92; rw [show z82.toInt + 1 = (1051 + 16 * z78.toInt + 1) by omega] at q9; exact q9
        have hI := mo_w_land hI hU z78.toInt (1) (by omega) (by omega) (by omega)
        have pn101 : Q2_92 (1) = n1 := (hU.ne (by omega) (by omega)).trans pn95
        have pn102 : Q2_92 (11) = n11 := (hU.ne (by omega) (by omega)).trans pn96
        have pn103 : Q2_92 (547 + 84 * qs + 10) = ns10 := (hU.ne (by omega) (by omega)).trans pn97
        have pn104 : Q2_92 (547 + 84 * qs + 22) = z32.toInt := (hU.ne (by omega) (by omega)).trans pn98
        have pn105 : Q2_92 (5) = z78.toInt := (hU.ne (by omega) (by omega)).trans pn99
        have pn106 : Q2_92 (1051 + 16 * z78.toInt + 0) = v.toInt := (hU.ne (by omega) (by omega)).trans pn100
        clear pn95 pn96 pn97 pn98 pn99 pn100
        have hU : mo_U (Q2_92) (Q3_92) (1051 + 16 * z78.toInt + 2) (z86.toInt) := by have q9 := u3_92; rw [show z82.toInt + 2 = (1051 + 16 * z78.toInt + 2) by omega] at q9; exact q9
        have hI := mo_w_land hI hU z78.toInt (2) (by omega) (by omega) (by omega)
        have pn107 : Q3_92 (1) = n1 := (hU.ne (by omega) (by omega)).trans pn101
        have pn108 : Q3_92 (11) = n11 := (hU.ne (by omega) (by omega)).trans pn102
        have pn109 : Q3_92 (547 + 84 * qs + 10) = ns10 := (hU.ne (by omega) (by omega)).trans pn103
        have pn110 : Q3_92 (547 + 84 * qs + 22) = z32.toInt := (hU.ne (by omega) (by omega)).trans pn104
        have pn111 : Q3_92 (5) = z78.toInt := (hU.ne (by omega) (by omega)).trans pn105
        have pn112 : Q3_92 (1051 + 16 * z78.toInt + 0) = v.toInt := (hU.ne (by omega) (by omega)).trans pn106
        clear pn101 pn102 pn103 pn104 pn105 pn106
        have hU : mo_U (Q3_92) (mo_R g94) (1051 + 16 * z78.toInt + 3) (z88.toInt) := by have q9 := u4_92; rw [show z82.toInt + 3 = (1051 + 16 * z78.toInt + 3) by omega] at q9; exact q9
        have hI := mo_w_land hI hU z78.toInt (3) (by omega) (by omega) (by omega)
        have pn113 : mo_R g94 (1) = n1 := (hU.ne (by omega) (by omega)).trans pn107
        have pn114 : mo_R g94 (11) = n11 := (hU.ne (by omega) (by omega)).trans pn108
        have pn115 : mo_R g94 (547 + 84 * qs + 10) = ns10 := (hU.ne (by omega) (by omega)).trans pn109
        have pn116 : mo_R g94 (547 + 84 * qs + 22) = z32.toInt := (hU.ne (by omega) (by omega)).trans pn110
        have pn117 : mo_R g94 (5) = z78.toInt := (hU.ne (by omega) (by omega)).trans pn111
        have pn118 : mo_R g94 (1051 + 16 * z78.toInt + 0) = v.toInt := (hU.ne (by omega) (by omega)).trans pn112
        have pn119 : mo_R g94 (1051 + 16 * z78.toInt + 3) = z88.toInt := hU.eq (by omega)
        clear pn107 pn108 pn109 pn110 pn111 pn112
        refine lv_aload_n hx hb dX12_endLanding_69 rfl (lv_at hl 1 rfl) ?_
        have hf_120 : f91 h0 = .inr (12, [.int o28_x0, .int o28_x1, .ref (ρ h0 2), .ref (ρ h0 3), .ref (ρ h0 4), .ref (ρ h0 5), .ref (ρ h0 6), .int o28_x7, .ref (ρ h0 8), .int o28_x9, .int o28_x10, .int o28_x11, .int o28_x12, .long o28_x13, .int o28_x14, .int o28_x15, .int o28_x16, .int o28_x17, .int o28_x18, .int o28_x19, .int o28_x20, .ref (ρ h0 21), .int o28_x22, .ref (ρ h0 23), .ref (ρ h0 24), .int o28_x25, .ref (ρ h0 26), .ref (ρ h0 27), .int o28_x28, .int o28_x29, .ref (ρ h0 30), .ref (ρ h0 31), .int o28_x32, .long o28_x33, .long o28_x34, .long o28_x35, .int o28_x36, .int o28_x37, .int o28_x38, .ref (ρ h0 39), .ref (ρ h0 40), .ref (ρ h0 41), .ref (ρ h0 42), .ref (ρ h0 43), .ref (ρ h0 44), .ref (ρ h0 45), .ref (ρ h0 46), .int o28_x47, .int o28_x48, .ref (ρ h0 49), .ref (ρ h0 50), .ref (ρ h0 51), .ref (ρ h0 52)]) := (hF92 _ (by rw [ht_h0]; decide)).trans hf_o28
        refine tpk_pos (tp_in hG ht_h0 (by decide)) hf_120 (fun q121 eq121 => ?_)
        refine va_get (D := (dC, dI)) (ci := 12) (v := .ref (ρ h0 2)) (C := RX12) (T := TX12) (N := 53) hx hb hts hfX12 hown hK hP q121 eq121 rfl 2 (by decide) (hts (.fieldLink RX12 7 "ColdShipsModel" "row" "[I") wa_148) (fun _ h9 => h9) rfl dX12_endLanding_70 ?_
        refine lv_iload_n hx hb dX12_endLanding_73 rfl (lv_at hl 0 rfl) ?_
        refine lv_iconst (v := 4) hx hb dX12_endLanding_74 (by decide) ?_
        refine lv_iadd hx hb dX12_endLanding_75 ?_
        refine lv_topi (fun z122 ez122 => ?_)
        have iz122 : z122.toInt = z82.toInt + 4 := zi_add ez122 rfl rfl (by omega) (by omega)
        refine lv_aload_n hx hb dX12_endLanding_76 rfl (lv_at hl 1 rfl) ?_
        refine va_get (D := (dC, dI)) (ci := 12) (v := .ref (ρ h0 2)) (C := RX12) (T := TX12) (N := 53) hx hb hts hfX12 hown hK hP q121 eq121 rfl 2 (by decide) (hts (.fieldLink RX12 7 "ColdShipsModel" "row" "[I") wa_148) (fun _ h9 => h9) rfl dX12_endLanding_77 ?_
        refine lv_iload_n hx hb dX12_endLanding_80 rfl (lv_at hl 3 rfl) ?_
        refine lv_bipush (v := 22) hx hb dX12_endLanding_81 (by decide) ?_
        refine lv_iadd hx hb dX12_endLanding_83 ?_
        refine lv_topi (fun z123 ez123 => ?_)
        have iz123 : z123.toInt = us.toInt + 22 := zi_add ez123 rfl rfl (by omega) (by omega)
        refine tpk_pos (tp_in hG y1 (by decide)) hf_o93 (fun q124 eq124 => ?_)
        refine va_iald hx hb hK hP q124 0 eq124 rfl (vp_in_iff.mpr ⟨by omega, by omega⟩) dX12_endLanding_84 ?_
        refine lv_topi (fun z125 ez125 => ?_)
        have jz125 : z125.toInt = mo_R g94 (547 + 84 * qs + 22) := mo_rd ez125 (by omega)
        have vz125 : z125.toInt = z32.toInt := jz125.trans pn116
        refine va_iast hx hb hK hP hD hS q124 0 eq124 rfl (vp_in_iff.mpr ⟨by omega, by omega⟩) dX12_endLanding_85 (tp_k (.inl (κ 0, 12967, .inl (upd g94 z122.toNatClampNeg z125))) hD (tp_in hG y1 (by decide)) eq124 (fun f126 H locs hP hD hS g128 k127 => ?_))
        have hT := hT.up y1 g128 k127 tp_o32
        have hR := hR.up y1 (by decide) k127
        have hU : mo_U (mo_R g94) (mo_R (upd g94 z122.toNatClampNeg z125)) (1051 + 16 * z78.toInt + 4) (z125.toInt) := mo_up (by omega) (rfl : z125.toInt = _) (by omega)
        generalize (upd g94 z122.toNatClampNeg z125) = g129 at g128 hU
        have hI := mo_w_land hI hU z78.toInt (4) (by omega) (by omega) (by omega)
        have pn130 : mo_R g129 (1) = n1 := (hU.ne (by omega) (by omega)).trans pn113
        have pn131 : mo_R g129 (11) = n11 := (hU.ne (by omega) (by omega)).trans pn114
        have pn132 : mo_R g129 (547 + 84 * qs + 10) = ns10 := (hU.ne (by omega) (by omega)).trans pn115
        have pn133 : mo_R g129 (547 + 84 * qs + 22) = z32.toInt := (hU.ne (by omega) (by omega)).trans pn116
        have pn134 : mo_R g129 (5) = z78.toInt := (hU.ne (by omega) (by omega)).trans pn117
        have pn135 : mo_R g129 (1051 + 16 * z78.toInt + 0) = v.toInt := (hU.ne (by omega) (by omega)).trans pn118
        have pn136 : mo_R g129 (1051 + 16 * z78.toInt + 3) = z88.toInt := (hU.ne (by omega) (by omega)).trans pn119
        have pn137 : mo_R g129 (1051 + 16 * z78.toInt + 4) = z125.toInt := hU.eq (by omega)
        clear pn113 pn114 pn115 pn116 pn117 pn118 pn119
        refine lv_iconst (v := 0) hx hb dX12_endLanding_86 (by decide) ?_
        refine lv_istore (lv' := [(4, .int 0), (3, .int z82), (0, .ref h0), (1, .int v), (2, .int us)]) hx hb dX12_endLanding_87 hl (by decide) rfl (fun ls hl => ?_)
        refine pz_loop (fun n0 H locs ls => ∃ f139 : Nat → va_E, ∃ w138 : Int32, n0 = (6 - (w138.toInt)).toNat ∧ tp_T (mo_O κ) κ τ ν ρ f139 ∧ tp_F τ [32] f f139 ∧ ((mo_RI x b (mo_R (mo_i (f139 (ρ h0 2)))))) ∧ (((mo_R (mo_i (f139 (ρ h0 2)))) (1) = n1)) ∧ (((mo_R (mo_i (f139 (ρ h0 2)))) (11) = n11)) ∧ (((mo_R (mo_i (f139 (ρ h0 2)))) (547 + 84 * qs + 10) = ns10)) ∧ (((mo_R (mo_i (f139 (ρ h0 2)))) (5) = z78.toInt)) ∧ (((mo_R (mo_i (f139 (ρ h0 2)))) (1051 + 16 * z78.toInt + 0) = v.toInt)) ∧ (((mo_R (mo_i (f139 (ρ h0 2)))) (1051 + 16 * z78.toInt + 3) = z88.toInt)) ∧ (((mo_R (mo_i (f139 (ρ h0 2)))) (1051 + 16 * z78.toInt + 4) = z125.toInt)) ∧ (0 ≤ w138.toInt ∧ w138.toInt ≤ 6) ∧ va_P (dC, dI) vwCl (va_pl L f139) H ∧ va_D A (va_pl L f139) ∧ va_S A s.heap H locs ∧ lv_has ls 5 [(4, .int w138), (3, .int z82), (0, .ref h0), (1, .int v), (2, .int us)]) ?_ _ _ _ _ ⟨f126, 0, rfl, hT, hR, (by rw [g128, mo_i1]; exact hI), (by rw [g128, mo_i1]; have : (0 : Int32).toInt = 0 := rfl; omega), (by rw [g128, mo_i1]; have : (0 : Int32).toInt = 0 := rfl; omega), (by rw [g128, mo_i1]; have : (0 : Int32).toInt = 0 := rfl; omega), (by rw [g128, mo_i1]; have : (0 : Int32).toInt = 0 := rfl; omega), (by rw [g128, mo_i1]; have : (0 : Int32).toInt = 0 := rfl; omega), (by rw [g128, mo_i1]; have : (0 : Int32).toInt = 0 := rfl; omega), (by rw [g128, mo_i1]; have : (0 : Int32).toInt = 0 := rfl; omega), (by have : (0 : Int32).toInt = 0 := rfl; omega), hP, hD, hS, lv_sub hl [0, 1, 2, 3, 4] rfl⟩
        intro n0 H locs ls hI ih141
        refine Exists.elim hI (fun f139 hE90 => Exists.elim hE90 (fun w138 hE91 => tn_16 hE91 (fun hn142 hT hR hJ jf143 jf144 jf145 jf146 jf147 jf148 jf149 rw138 hP hD hS hl => ?_)))
        clear hE91 hE90 hI
        refine tpk_32 hT y1 (fun g151 hf_o150 => ?_)
        have hI : mo_RI x b (mo_R g151) := by have q9 := hJ; rw [hf_o150, mo_i1] at q9; exact q9
        rw [hf_o150, mo_i1] at jf143
        rw [hf_o150, mo_i1] at jf144
        rw [hf_o150, mo_i1] at jf145
        rw [hf_o150, mo_i1] at jf146
        rw [hf_o150, mo_i1] at jf147
        rw [hf_o150, mo_i1] at jf148
        rw [hf_o150, mo_i1] at jf149
        refine lv_iload hx hb dX12_endLanding_89 (lv_at hl 0 rfl) ?_
        refine lv_bipush (v := 6) hx hb dX12_endLanding_91 (by decide) ?_
        refine lv_icmp_ge (tgt := 125) hx hb dX12_endLanding_93 (by decide) (fun c152 => ?_) (fun c152 => ?_)
        · have ic152 : w138.toInt ≥ 6 := zi_ge rfl rfl c152
          refine lv_aload_n hx hb dX12_endLanding_125 rfl (lv_at hl 2 rfl) ?_
          refine tpk_13 hT ht_h0 (fun o153_x0 o153_x1 o153_x7 o153_x9 o153_x10 o153_x11 o153_x12 o153_x13 o153_x14 o153_x15 o153_x16 o153_x17 o153_x18 o153_x19 o153_x20 o153_x22 o153_x25 o153_x28 o153_x29 o153_x32 o153_x33 o153_x34 o153_x35 o153_x36 o153_x37 o153_x38 o153_x47 o153_x48 hf_o153 ro153_0 ro153_1 ro153_2 ro153_3 ro153_4 ro153_5 ro153_6 ro153_7 ro153_8 ro153_9 ro153_10 ro153_11 ro153_12 ro153_13 => ?_)
          refine tpk_pos (tp_in hG ht_h0 (by decide)) hf_o153 (fun q154 eq154 => ?_)
          refine va_get (D := (dC, dI)) (ci := 12) (v := .ref (ρ h0 2)) (C := RX12) (T := TX12) (N := 53) hx hb hts hfX12 hown hK hP q154 eq154 rfl 2 (by decide) (hts (.fieldLink RX12 7 "ColdShipsModel" "row" "[I") wa_148) (fun _ h9 => h9) rfl dX12_endLanding_126 ?_
          refine lv_iload_n hx hb dX12_endLanding_129 rfl (lv_at hl 1 rfl) ?_
          refine lv_bipush (v := 11) hx hb dX12_endLanding_130 (by decide) ?_
          refine lv_iadd hx hb dX12_endLanding_132 ?_
          refine lv_topi (fun z155 ez155 => ?_)
          have iz155 : z155.toInt = z82.toInt + 11 := zi_add ez155 rfl rfl (by omega) (by omega)
          refine lv_iconst (v := (-1)) hx hb dX12_endLanding_133 (by decide) ?_
          refine tpk_pos (tp_in hG y1 (by decide)) hf_o150 (fun q156 eq156 => ?_)
          refine va_iast hx hb hK hP hD hS q156 0 eq156 rfl (vp_in_iff.mpr ⟨by omega, by omega⟩) dX12_endLanding_134 (tp_k (.inl (κ 0, 12967, .inl (upd g151 z155.toNatClampNeg ((-1) : Int32)))) hD (tp_in hG y1 (by decide)) eq156 (fun f157 H locs hP hD hS g159 k158 => ?_))
          have hT := hT.up y1 g159 k158 tp_o32
          have hR := hR.up y1 (by decide) k158
          have hU : mo_U (mo_R g151) (mo_R (upd g151 z155.toNatClampNeg ((-1) : Int32))) (1051 + 16 * z78.toInt + 11) ((-1)) := mo_up (by omega) (show ((-1) : Int32).toInt = (-1) from rfl) (by omega)
          generalize (upd g151 z155.toNatClampNeg ((-1) : Int32)) = g160 at g159 hU
          have hI := mo_w_land hI hU z78.toInt (11) (by omega) (by omega) (by omega)
          have pn161 : mo_R g160 (1) = n1 := (hU.ne (by omega) (by omega)).trans jf143
          have pn162 : mo_R g160 (11) = n11 := (hU.ne (by omega) (by omega)).trans jf144
          have pn163 : mo_R g160 (547 + 84 * qs + 10) = ns10 := (hU.ne (by omega) (by omega)).trans jf145
          have pn164 : mo_R g160 (5) = z78.toInt := (hU.ne (by omega) (by omega)).trans jf146
          have pn165 : mo_R g160 (1051 + 16 * z78.toInt + 0) = v.toInt := (hU.ne (by omega) (by omega)).trans jf147
          have pn166 : mo_R g160 (1051 + 16 * z78.toInt + 3) = z88.toInt := (hU.ne (by omega) (by omega)).trans jf148
          have pn167 : mo_R g160 (1051 + 16 * z78.toInt + 4) = z125.toInt := (hU.ne (by omega) (by omega)).trans jf149
          refine lv_aload_n hx hb dX12_endLanding_135 rfl (lv_at hl 2 rfl) ?_
          have hf_168 : f157 h0 = .inr (12, [.int o153_x0, .int o153_x1, .ref (ρ h0 2), .ref (ρ h0 3), .ref (ρ h0 4), .ref (ρ h0 5), .ref (ρ h0 6), .int o153_x7, .ref (ρ h0 8), .int o153_x9, .int o153_x10, .int o153_x11, .int o153_x12, .long o153_x13, .int o153_x14, .int o153_x15, .int o153_x16, .int o153_x17, .int o153_x18, .int o153_x19, .int o153_x20, .ref (ρ h0 21), .int o153_x22, .ref (ρ h0 23), .ref (ρ h0 24), .int o153_x25, .ref (ρ h0 26), .ref (ρ h0 27), .int o153_x28, .int o153_x29, .ref (ρ h0 30), .ref (ρ h0 31), .int o153_x32, .long o153_x33, .long o153_x34, .long o153_x35, .int o153_x36, .int o153_x37, .int o153_x38, .ref (ρ h0 39), .ref (ρ h0 40), .ref (ρ h0 41), .ref (ρ h0 42), .ref (ρ h0 43), .ref (ρ h0 44), .ref (ρ h0 45), .ref (ρ h0 46), .int o153_x47, .int o153_x48, .ref (ρ h0 49), .ref (ρ h0 50), .ref (ρ h0 51), .ref (ρ h0 52)]) := (k158 _ (tp_ne ht_h0 y1 (by decide))).trans hf_o153
          refine tpk_pos (tp_in hG ht_h0 (by decide)) hf_168 (fun q169 eq169 => ?_)
          refine va_get (D := (dC, dI)) (ci := 12) (v := .ref (ρ h0 2)) (C := RX12) (T := TX12) (N := 53) hx hb hts hfX12 hown hK hP q169 eq169 rfl 2 (by decide) (hts (.fieldLink RX12 7 "ColdShipsModel" "row" "[I") wa_148) (fun _ h9 => h9) rfl dX12_endLanding_136 ?_
          refine lv_iload_n hx hb dX12_endLanding_139 rfl (lv_at hl 1 rfl) ?_
          refine lv_bipush (v := 12) hx hb dX12_endLanding_140 (by decide) ?_
          refine lv_iadd hx hb dX12_endLanding_142 ?_
          refine lv_topi (fun z170 ez170 => ?_)
          have iz170 : z170.toInt = z82.toInt + 12 := zi_add ez170 rfl rfl (by omega) (by omega)
          refine lv_iconst (v := (-1)) hx hb dX12_endLanding_143 (by decide) ?_
          refine tpk_pos (tp_in hG y1 (by decide)) g159 (fun q171 eq171 => ?_)
          refine va_iast hx hb hK hP hD hS q171 0 eq171 rfl (vp_in_iff.mpr ⟨by omega, by omega⟩) dX12_endLanding_144 (tp_k (.inl (κ 0, 12967, .inl (upd g160 z170.toNatClampNeg ((-1) : Int32)))) hD (tp_in hG y1 (by decide)) eq171 (fun f172 H locs hP hD hS g174 k173 => ?_))
          have hT := hT.up y1 g174 k173 tp_o32
          have hR := hR.up y1 (by decide) k173
          have hU : mo_U (mo_R g160) (mo_R (upd g160 z170.toNatClampNeg ((-1) : Int32))) (1051 + 16 * z78.toInt + 12) ((-1)) := mo_up (by omega) (show ((-1) : Int32).toInt = (-1) from rfl) (by omega)
          generalize (upd g160 z170.toNatClampNeg ((-1) : Int32)) = g175 at g174 hU
          have hI := mo_w_land hI hU z78.toInt (12) (by omega) (by omega) (by omega)
          have pn176 : mo_R g175 (1) = n1 := (hU.ne (by omega) (by omega)).trans pn161
          have pn177 : mo_R g175 (11) = n11 := (hU.ne (by omega) (by omega)).trans pn162
          have pn178 : mo_R g175 (547 + 84 * qs + 10) = ns10 := (hU.ne (by omega) (by omega)).trans pn163
          have pn179 : mo_R g175 (5) = z78.toInt := (hU.ne (by omega) (by omega)).trans pn164
          have pn180 : mo_R g175 (1051 + 16 * z78.toInt + 0) = v.toInt := (hU.ne (by omega) (by omega)).trans pn165
          have pn181 : mo_R g175 (1051 + 16 * z78.toInt + 3) = z88.toInt := (hU.ne (by omega) (by omega)).trans pn166
          have pn182 : mo_R g175 (1051 + 16 * z78.toInt + 4) = z125.toInt := (hU.ne (by omega) (by omega)).trans pn167
          clear pn161 pn162 pn163 pn164 pn165 pn166 pn167
          refine lv_aload_n hx hb dX12_endLanding_145 rfl (lv_at hl 2 rfl) ?_
          have hf_183 : f172 h0 = .inr (12, [.int o153_x0, .int o153_x1, .ref (ρ h0 2), .ref (ρ h0 3), .ref (ρ h0 4), .ref (ρ h0 5), .ref (ρ h0 6), .int o153_x7, .ref (ρ h0 8), .int o153_x9, .int o153_x10, .int o153_x11, .int o153_x12, .long o153_x13, .int o153_x14, .int o153_x15, .int o153_x16, .int o153_x17, .int o153_x18, .int o153_x19, .int o153_x20, .ref (ρ h0 21), .int o153_x22, .ref (ρ h0 23), .ref (ρ h0 24), .int o153_x25, .ref (ρ h0 26), .ref (ρ h0 27), .int o153_x28, .int o153_x29, .ref (ρ h0 30), .ref (ρ h0 31), .int o153_x32, .long o153_x33, .long o153_x34, .long o153_x35, .int o153_x36, .int o153_x37, .int o153_x38, .ref (ρ h0 39), .ref (ρ h0 40), .ref (ρ h0 41), .ref (ρ h0 42), .ref (ρ h0 43), .ref (ρ h0 44), .ref (ρ h0 45), .ref (ρ h0 46), .int o153_x47, .int o153_x48, .ref (ρ h0 49), .ref (ρ h0 50), .ref (ρ h0 51), .ref (ρ h0 52)]) := (k173 _ (tp_ne ht_h0 y1 (by decide))).trans hf_168
          refine tpk_pos (tp_in hG ht_h0 (by decide)) hf_183 (fun q184 eq184 => ?_)
          refine va_get (D := (dC, dI)) (ci := 12) (v := .ref (ρ h0 2)) (C := RX12) (T := TX12) (N := 53) hx hb hts hfX12 hown hK hP q184 eq184 rfl 2 (by decide) (hts (.fieldLink RX12 7 "ColdShipsModel" "row" "[I") wa_148) (fun _ h9 => h9) rfl dX12_endLanding_146 ?_
          refine lv_iconst (v := 5) hx hb dX12_endLanding_149 (by decide) ?_
          refine lv_dup2_11 hx hb dX12_endLanding_150 rfl rfl ?_
          refine tpk_pos (tp_in hG y1 (by decide)) g174 (fun q185 eq185 => ?_)
          refine va_iald hx hb hK hP q185 0 eq185 rfl (vp_in_iff.mpr ⟨by decide, by decide⟩) dX12_endLanding_151 ?_
          refine lv_topi (fun z186 ez186 => ?_)
          have jz186 : z186.toInt = mo_R g175 (5) := mo_rd ez186 (show (5 : Int32).toInt = (5) from by decide)
          have kz186 := hI.k5
          have vz186 : z186.toInt = z78.toInt := jz186.trans pn179
          refine lv_iconst (v := 1) hx hb dX12_endLanding_152 (by decide) ?_
          refine lv_iadd hx hb dX12_endLanding_153 ?_
          refine lv_topi (fun z187 ez187 => ?_)
          have iz187 : z187.toInt = z186.toInt + 1 := zi_add ez187 rfl rfl (by omega) (by omega)
          refine va_iast hx hb hK hP hD hS q185 0 eq185 rfl (vp_in_iff.mpr ⟨by decide, by decide⟩) dX12_endLanding_154 (tp_k (.inl (κ 0, 12967, .inl (upd g175 (5 : Int32).toNatClampNeg z187))) hD (tp_in hG y1 (by decide)) eq185 (fun f188 H locs hP hD hS g190 k189 => ?_))
          have hT := hT.up y1 g190 k189 tp_o32
          have hR := hR.up y1 (by decide) k189
          have hU : mo_U (mo_R g175) (mo_R (upd g175 (5 : Int32).toNatClampNeg z187)) (5) (z187.toInt) := mo_up (show (5 : Int32).toInt = (5) from by decide) (rfl : z187.toInt = _) (by omega)
          generalize (upd g175 (5 : Int32).toNatClampNeg z187) = g191 at g190 hU
          have hI := mo_w_nL hI hU (z78.toInt) rfl pn179 (by omega) (by omega) (by omega) (by omega)
          have pn192 : mo_R g191 (1) = n1 := (hU.ne (by omega) (by omega)).trans pn176
          have pn193 : mo_R g191 (11) = n11 := (hU.ne (by omega) (by omega)).trans pn177
          have pn194 : mo_R g191 (547 + 84 * qs + 10) = ns10 := (hU.ne (by omega) (by omega)).trans pn178
          have pn195 : mo_R g191 (1051 + 16 * z78.toInt + 0) = v.toInt := (hU.ne (by omega) (by omega)).trans pn180
          have pn196 : mo_R g191 (1051 + 16 * z78.toInt + 3) = z88.toInt := (hU.ne (by omega) (by omega)).trans pn181
          have pn197 : mo_R g191 (1051 + 16 * z78.toInt + 4) = z125.toInt := (hU.ne (by omega) (by omega)).trans pn182
          have pn198 : mo_R g191 (5) = z187.toInt := hU.eq (by omega)
          clear pn176 pn177 pn178 pn179 pn180 pn181 pn182
          exact hj33 _ _ _ _ ⟨f188, rfl, hT, hR, (by rw [g190, mo_i1]; exact hI), (by rw [g190, mo_i1]; omega), (by rw [g190, mo_i1]; omega), (by rw [g190, mo_i1]; omega), hP, hD, hS, lv_sub hl [2, 3, 4] rfl⟩
        · have ic152 : w138.toInt < 6 := zi_gef rfl rfl c152
          refine lv_aload_n hx hb dX12_endLanding_96 rfl (lv_at hl 2 rfl) ?_
          refine tpk_13 hT ht_h0 (fun o199_x0 o199_x1 o199_x7 o199_x9 o199_x10 o199_x11 o199_x12 o199_x13 o199_x14 o199_x15 o199_x16 o199_x17 o199_x18 o199_x19 o199_x20 o199_x22 o199_x25 o199_x28 o199_x29 o199_x32 o199_x33 o199_x34 o199_x35 o199_x36 o199_x37 o199_x38 o199_x47 o199_x48 hf_o199 ro199_0 ro199_1 ro199_2 ro199_3 ro199_4 ro199_5 ro199_6 ro199_7 ro199_8 ro199_9 ro199_10 ro199_11 ro199_12 ro199_13 => ?_)
          refine tpk_pos (tp_in hG ht_h0 (by decide)) hf_o199 (fun q200 eq200 => ?_)
          refine va_get (D := (dC, dI)) (ci := 12) (v := .ref (ρ h0 2)) (C := RX12) (T := TX12) (N := 53) hx hb hts hfX12 hown hK hP q200 eq200 rfl 2 (by decide) (hts (.fieldLink RX12 7 "ColdShipsModel" "row" "[I") wa_148) (fun _ h9 => h9) rfl dX12_endLanding_97 ?_
          refine lv_iload_n hx hb dX12_endLanding_100 rfl (lv_at hl 1 rfl) ?_
          refine lv_iconst (v := 5) hx hb dX12_endLanding_101 (by decide) ?_
          refine lv_iadd hx hb dX12_endLanding_102 ?_
          refine lv_topi (fun z201 ez201 => ?_)
          have iz201 : z201.toInt = z82.toInt + 5 := zi_add ez201 rfl rfl (by omega) (by omega)
          refine lv_iload hx hb dX12_endLanding_103 (lv_at hl 0 rfl) ?_
          refine lv_iadd hx hb dX12_endLanding_105 ?_
          refine lv_topi (fun z202 ez202 => ?_)
          have iz202 : z202.toInt = z201.toInt + w138.toInt := zi_add ez202 rfl rfl (by omega) (by omega)
          refine lv_aload_n hx hb dX12_endLanding_106 rfl (lv_at hl 2 rfl) ?_
          refine va_get (D := (dC, dI)) (ci := 12) (v := .ref (ρ h0 2)) (C := RX12) (T := TX12) (N := 53) hx hb hts hfX12 hown hK hP q200 eq200 rfl 2 (by decide) (hts (.fieldLink RX12 7 "ColdShipsModel" "row" "[I") wa_148) (fun _ h9 => h9) rfl dX12_endLanding_107 ?_
          refine lv_iload_n hx hb dX12_endLanding_110 rfl (lv_at hl 4 rfl) ?_
          refine lv_bipush (v := 25) hx hb dX12_endLanding_111 (by decide) ?_
          refine lv_iadd hx hb dX12_endLanding_113 ?_
          refine lv_topi (fun z203 ez203 => ?_)
          have iz203 : z203.toInt = us.toInt + 25 := zi_add ez203 rfl rfl (by omega) (by omega)
          refine lv_iload hx hb dX12_endLanding_114 (lv_at hl 0 rfl) ?_
          refine lv_iadd hx hb dX12_endLanding_116 ?_
          refine lv_topi (fun z204 ez204 => ?_)
          have iz204 : z204.toInt = z203.toInt + w138.toInt := zi_add ez204 rfl rfl (by omega) (by omega)
          refine tpk_pos (tp_in hG y1 (by decide)) hf_o150 (fun q205 eq205 => ?_)
          refine va_iald hx hb hK hP q205 0 eq205 rfl (vp_in_iff.mpr ⟨by omega, by omega⟩) dX12_endLanding_117 ?_
          refine lv_topi (fun z206 ez206 => ?_)
          refine va_iast hx hb hK hP hD hS q205 0 eq205 rfl (vp_in_iff.mpr ⟨by omega, by omega⟩) dX12_endLanding_118 (tp_k (.inl (κ 0, 12967, .inl (upd g151 z202.toNatClampNeg z206))) hD (tp_in hG y1 (by decide)) eq205 (fun f207 H locs hP hD hS g209 k208 => ?_))
          have hT := hT.up y1 g209 k208 tp_o32
          have hR := hR.up y1 (by decide) k208
          have hU : mo_U (mo_R g151) (mo_R (upd g151 z202.toNatClampNeg z206)) (1051 + 16 * z78.toInt + 5 + w138.toInt) (z206.toInt) := mo_up (by omega) (rfl : z206.toInt = _) (by omega)
          generalize (upd g151 z202.toNatClampNeg z206) = g210 at g209 hU
          have hI := mo_w_land hI hU z78.toInt (5 + w138.toInt) (by omega) (by omega) (by omega)
          have pn211 : mo_R g210 (1) = n1 := (hU.ne (by omega) (by omega)).trans jf143
          have pn212 : mo_R g210 (11) = n11 := (hU.ne (by omega) (by omega)).trans jf144
          have pn213 : mo_R g210 (547 + 84 * qs + 10) = ns10 := (hU.ne (by omega) (by omega)).trans jf145
          have pn214 : mo_R g210 (5) = z78.toInt := (hU.ne (by omega) (by omega)).trans jf146
          have pn215 : mo_R g210 (1051 + 16 * z78.toInt + 0) = v.toInt := (hU.ne (by omega) (by omega)).trans jf147
          have pn216 : mo_R g210 (1051 + 16 * z78.toInt + 3) = z88.toInt := (hU.ne (by omega) (by omega)).trans jf148
          have pn217 : mo_R g210 (1051 + 16 * z78.toInt + 4) = z125.toInt := (hU.ne (by omega) (by omega)).trans jf149
          obtain ⟨z218, ez218⟩ : ∃ y : Int32, y = w138 + 1 := ⟨_, rfl⟩
          refine lv_iinc (v := z218) (lv' := [(4, .int z218), (3, .int z82), (0, .ref h0), (1, .int v), (2, .int us)]) hx hb dX12_endLanding_119 hl (k := 0) rfl (by rw [ez218]; rfl) (by decide) rfl (fun ls hl => ?_)
          have iz218 : z218.toInt = w138.toInt + 1 := zi_add ez218 rfl rfl (by omega) (by omega)
          refine lv_goto (tgt := 89) hx hb dX12_endLanding_122 (by decide) ?_
          exact ih141 _ _ _ _ (by rw [hn142]; omega) ⟨f207, z218, rfl, hT, hR, (by rw [g209, mo_i1]; exact hI), (by rw [g209, mo_i1]; omega), (by rw [g209, mo_i1]; omega), (by rw [g209, mo_i1]; omega), (by rw [g209, mo_i1]; omega), (by rw [g209, mo_i1]; omega), (by rw [g209, mo_i1]; omega), (by rw [g209, mo_i1]; omega), (by omega), hP, hD, hS, lv_sub hl [0, 1, 2, 3, 4] rfl⟩

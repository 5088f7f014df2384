section
set_option maxHeartbeats 4000000 in
set_option maxRecDepth 100000 in
theorem t_X12_endLanding (l : Launch) (dC : Nat → ClassId) (dI : Nat → Nat → Nat) (sz : Nat) (κ : Nat → ClassId) (Θ : Nat → Option Int) (τ ν : Nat → Nat) (ρ : Nat → Nat → Nat) (L : List Nat) (f : Nat → va_E) (hG : tp_G τ ν ρ L) (hT : tp_T (mo_O κ Θ) κ τ ν ρ f) (h0 : Nat) (v : Int32) (us : Int32) (x : Int) (b : Int) (qs : Int) (ht_h0 : τ h0 = 13) (hL_us : us.toInt = 547 + 84 * qs) (hq_us : 0 ≤ qs ∧ qs ≤ 5) (hbb : 0 ≤ b ∧ b ≤ 1000) (hJ : mo_RI x b (mo_R (mo_i (f (ρ h0 2))))) (hvq : v.toInt = qs) (hn1 : qs < (mo_R (mo_i (f (ρ h0 2)))) (1)) : Met l yX12_endLanding wqX12_endLanding ({ frames := 3, cells := 0, slots := 0, locals := 800 }) (va_Pc [.ref h0, .int v, .int us] (pz_B dC dI (tp_K κ) (va_pl L f) sz)) (va_Qv (fun (f1 : Nat → va_E) => tp_T (mo_O κ Θ) κ τ ν ρ f1 ∧ tp_F τ [32] f f1 ∧ mo_RI x b (mo_R (mo_i (f1 (ρ h0 2)))) ∧ mo_KN (fun k => k = 5) (mo_R (mo_i (f (ρ h0 2)))) (mo_R (mo_i (f1 (ρ h0 2)))) ∧ (mo_R (mo_i (f1 (ρ h0 2)))) (1) = (mo_R (mo_i (f (ρ h0 2)))) (1) ∧ (mo_R (mo_i (f1 (ρ h0 2)))) (11) = (mo_R (mo_i (f (ρ h0 2)))) (11) ∧ (mo_R (mo_i (f1 (ρ h0 2)))) (547 + 84 * qs + 10) = (mo_R (mo_i (f (ρ h0 2)))) (547 + 84 * qs + 10)) (fun (f1 : Nat → va_E) (t : State) => pz_E dC dI (tp_K κ) (va_A (va_pl L f) sz) (va_pl L f1) t) (va_A (va_pl L f) sz)) 0 0 (va_A (va_pl L f) sz) := by
  refine Met.ofW (cc := cX12_endLanding) (maxL := 5) (ret := none) (by decide) rfl ?_
  intro p e s m args below meth c s₁ B hml hv
  obtain ⟨rfl, hsz, hP, hK, hD0, hN⟩ := hv
  have hx := B.exec
  have hb := B.bytes
  have hr := B.returns
  have hts := fun (w : Cond) (h : w ∈ WALL) => atoms_spec (ws := wqX12_endLanding) B.pre w (List.mem_cons_of_mem _ h)
  have hown : s.vm.findClass RX12 = some m.cls := findClass_of_methodNamed B.named
  have hlocks := B.notSynchronized
  subst hsz
  have hD := hD0.self (sz := s.heap.size)
  generalize hAe : va_A (va_pl L f) s.heap.size = A at hD ⊢
  have hA : ∀ q : Nat, s.heap.size ≤ q → A q := fun q h => by rw [← hAe]; exact Or.inr h
  have hS : va_S A s.heap s.heap [] := va_S.rf
  have hR : tp_F τ [32] f f := tp_F.rf
  have hl := lv_entry ([.ref h0, .int v, .int us]) (n := 5) (Nat.le_of_ble_eq_true rfl)
  rw [lg_entry_eq]
  generalize (lg_sl ([.ref h0, .int v, .int us]) ++ List.replicate (5 - (lg_sl ([.ref h0, .int v, .int us])).length) Slot.unset).toArray = ls at hl ⊢
  have hl : lv_has ls 5 [(0, .ref h0), (1, .int v), (2, .int us)] := hl
  refine tgk_13 hG ht_h0 (fun y1 y2 y3 y4 y5 y6 y7 y8 y9 y10 y11 y12 y13 y14 y15 y16 y17 y18 y19 y20 y21 y22 y23 y24 y25 => ?_)
  refine tpk_32 hT y1 (fun g27 hf_o26 => ?_)
  have hI : mo_RI x b (mo_R g27) := by have q9 := hJ; rw [hf_o26, mo_i1] at q9; exact q9
  rw [hf_o26, mo_i1] at hn1
  obtain ⟨n1, en1⟩ : ∃ n : Int, n = mo_R g27 (1) := ⟨_, rfl⟩
  have kn1 := hI.k1
  obtain ⟨n11, en11⟩ : ∃ n : Int, n = mo_R g27 (11) := ⟨_, rfl⟩
  have kn11 := hI.k11
  obtain ⟨ns10, ens10⟩ : ∃ n : Int, n = mo_R g27 (547 + 84 * qs + 10) := ⟨_, rfl⟩
  have hKN : mo_KN (fun k => k = 5) (mo_R g27) (mo_R g27) := mo_KN.rf
  refine lv_aload_n hx hb dX12_endLanding_0 rfl (lv_at hl 0 rfl) ?_
  refine tpk_13 hT ht_h0 (fun o28_x0 o28_x1 o28_x7 o28_x9 o28_x10 o28_x11 o28_x12 o28_x13 o28_x14 o28_x15 o28_x16 o28_x17 o28_x18 o28_x19 o28_x20 o28_x22 o28_x25 o28_x28 o28_x29 o28_x32 o28_x33 o28_x34 o28_x35 o28_x36 o28_x37 o28_x38 o28_x47 o28_x48 hf_o28 ro28_0 ro28_1 ro28_2 ro28_3 ro28_4 ro28_5 ro28_6 ro28_7 ro28_8 ro28_9 ro28_10 ro28_11 ro28_12 ro28_13 ro28_14 => ?_)
  refine tpk_pos (tp_in hG ht_h0 (by decide)) hf_o28 (fun q29 eq29 => ?_)
  refine va_get (D := (dC, dI)) (ci := 12) (v := .ref (ρ h0 2)) (C := RX12) (T := TX12) (N := 53) hx hb hts hfX12 hown hK hP q29 eq29 rfl 2 (by decide) (hts (.fieldLink RX12 7 "ColdShipsModel" "row" "[I") wa_148) (fun _ h9 => h9) rfl dX12_endLanding_1 ?_
  refine lv_iload_n hx hb dX12_endLanding_4 rfl (lv_at hl 2 rfl) ?_
  refine lv_bipush (v := 22) hx hb dX12_endLanding_5 (by decide) ?_
  refine lv_iadd hx hb dX12_endLanding_7 ?_
  refine lv_topi (fun z30 ez30 => ?_)
  have iz30 : z30.toInt = us.toInt + 22 := zi_add ez30 rfl rfl (by omega) (by omega)
  refine tpk_pos (tp_in hG y1 (by decide)) hf_o26 (fun q31 eq31 => ?_)
  refine va_iald hx hb hK hP q31 0 eq31 rfl (vp_in_iff.mpr ⟨by omega, by omega⟩) dX12_endLanding_8 ?_
  refine lv_topi (fun z32 ez32 => ?_)
  have jz32 : z32.toInt = mo_R g27 (547 + 84 * qs + 22) := mo_rd ez32 (by omega)
  refine tp_join 155 (fun H locs ls stk => ∃ f34 : Nat → va_E, stk = [] ∧ tp_T (mo_O κ Θ) κ τ ν ρ f34 ∧ tp_F τ [32] f f34 ∧ ((mo_RI x b (mo_R (mo_i (f34 (ρ h0 2)))))) ∧ ((mo_KN (fun k => k = 5) (mo_R g27) (mo_R (mo_i (f34 (ρ h0 2)))))) ∧ (((mo_R (mo_i (f34 (ρ h0 2)))) (1) = n1)) ∧ (((mo_R (mo_i (f34 (ρ h0 2)))) (11) = n11)) ∧ (((mo_R (mo_i (f34 (ρ h0 2)))) (547 + 84 * qs + 10) = ns10)) ∧ va_P (dC, dI) vwCl (va_pl L f34) H ∧ va_D A (va_pl L f34) ∧ va_S A s.heap H locs ∧ lv_has ls 5 [(0, .ref h0), (1, .int v), (2, .int us)]) ?_ (fun hj33 => ?_)
  · intro H locs ls stk hI
    refine Exists.elim hI (fun f34 hE90 => tn_12 hE90 (fun e90 hT hR hJ jf36 jf37 jf38 jf39 hP hD hS hl => ?_))
    clear hE90 hI; subst e90
    refine tpk_32 hT y1 (fun g41 hf_o40 => ?_)
    have hI : mo_RI x b (mo_R g41) := by have q9 := hJ; rw [hf_o40, mo_i1] at q9; exact q9
    rw [hf_o40, mo_i1] at jf36
    have hKN := jf36
    rw [hf_o40, mo_i1] at jf37
    rw [hf_o40, mo_i1] at jf38
    rw [hf_o40, mo_i1] at jf39
    refine lv_aload_n hx hb dX12_endLanding_155 rfl (lv_at hl 0 rfl) ?_
    refine tpk_13 hT ht_h0 (fun o42_x0 o42_x1 o42_x7 o42_x9 o42_x10 o42_x11 o42_x12 o42_x13 o42_x14 o42_x15 o42_x16 o42_x17 o42_x18 o42_x19 o42_x20 o42_x22 o42_x25 o42_x28 o42_x29 o42_x32 o42_x33 o42_x34 o42_x35 o42_x36 o42_x37 o42_x38 o42_x47 o42_x48 hf_o42 ro42_0 ro42_1 ro42_2 ro42_3 ro42_4 ro42_5 ro42_6 ro42_7 ro42_8 ro42_9 ro42_10 ro42_11 ro42_12 ro42_13 ro42_14 => ?_)
    refine tpk_pos (tp_in hG ht_h0 (by decide)) hf_o42 (fun q43 eq43 => ?_)
    refine va_get (D := (dC, dI)) (ci := 12) (v := .ref (ρ h0 2)) (C := RX12) (T := TX12) (N := 53) hx hb hts hfX12 hown hK hP q43 eq43 rfl 2 (by decide) (hts (.fieldLink RX12 7 "ColdShipsModel" "row" "[I") wa_148) (fun _ h9 => h9) rfl dX12_endLanding_156 ?_
    refine lv_iload_n hx hb dX12_endLanding_159 rfl (lv_at hl 2 rfl) ?_
    refine lv_bipush (v := 22) hx hb dX12_endLanding_160 (by decide) ?_
    refine lv_iadd hx hb dX12_endLanding_162 ?_
    refine lv_topi (fun z44 ez44 => ?_)
    have iz44 : z44.toInt = us.toInt + 22 := zi_add ez44 rfl rfl (by omega) (by omega)
    refine lv_iconst (v := 0) hx hb dX12_endLanding_163 (by decide) ?_
    refine tpk_pos (tp_in hG y1 (by decide)) hf_o40 (fun q45 eq45 => ?_)
    refine va_iast hx hb hK hP hD hS q45 0 eq45 rfl (vp_in_iff.mpr ⟨by omega, by omega⟩) dX12_endLanding_164 (tp_k (.inl (κ 0, 12967, .inl (upd g41 z44.toNatClampNeg (0 : Int32)))) hD (tp_in hG y1 (by decide)) eq45 (fun f46 H locs hP hD hS g48 k47 => ?_))
    have hT := hT.up y1 g48 k47 tp_o32
    have hR := hR.up y1 (by decide) k47
    have hU : mo_U (mo_R g41) (mo_R (upd g41 z44.toNatClampNeg (0 : Int32))) (547 + 84 * qs + 22) (0) := mo_up (by omega) (show (0 : Int32).toInt = 0 from rfl) (by omega)
    generalize (upd g41 z44.toNatClampNeg (0 : Int32)) = g49 at g48 hU
    have hI := mo_w_sfree hI hU qs 22 (by omega) (by omega) (by omega)
    have hKN := hKN.up hU (Or.inl (by omega))
    have pn50 : mo_R g49 (1) = n1 := (hU.ne (by omega) (by omega)).trans jf37
    have pn51 : mo_R g49 (11) = n11 := (hU.ne (by omega) (by omega)).trans jf38
    have pn52 : mo_R g49 (547 + 84 * qs + 10) = ns10 := (hU.ne (by omega) (by omega)).trans jf39
    have pn53 : mo_R g49 (547 + 84 * qs + 22) = 0 := hU.eq (by omega)
    refine lv_iconst (v := 0) hx hb dX12_endLanding_165 (by decide) ?_
    refine lv_istore_n (lv' := [(3, .int 0), (0, .ref h0), (1, .int v), (2, .int us)]) hx hb dX12_endLanding_166 rfl hl (by decide) rfl (fun ls hl => ?_)
    refine pz_loop (fun n0 H locs ls => ∃ f55 : Nat → va_E, ∃ w54 : Int32, n0 = (6 - (w54.toInt)).toNat ∧ tp_T (mo_O κ Θ) κ τ ν ρ f55 ∧ tp_F τ [32] f f55 ∧ ((mo_RI x b (mo_R (mo_i (f55 (ρ h0 2)))))) ∧ ((mo_KN (fun k => k = 5) (mo_R g27) (mo_R (mo_i (f55 (ρ h0 2)))))) ∧ (((mo_R (mo_i (f55 (ρ h0 2)))) (1) = n1)) ∧ (((mo_R (mo_i (f55 (ρ h0 2)))) (11) = n11)) ∧ (((mo_R (mo_i (f55 (ρ h0 2)))) (547 + 84 * qs + 10) = ns10)) ∧ (0 ≤ w54.toInt ∧ w54.toInt ≤ 6) ∧ va_P (dC, dI) vwCl (va_pl L f55) H ∧ va_D A (va_pl L f55) ∧ va_S A s.heap H locs ∧ lv_has ls 5 [(3, .int w54), (0, .ref h0), (1, .int v), (2, .int us)]) ?_ _ _ _ _ ⟨f46, 0, rfl, hT, hR, (by rw [g48, mo_i1]; exact hI), (by rw [g48, mo_i1]; exact hKN), (by rw [g48, mo_i1]; have : (0 : Int32).toInt = 0 := rfl; omega), (by rw [g48, mo_i1]; have : (0 : Int32).toInt = 0 := rfl; omega), (by rw [g48, mo_i1]; have : (0 : Int32).toInt = 0 := rfl; omega), (by have : (0 : Int32).toInt = 0 := rfl; omega), hP, hD, hS, lv_sub hl [0, 1, 2, 3] rfl⟩
    intro n0 H locs ls hI ih57
    refine Exists.elim hI (fun f55 hE90 => Exists.elim hE90 (fun w54 hE91 => tn_13 hE91 (fun hn58 hT hR hJ jf59 jf60 jf61 jf62 rw54 hP hD hS hl => ?_)))
    clear hE91 hE90 hI
    refine tpk_32 hT y1 (fun g64 hf_o63 => ?_)
    have hI : mo_RI x b (mo_R g64) := by have q9 := hJ; rw [hf_o63, mo_i1] at q9; exact q9
    rw [hf_o63, mo_i1] at jf59
    have hKN := jf59
    rw [hf_o63, mo_i1] at jf60
    rw [hf_o63, mo_i1] at jf61
    rw [hf_o63, mo_i1] at jf62
    refine lv_iload_n hx hb dX12_endLanding_167 rfl (lv_at hl 0 rfl) ?_
    refine lv_bipush (v := 6) hx hb dX12_endLanding_168 (by decide) ?_
    refine lv_icmp_ge (tgt := 191) hx hb dX12_endLanding_170 (by decide) (fun c65 => ?_) (fun c65 => ?_)
    · have ic65 : w54.toInt ≥ 6 := zi_ge rfl rfl c65
      exact W.vret hx hb hr (fun t ht hW => ⟨⟨f55, rfl, ⟨hT, hR, ⟨(by rw [hf_o63, mo_i1]; exact hI), (by rw [hf_o63, mo_i1, hf_o26, mo_i1]; exact hKN), (by first | (simp only [hf_o63, hf_o26, mo_i1]; omega) | (simp only [hf_o63, hf_o26, mo_i1]; trivial) | (simp only [hf_o63, hf_o26, mo_i1]; done) | omega)⟩⟩, by rw [ht]; exact hP, va_K.moved hW.alike hK, hD⟩, hS.F ht⟩) hS.2.2 dX12_endLanding_191
    · have ic65 : w54.toInt < 6 := zi_gef rfl rfl c65
      refine lv_aload_n hx hb dX12_endLanding_173 rfl (lv_at hl 1 rfl) ?_
      refine tpk_13 hT ht_h0 (fun o66_x0 o66_x1 o66_x7 o66_x9 o66_x10 o66_x11 o66_x12 o66_x13 o66_x14 o66_x15 o66_x16 o66_x17 o66_x18 o66_x19 o66_x20 o66_x22 o66_x25 o66_x28 o66_x29 o66_x32 o66_x33 o66_x34 o66_x35 o66_x36 o66_x37 o66_x38 o66_x47 o66_x48 hf_o66 ro66_0 ro66_1 ro66_2 ro66_3 ro66_4 ro66_5 ro66_6 ro66_7 ro66_8 ro66_9 ro66_10 ro66_11 ro66_12 ro66_13 ro66_14 => ?_)
      refine tpk_pos (tp_in hG ht_h0 (by decide)) hf_o66 (fun q67 eq67 => ?_)
      refine va_get (D := (dC, dI)) (ci := 12) (v := .ref (ρ h0 2)) (C := RX12) (T := TX12) (N := 53) hx hb hts hfX12 hown hK hP q67 eq67 rfl 2 (by decide) (hts (.fieldLink RX12 7 "ColdShipsModel" "row" "[I") wa_148) (fun _ h9 => h9) rfl dX12_endLanding_174 ?_
      refine lv_iload_n hx hb dX12_endLanding_177 rfl (lv_at hl 3 rfl) ?_
      refine lv_bipush (v := 25) hx hb dX12_endLanding_178 (by decide) ?_
      refine lv_iadd hx hb dX12_endLanding_180 ?_
      refine lv_topi (fun z68 ez68 => ?_)
      have iz68 : z68.toInt = us.toInt + 25 := zi_add ez68 rfl rfl (by omega) (by omega)
      refine lv_iload_n hx hb dX12_endLanding_181 rfl (lv_at hl 0 rfl) ?_
      refine lv_iadd hx hb dX12_endLanding_182 ?_
      refine lv_topi (fun z69 ez69 => ?_)
      have iz69 : z69.toInt = z68.toInt + w54.toInt := zi_add ez69 rfl rfl (by omega) (by omega)
      refine lv_iconst (v := 0) hx hb dX12_endLanding_183 (by decide) ?_
      refine tpk_pos (tp_in hG y1 (by decide)) hf_o63 (fun q70 eq70 => ?_)
      refine va_iast hx hb hK hP hD hS q70 0 eq70 rfl (vp_in_iff.mpr ⟨by omega, by omega⟩) dX12_endLanding_184 (tp_k (.inl (κ 0, 12967, .inl (upd g64 z69.toNatClampNeg (0 : Int32)))) hD (tp_in hG y1 (by decide)) eq70 (fun f71 H locs hP hD hS g73 k72 => ?_))
      have hT := hT.up y1 g73 k72 tp_o32
      have hR := hR.up y1 (by decide) k72
      have hU : mo_U (mo_R g64) (mo_R (upd g64 z69.toNatClampNeg (0 : Int32))) (547 + 84 * qs + 25 + w54.toInt) (0) := mo_up (by omega) (show (0 : Int32).toInt = 0 from rfl) (by omega)
      generalize (upd g64 z69.toNatClampNeg (0 : Int32)) = g74 at g73 hU
      have hI := mo_w_sfree hI hU qs (25 + w54.toInt) (by omega) (by omega) (by omega)
      have hKN := hKN.up hU (Or.inl (by omega))
      have pn75 : mo_R g74 (1) = n1 := (hU.ne (by omega) (by omega)).trans jf60
      have pn76 : mo_R g74 (11) = n11 := (hU.ne (by omega) (by omega)).trans jf61
      have pn77 : mo_R g74 (547 + 84 * qs + 10) = ns10 := (hU.ne (by omega) (by omega)).trans jf62
      obtain ⟨z78, ez78⟩ : ∃ y : Int32, y = w54 + 1 := ⟨_, rfl⟩
      refine lv_iinc (v := z78) (lv' := [(3, .int z78), (0, .ref h0), (1, .int v), (2, .int us)]) hx hb dX12_endLanding_185 hl (k := 0) rfl (by rw [ez78]; rfl) (by decide) rfl (fun ls hl => ?_)
      have iz78 : z78.toInt = w54.toInt + 1 := zi_add ez78 rfl rfl (by omega) (by omega)
      refine lv_goto (tgt := 167) hx hb dX12_endLanding_188 (by decide) ?_
      exact ih57 _ _ _ _ (by rw [hn58]; omega) ⟨f71, z78, rfl, hT, hR, (by rw [g73, mo_i1]; exact hI), (by rw [g73, mo_i1]; exact hKN), (by rw [g73, mo_i1]; omega), (by rw [g73, mo_i1]; omega), (by rw [g73, mo_i1]; omega), (by omega), hP, hD, hS, lv_sub hl [0, 1, 2, 3] rfl⟩
  · refine lv_if_le (tgt := 155) hx hb dX12_endLanding_9 (by decide) (fun c79 => ?_) (fun c79 => ?_)
    · have ic79 : z32.toInt ≤ 0 := zi_le rfl rfl c79
      exact hj33 _ _ _ _ ⟨f, rfl, hT, hR, (by rw [hf_o26, mo_i1]; exact hI), (by rw [hf_o26, mo_i1]; exact hKN), (by rw [hf_o26, mo_i1]; omega), (by rw [hf_o26, mo_i1]; omega), (by rw [hf_o26, mo_i1]; omega), hP, hD, hS, lv_sub hl [0, 1, 2] rfl⟩
    · have ic79 : z32.toInt > 0 := zi_lef rfl rfl c79
      refine lv_aload_n hx hb dX12_endLanding_12 rfl (lv_at hl 0 rfl) ?_
      refine va_get (D := (dC, dI)) (ci := 12) (v := .ref (ρ h0 2)) (C := RX12) (T := TX12) (N := 53) hx hb hts hfX12 hown hK hP q29 eq29 rfl 2 (by decide) (hts (.fieldLink RX12 7 "ColdShipsModel" "row" "[I") wa_148) (fun _ h9 => h9) rfl dX12_endLanding_13 ?_
      refine lv_iconst (v := 5) hx hb dX12_endLanding_16 (by decide) ?_
      refine va_iald hx hb hK hP q31 0 eq31 rfl (vp_in_iff.mpr ⟨by decide, by decide⟩) dX12_endLanding_17 ?_
      refine lv_topi (fun z80 ez80 => ?_)
      have jz80 : z80.toInt = mo_R g27 (5) := mo_rd ez80 (show (5 : Int32).toInt = (5) from by decide)
      have kz80 := hI.k5
      refine lv_bipush (v := 60) hx hb dX12_endLanding_18 (by decide) ?_
      refine lv_icmp_ge (tgt := 155) hx hb dX12_endLanding_20 (by decide) (fun c81 => ?_) (fun c81 => ?_)
      · have ic81 : z80.toInt ≥ 60 := zi_ge rfl rfl c81
        exact hj33 _ _ _ _ ⟨f, rfl, hT, hR, (by rw [hf_o26, mo_i1]; exact hI), (by rw [hf_o26, mo_i1]; exact hKN), (by rw [hf_o26, mo_i1]; omega), (by rw [hf_o26, mo_i1]; omega), (by rw [hf_o26, mo_i1]; omega), hP, hD, hS, lv_sub hl [0, 1, 2] rfl⟩
      · have ic81 : z80.toInt < 60 := zi_gef rfl rfl c81
        refine lv_sipush (v := 1051) hx hb dX12_endLanding_23 (by decide) ?_
        refine lv_bipush (v := 16) hx hb dX12_endLanding_26 (by decide) ?_
        refine lv_aload_n hx hb dX12_endLanding_28 rfl (lv_at hl 0 rfl) ?_
        refine va_get (D := (dC, dI)) (ci := 12) (v := .ref (ρ h0 2)) (C := RX12) (T := TX12) (N := 53) hx hb hts hfX12 hown hK hP q29 eq29 rfl 2 (by decide) (hts (.fieldLink RX12 7 "ColdShipsModel" "row" "[I") wa_148) (fun _ h9 => h9) rfl dX12_endLanding_29 ?_
        refine lv_iconst (v := 5) hx hb dX12_endLanding_32 (by decide) ?_
        refine va_iald hx hb hK hP q31 0 eq31 rfl (vp_in_iff.mpr ⟨by decide, by decide⟩) dX12_endLanding_33 ?_
        refine lv_topi (fun z82 ez82 => ?_)
        have jz82 : z82.toInt = mo_R g27 (5) := mo_rd ez82 (show (5 : Int32).toInt = (5) from by decide)
        have kz82 := hI.k5
        have vz82 : z82.toInt = z80.toInt := jz82.trans (jz80).symm
        refine lv_imul hx hb dX12_endLanding_34 ?_
        refine lv_topi (fun z83 ez83 => ?_)
        have iz83 : z83.toInt = 16 * z82.toInt := zi_mul ez83 rfl rfl (by omega) (by omega)
        refine lv_iadd hx hb dX12_endLanding_35 ?_
        refine lv_topi (fun z84 ez84 => ?_)
        have iz84 : z84.toInt = 1051 + z83.toInt := zi_add ez84 rfl rfl (by omega) (by omega)
        refine lv_istore_n (lv' := [(3, .int z84), (0, .ref h0), (1, .int v), (2, .int us)]) hx hb dX12_endLanding_36 rfl hl (by decide) rfl (fun ls hl => ?_)
        refine lv_aload_n hx hb dX12_endLanding_37 rfl (lv_at hl 1 rfl) ?_
        refine lv_iload_n hx hb dX12_endLanding_38 rfl (lv_at hl 0 rfl) ?_
        refine lv_iload_n hx hb dX12_endLanding_39 rfl (lv_at hl 2 rfl) ?_
        refine lv_aload_n hx hb dX12_endLanding_40 rfl (lv_at hl 1 rfl) ?_
        refine va_get (D := (dC, dI)) (ci := 12) (v := .ref (ρ h0 2)) (C := RX12) (T := TX12) (N := 53) hx hb hts hfX12 hown hK hP q29 eq29 rfl 2 (by decide) (hts (.fieldLink RX12 7 "ColdShipsModel" "row" "[I") wa_148) (fun _ h9 => h9) rfl dX12_endLanding_41 ?_
        refine lv_iload_n hx hb dX12_endLanding_44 rfl (lv_at hl 3 rfl) ?_
        refine lv_iconst (v := 0) hx hb dX12_endLanding_45 (by decide) ?_
        refine lv_iadd hx hb dX12_endLanding_46 ?_
        refine lv_topi (fun z85 ez85 => ?_)
        have iz85 : z85.toInt = us.toInt + 0 := zi_add ez85 rfl rfl (by omega) (by omega)
        refine va_iald hx hb hK hP q31 0 eq31 rfl (vp_in_iff.mpr ⟨by omega, by omega⟩) dX12_endLanding_47 ?_
        refine lv_topi (fun z86 ez86 => ?_)
        have jz86 : z86.toInt = mo_R g27 (547 + 84 * qs + 0) := mo_rd ez86 (by omega)
        have kz86 := hI.SA (s := qs) (by omega) (by omega)
        refine lv_aload_n hx hb dX12_endLanding_48 rfl (lv_at hl 1 rfl) ?_
        refine va_get (D := (dC, dI)) (ci := 12) (v := .ref (ρ h0 2)) (C := RX12) (T := TX12) (N := 53) hx hb hts hfX12 hown hK hP q29 eq29 rfl 2 (by decide) (hts (.fieldLink RX12 7 "ColdShipsModel" "row" "[I") wa_148) (fun _ h9 => h9) rfl dX12_endLanding_49 ?_
        refine lv_iload_n hx hb dX12_endLanding_52 rfl (lv_at hl 3 rfl) ?_
        refine lv_bipush (v := 23) hx hb dX12_endLanding_53 (by decide) ?_
        refine lv_iadd hx hb dX12_endLanding_55 ?_
        refine lv_topi (fun z87 ez87 => ?_)
        have iz87 : z87.toInt = us.toInt + 23 := zi_add ez87 rfl rfl (by omega) (by omega)
        refine va_iald hx hb hK hP q31 0 eq31 rfl (vp_in_iff.mpr ⟨by omega, by omega⟩) dX12_endLanding_56 ?_
        refine lv_topi (fun z88 ez88 => ?_)
        refine lv_aload_n hx hb dX12_endLanding_57 rfl (lv_at hl 1 rfl) ?_
        refine va_get (D := (dC, dI)) (ci := 12) (v := .ref (ρ h0 2)) (C := RX12) (T := TX12) (N := 53) hx hb hts hfX12 hown hK hP q29 eq29 rfl 2 (by decide) (hts (.fieldLink RX12 7 "ColdShipsModel" "row" "[I") wa_148) (fun _ h9 => h9) rfl dX12_endLanding_58 ?_
        refine lv_iload_n hx hb dX12_endLanding_61 rfl (lv_at hl 3 rfl) ?_
        refine lv_bipush (v := 24) hx hb dX12_endLanding_62 (by decide) ?_
        refine lv_iadd hx hb dX12_endLanding_64 ?_
        refine lv_topi (fun z89 ez89 => ?_)
        have iz89 : z89.toInt = us.toInt + 24 := zi_add ez89 rfl rfl (by omega) (by omega)
        refine va_iald hx hb hK hP q31 0 eq31 rfl (vp_in_iff.mpr ⟨by omega, by omega⟩) dX12_endLanding_65 ?_
        refine lv_topi (fun z90 ez90 => ?_)
        have jz90 : z90.toInt = mo_R g27 (547 + 84 * qs + 24) := mo_rd ez90 (by omega)
        have kz90 := hI.SL (s := qs) (by omega) (by omega)
        have hFc := tp_fr hD hS hA
        refine va_callv (va_runV (As := [.int z84, .int v, .int z86, .int z88, .int z90]) (rest := []) ⟨hx, hb, hml, hown, hts⟩ (t_X12_addFour l dC dI _ κ Θ τ ν ρ L f hG hT h0 z84 v z86 z88 z90 ht_h0 (by first | decide | omega)) (cwV 5 hts gX12_endLanding_X12_addFour rfl rfl rfl ⟨rfl, pd_X12_addFour⟩ ⟨Nat.le_of_ble_eq_true rfl, Nat.le_of_ble_eq_true rfl⟩) ⟨pz_blind, va_recv hK hP (ci := 12) (q0 := q29) rfl eq29, pz_pre hP hK hD hN⟩ rfl rfl hl.1 rfl (lv_room (Nat.le_of_ble_eq_true rfl)) dX12_endLanding_66 ⟨Nat.le_of_ble_eq_true rfl, Nat.le_of_ble_eq_true rfl⟩) hS (fun q _ h => hFc q h) hFc (fun f93 t H1 locs ht hvm hw92 hB hz1 hk1 hS => ?_)
        refine tn_3 hw92 (fun hT hF94 hw92p => ?_); clear hw92
        have hR := hR.then hF94 (by decide)
        have hP := hB.1; rw [ht] at hP; have hD := tp_ad f93 hD; clear hB hFc hz1 hk1; subst ht; generalize t.heap = H at hP hS ⊢
        rw [hf_o26, mo_i1] at hw92p
        obtain ⟨Q1_94, Q2_94, Q3_94, u1_94, u2_94, u3_94, u4_94⟩ := hw92p
        refine tpk_32 hT y1 (fun g96 hf_o95 => ?_)
        rw [hf_o95, mo_i1] at u4_94
        have hU : mo_U (mo_R g27) (Q1_94) (1051 + 16 * z80.toInt + 0) (v.toInt) := by have q9 := u1_94; rw [show z84.toInt = (1051 + 16 * z80.toInt + 0) by omega] at q9; exact q9
        have hI := mo_w_land hI hU z80.toInt (0) (by omega) (by omega) (by omega)
        have hKN := hKN.up hU (Or.inl (by omega))
        have pn97 : Q1_94 (1) = n1 := (hU.ne (by omega) (by omega)).trans en1.symm
        have pn98 : Q1_94 (11) = n11 := (hU.ne (by omega) (by omega)).trans en11.symm
        have pn99 : Q1_94 (547 + 84 * qs + 10) = ns10 := (hU.ne (by omega) (by omega)).trans ens10.symm
        have pn100 : Q1_94 (547 + 84 * qs + 22) = z32.toInt := (hU.ne (by omega) (by omega)).trans (jz32).symm
        have pn101 : Q1_94 (5) = z80.toInt := (hU.ne (by omega) (by omega)).trans (jz80).symm
        have pn102 : Q1_94 (1051 + 16 * z80.toInt + 0) = v.toInt := hU.eq (by omega)
        have hU : mo_U (Q1_94) (Q2_94) (1051 + 16 * z80.toInt + 1) (z86.toInt) := by have q9 := u2_94; rw [show z84.toInt + 1 = (1051 + 16 * z80.toInt + 1) by omega] at q9; exact q9
        have hI := mo_w_land hI hU z80.toInt (1) (by omega) (by omega) (by omega)
        have hKN := hKN.up hU (Or.inl (by omega))
        have pn103 : Q2_94 (1) = n1 := (hU.ne (by omega) (by omega)).trans pn97
        have pn104 : Q2_94 (11) = n11 := (hU.ne (by omega) (by omega)).trans pn98
        have pn105 : Q2_94 (547 + 84 * qs + 10) = ns10 := (hU.ne (by omega) (by omega)).trans pn99
        have pn106 : Q2_94 (547 + 84 * qs + 22) = z32.toInt := (hU.ne (by omega) (by omega)).trans pn100
        have pn107 : Q2_94 (5) = z80.toInt := (hU.ne (by omega) (by omega)).trans pn101
        have pn108 : Q2_94 (1051 + 16 * z80.toInt + 0) = v.toInt := (hU.ne (by omega) (by omega)).trans pn102
        clear pn97 pn98 pn99 pn100 pn101 pn102
        have hU : mo_U (Q2_94) (Q3_94) (1051 + 16 * z80.toInt + 2) (z88.toInt) := by have q9 := u3_94; rw [show z84.toInt + 2 = (1051 + 16 * z80.toInt + 2) by omega] at q9; exact q9
        have hI := mo_w_land hI hU z80.toInt (2) (by omega) (by omega) (by omega)
        have hKN := hKN.up hU (Or.inl (by omega))
        have pn109 : Q3_94 (1) = n1 := (hU.ne (by omega) (by omega)).trans pn103
        have pn110 : Q3_94 (11) = n11 := (hU.ne (by omega) (by omega)).trans pn104
        have pn111 : Q3_94 (547 + 84 * qs + 10) = ns10 := (hU.ne (by omega) (by omega)).trans pn105
        have pn112 : Q3_94 (547 + 84 * qs + 22) = z32.toInt := (hU.ne (by omega) (by omega)).trans pn106
        have pn113 : Q3_94 (5) = z80.toInt := (hU.ne (by omega) (by omega)).trans pn107
        have pn114 : Q3_94 (1051 + 16 * z80.toInt + 0) = v.toInt := (hU.ne (by omega) (by omega)).trans pn108
        clear pn103 pn104 pn105 pn106 pn107 pn108
        have hU : mo_U (Q3_94) (mo_R g96) (1051 + 16 * z80.toInt + 3) (z90.toInt) := by have q9 := u4_94; rw [show z84.toInt + 3 = (1051 + 16 * z80.toInt + 3) by omega] at q9; exact q9
        have hI := mo_w_land hI hU z80.toInt (3) (by omega) (by omega) (by omega)
        have hKN := hKN.up hU (Or.inl (by omega))
        have pn115 : mo_R g96 (1) = n1 := (hU.ne (by omega) (by omega)).trans pn109
        have pn116 : mo_R g96 (11) = n11 := (hU.ne (by omega) (by omega)).trans pn110
        have pn117 : mo_R g96 (547 + 84 * qs + 10) = ns10 := (hU.ne (by omega) (by omega)).trans pn111
        have pn118 : mo_R g96 (547 + 84 * qs + 22) = z32.toInt := (hU.ne (by omega) (by omega)).trans pn112
        have pn119 : mo_R g96 (5) = z80.toInt := (hU.ne (by omega) (by omega)).trans pn113
        have pn120 : mo_R g96 (1051 + 16 * z80.toInt + 0) = v.toInt := (hU.ne (by omega) (by omega)).trans pn114
        have pn121 : mo_R g96 (1051 + 16 * z80.toInt + 3) = z90.toInt := hU.eq (by omega)
        clear pn109 pn110 pn111 pn112 pn113 pn114
        refine lv_aload_n hx hb dX12_endLanding_69 rfl (lv_at hl 1 rfl) ?_
        have hf_122 : f93 h0 = .inr (12, [.int o28_x0, .int o28_x1, .ref (ρ h0 2), .ref (ρ h0 3), .ref (ρ h0 4), .ref (ρ h0 5), .ref (ρ h0 6), .int o28_x7, .ref (ρ h0 8), .int o28_x9, .int o28_x10, .int o28_x11, .int o28_x12, .long o28_x13, .int o28_x14, .int o28_x15, .int o28_x16, .int o28_x17, .int o28_x18, .int o28_x19, .int o28_x20, .ref (ρ h0 21), .int o28_x22, .ref (ρ h0 23), .ref (ρ h0 24), .int o28_x25, .ref (ρ h0 26), .ref (ρ h0 27), .int o28_x28, .int o28_x29, .ref (ρ h0 30), .ref (ρ h0 31), .int o28_x32, .long o28_x33, .long o28_x34, .long o28_x35, .int o28_x36, .int o28_x37, .int o28_x38, .ref (ρ h0 39), .ref (ρ h0 40), .ref (ρ h0 41), .ref (ρ h0 42), .ref (ρ h0 43), .ref (ρ h0 44), .ref (ρ h0 45), .ref (ρ h0 46), .int o28_x47, .int o28_x48, .ref (ρ h0 49), .ref (ρ h0 50), .ref (ρ h0 51), .ref (ρ h0 52)]) := (hF94 _ (by rw [ht_h0]; decide)).trans hf_o28
        refine tpk_pos (tp_in hG ht_h0 (by decide)) hf_122 (fun q123 eq123 => ?_)
        refine va_get (D := (dC, dI)) (ci := 12) (v := .ref (ρ h0 2)) (C := RX12) (T := TX12) (N := 53) hx hb hts hfX12 hown hK hP q123 eq123 rfl 2 (by decide) (hts (.fieldLink RX12 7 "ColdShipsModel" "row" "[I") wa_148) (fun _ h9 => h9) rfl dX12_endLanding_70 ?_
        refine lv_iload_n hx hb dX12_endLanding_73 rfl (lv_at hl 0 rfl) ?_
        refine lv_iconst (v := 4) hx hb dX12_endLanding_74 (by decide) ?_
        refine lv_iadd hx hb dX12_endLanding_75 ?_
        refine lv_topi (fun z124 ez124 => ?_)
        have iz124 : z124.toInt = z84.toInt + 4 := zi_add ez124 rfl rfl (by omega) (by omega)
        refine lv_aload_n hx hb dX12_endLanding_76 rfl (lv_at hl 1 rfl) ?_
        refine va_get (D := (dC, dI)) (ci := 12) (v := .ref (ρ h0 2)) (C := RX12) (T := TX12) (N := 53) hx hb hts hfX12 hown hK hP q123 eq123 rfl 2 (by decide) (hts (.fieldLink RX12 7 "ColdShipsModel" "row" "[I") wa_148) (fun _ h9 => h9) rfl dX12_endLanding_77 ?_
        refine lv_iload_n hx hb dX12_endLanding_80 rfl (lv_at hl 3 rfl) ?_
        refine lv_bipush (v := 22) hx hb dX12_endLanding_81 (by decide) ?_
        refine lv_iadd hx hb dX12_endLanding_83 ?_
        refine lv_topi (fun z125 ez125 => ?_)
        have iz125 : z125.toInt = us.toInt + 22 := zi_add ez125 rfl rfl (by omega) (by omega)
        refine tpk_pos (tp_in hG y1 (by decide)) hf_o95 (fun q126 eq126 => ?_)
        refine va_iald hx hb hK hP q126 0 eq126 rfl (vp_in_iff.mpr ⟨by omega, by omega⟩) dX12_endLanding_84 ?_
        refine lv_topi (fun z127 ez127 => ?_)
        have jz127 : z127.toInt = mo_R g96 (547 + 84 * qs + 22) := mo_rd ez127 (by omega)
        have vz127 : z127.toInt = z32.toInt := jz127.trans pn118
        refine va_iast hx hb hK hP hD hS q126 0 eq126 rfl (vp_in_iff.mpr ⟨by omega, by omega⟩) dX12_endLanding_85 (tp_k (.inl (κ 0, 12967, .inl (upd g96 z124.toNatClampNeg z127))) hD (tp_in hG y1 (by decide)) eq126 (fun f128 H locs hP hD hS g130 k129 => ?_))
        have hT := hT.up y1 g130 k129 tp_o32
        have hR := hR.up y1 (by decide) k129
        have hU : mo_U (mo_R g96) (mo_R (upd g96 z124.toNatClampNeg z127)) (1051 + 16 * z80.toInt + 4) (z127.toInt) := mo_up (by omega) (rfl : z127.toInt = _) (by omega)
        generalize (upd g96 z124.toNatClampNeg z127) = g131 at g130 hU
        have hI := mo_w_land hI hU z80.toInt (4) (by omega) (by omega) (by omega)
        have hKN := hKN.up hU (Or.inl (by omega))
        have pn132 : mo_R g131 (1) = n1 := (hU.ne (by omega) (by omega)).trans pn115
        have pn133 : mo_R g131 (11) = n11 := (hU.ne (by omega) (by omega)).trans pn116
        have pn134 : mo_R g131 (547 + 84 * qs + 10) = ns10 := (hU.ne (by omega) (by omega)).trans pn117
        have pn135 : mo_R g131 (547 + 84 * qs + 22) = z32.toInt := (hU.ne (by omega) (by omega)).trans pn118
        have pn136 : mo_R g131 (5) = z80.toInt := (hU.ne (by omega) (by omega)).trans pn119
        have pn137 : mo_R g131 (1051 + 16 * z80.toInt + 0) = v.toInt := (hU.ne (by omega) (by omega)).trans pn120
        have pn138 : mo_R g131 (1051 + 16 * z80.toInt + 3) = z90.toInt := (hU.ne (by omega) (by omega)).trans pn121
        have pn139 : mo_R g131 (1051 + 16 * z80.toInt + 4) = z127.toInt := hU.eq (by omega)
        clear pn115 pn116 pn117 pn118 pn119 pn120 pn121
        refine lv_iconst (v := 0) hx hb dX12_endLanding_86 (by decide) ?_
        refine lv_istore (lv' := [(4, .int 0), (3, .int z84), (0, .ref h0), (1, .int v), (2, .int us)]) hx hb dX12_endLanding_87 hl (by decide) rfl (fun ls hl => ?_)
        refine pz_loop (fun n0 H locs ls => ∃ f141 : Nat → va_E, ∃ w140 : Int32, n0 = (6 - (w140.toInt)).toNat ∧ tp_T (mo_O κ Θ) κ τ ν ρ f141 ∧ tp_F τ [32] f f141 ∧ ((mo_RI x b (mo_R (mo_i (f141 (ρ h0 2)))))) ∧ ((mo_KN (fun k => k = 5) (mo_R g27) (mo_R (mo_i (f141 (ρ h0 2)))))) ∧ (((mo_R (mo_i (f141 (ρ h0 2)))) (1) = n1)) ∧ (((mo_R (mo_i (f141 (ρ h0 2)))) (11) = n11)) ∧ (((mo_R (mo_i (f141 (ρ h0 2)))) (547 + 84 * qs + 10) = ns10)) ∧ (((mo_R (mo_i (f141 (ρ h0 2)))) (5) = z80.toInt)) ∧ (((mo_R (mo_i (f141 (ρ h0 2)))) (1051 + 16 * z80.toInt + 0) = v.toInt)) ∧ (((mo_R (mo_i (f141 (ρ h0 2)))) (1051 + 16 * z80.toInt + 3) = z90.toInt)) ∧ (((mo_R (mo_i (f141 (ρ h0 2)))) (1051 + 16 * z80.toInt + 4) = z127.toInt)) ∧ (0 ≤ w140.toInt ∧ w140.toInt ≤ 6) ∧ va_P (dC, dI) vwCl (va_pl L f141) H ∧ va_D A (va_pl L f141) ∧ va_S A s.heap H locs ∧ lv_has ls 5 [(4, .int w140), (3, .int z84), (0, .ref h0), (1, .int v), (2, .int us)]) ?_ _ _ _ _ ⟨f128, 0, rfl, hT, hR, (by rw [g130, mo_i1]; exact hI), (by rw [g130, mo_i1]; exact hKN), (by rw [g130, mo_i1]; have : (0 : Int32).toInt = 0 := rfl; omega), (by rw [g130, mo_i1]; have : (0 : Int32).toInt = 0 := rfl; omega), (by rw [g130, mo_i1]; have : (0 : Int32).toInt = 0 := rfl; omega), (by rw [g130, mo_i1]; have : (0 : Int32).toInt = 0 := rfl; omega), (by rw [g130, mo_i1]; have : (0 : Int32).toInt = 0 := rfl; omega), (by rw [g130, mo_i1]; have : (0 : Int32).toInt = 0 := rfl; omega), (by rw [g130, mo_i1]; have : (0 : Int32).toInt = 0 := rfl; omega), (by have : (0 : Int32).toInt = 0 := rfl; omega), hP, hD, hS, lv_sub hl [0, 1, 2, 3, 4] rfl⟩
        intro n0 H locs ls hI ih143
        refine Exists.elim hI (fun f141 hE90 => Exists.elim hE90 (fun w140 hE91 => tn_17 hE91 (fun hn144 hT hR hJ jf145 jf146 jf147 jf148 jf149 jf150 jf151 jf152 rw140 hP hD hS hl => ?_)))
        clear hE91 hE90 hI
        refine tpk_32 hT y1 (fun g154 hf_o153 => ?_)
        have hI : mo_RI x b (mo_R g154) := by have q9 := hJ; rw [hf_o153, mo_i1] at q9; exact q9
        rw [hf_o153, mo_i1] at jf145
        have hKN := jf145
        rw [hf_o153, mo_i1] at jf146
        rw [hf_o153, mo_i1] at jf147
        rw [hf_o153, mo_i1] at jf148
        rw [hf_o153, mo_i1] at jf149
        rw [hf_o153, mo_i1] at jf150
        rw [hf_o153, mo_i1] at jf151
        rw [hf_o153, mo_i1] at jf152
        refine lv_iload hx hb dX12_endLanding_89 (lv_at hl 0 rfl) ?_
        refine lv_bipush (v := 6) hx hb dX12_endLanding_91 (by decide) ?_
        refine lv_icmp_ge (tgt := 125) hx hb dX12_endLanding_93 (by decide) (fun c155 => ?_) (fun c155 => ?_)
        · have ic155 : w140.toInt ≥ 6 := zi_ge rfl rfl c155
          refine lv_aload_n hx hb dX12_endLanding_125 rfl (lv_at hl 2 rfl) ?_
          refine tpk_13 hT ht_h0 (fun o156_x0 o156_x1 o156_x7 o156_x9 o156_x10 o156_x11 o156_x12 o156_x13 o156_x14 o156_x15 o156_x16 o156_x17 o156_x18 o156_x19 o156_x20 o156_x22 o156_x25 o156_x28 o156_x29 o156_x32 o156_x33 o156_x34 o156_x35 o156_x36 o156_x37 o156_x38 o156_x47 o156_x48 hf_o156 ro156_0 ro156_1 ro156_2 ro156_3 ro156_4 ro156_5 ro156_6 ro156_7 ro156_8 ro156_9 ro156_10 ro156_11 ro156_12 ro156_13 ro156_14 => ?_)
          refine tpk_pos (tp_in hG ht_h0 (by decide)) hf_o156 (fun q157 eq157 => ?_)
          refine va_get (D := (dC, dI)) (ci := 12) (v := .ref (ρ h0 2)) (C := RX12) (T := TX12) (N := 53) hx hb hts hfX12 hown hK hP q157 eq157 rfl 2 (by decide) (hts (.fieldLink RX12 7 "ColdShipsModel" "row" "[I") wa_148) (fun _ h9 => h9) rfl dX12_endLanding_126 ?_
          refine lv_iload_n hx hb dX12_endLanding_129 rfl (lv_at hl 1 rfl) ?_
          refine lv_bipush (v := 11) hx hb dX12_endLanding_130 (by decide) ?_
          refine lv_iadd hx hb dX12_endLanding_132 ?_
          refine lv_topi (fun z158 ez158 => ?_)
          have iz158 : z158.toInt = z84.toInt + 11 := zi_add ez158 rfl rfl (by omega) (by omega)
          refine lv_iconst (v := (-1)) hx hb dX12_endLanding_133 (by decide) ?_
          refine tpk_pos (tp_in hG y1 (by decide)) hf_o153 (fun q159 eq159 => ?_)
          refine va_iast hx hb hK hP hD hS q159 0 eq159 rfl (vp_in_iff.mpr ⟨by omega, by omega⟩) dX12_endLanding_134 (tp_k (.inl (κ 0, 12967, .inl (upd g154 z158.toNatClampNeg ((-1) : Int32)))) hD (tp_in hG y1 (by decide)) eq159 (fun f160 H locs hP hD hS g162 k161 => ?_))
          have hT := hT.up y1 g162 k161 tp_o32
          have hR := hR.up y1 (by decide) k161
          have hU : mo_U (mo_R g154) (mo_R (upd g154 z158.toNatClampNeg ((-1) : Int32))) (1051 + 16 * z80.toInt + 11) ((-1)) := mo_up (by omega) (show ((-1) : Int32).toInt = (-1) from rfl) (by omega)
          generalize (upd g154 z158.toNatClampNeg ((-1) : Int32)) = g163 at g162 hU
          have hI := mo_w_land hI hU z80.toInt (11) (by omega) (by omega) (by omega)
          have hKN := hKN.up hU (Or.inl (by omega))
          have pn164 : mo_R g163 (1) = n1 := (hU.ne (by omega) (by omega)).trans jf146
          have pn165 : mo_R g163 (11) = n11 := (hU.ne (by omega) (by omega)).trans jf147
          have pn166 : mo_R g163 (547 + 84 * qs + 10) = ns10 := (hU.ne (by omega) (by omega)).trans jf148
          have pn167 : mo_R g163 (5) = z80.toInt := (hU.ne (by omega) (by omega)).trans jf149
          have pn168 : mo_R g163 (1051 + 16 * z80.toInt + 0) = v.toInt := (hU.ne (by omega) (by omega)).trans jf150
          have pn169 : mo_R g163 (1051 + 16 * z80.toInt + 3) = z90.toInt := (hU.ne (by omega) (by omega)).trans jf151
          have pn170 : mo_R g163 (1051 + 16 * z80.toInt + 4) = z127.toInt := (hU.ne (by omega) (by omega)).trans jf152
          refine lv_aload_n hx hb dX12_endLanding_135 rfl (lv_at hl 2 rfl) ?_
          have hf_171 : f160 h0 = .inr (12, [.int o156_x0, .int o156_x1, .ref (ρ h0 2), .ref (ρ h0 3), .ref (ρ h0 4), .ref (ρ h0 5), .ref (ρ h0 6), .int o156_x7, .ref (ρ h0 8), .int o156_x9, .int o156_x10, .int o156_x11, .int o156_x12, .long o156_x13, .int o156_x14, .int o156_x15, .int o156_x16, .int o156_x17, .int o156_x18, .int o156_x19, .int o156_x20, .ref (ρ h0 21), .int o156_x22, .ref (ρ h0 23), .ref (ρ h0 24), .int o156_x25, .ref (ρ h0 26), .ref (ρ h0 27), .int o156_x28, .int o156_x29, .ref (ρ h0 30), .ref (ρ h0 31), .int o156_x32, .long o156_x33, .long o156_x34, .long o156_x35, .int o156_x36, .int o156_x37, .int o156_x38, .ref (ρ h0 39), .ref (ρ h0 40), .ref (ρ h0 41), .ref (ρ h0 42), .ref (ρ h0 43), .ref (ρ h0 44), .ref (ρ h0 45), .ref (ρ h0 46), .int o156_x47, .int o156_x48, .ref (ρ h0 49), .ref (ρ h0 50), .ref (ρ h0 51), .ref (ρ h0 52)]) := (k161 _ (tp_ne ht_h0 y1 (by decide))).trans hf_o156
          refine tpk_pos (tp_in hG ht_h0 (by decide)) hf_171 (fun q172 eq172 => ?_)
          refine va_get (D := (dC, dI)) (ci := 12) (v := .ref (ρ h0 2)) (C := RX12) (T := TX12) (N := 53) hx hb hts hfX12 hown hK hP q172 eq172 rfl 2 (by decide) (hts (.fieldLink RX12 7 "ColdShipsModel" "row" "[I") wa_148) (fun _ h9 => h9) rfl dX12_endLanding_136 ?_
          refine lv_iload_n hx hb dX12_endLanding_139 rfl (lv_at hl 1 rfl) ?_
          refine lv_bipush (v := 12) hx hb dX12_endLanding_140 (by decide) ?_
          refine lv_iadd hx hb dX12_endLanding_142 ?_
          refine lv_topi (fun z173 ez173 => ?_)
          have iz173 : z173.toInt = z84.toInt + 12 := zi_add ez173 rfl rfl (by omega) (by omega)
          refine lv_iconst (v := (-1)) hx hb dX12_endLanding_143 (by decide) ?_
          refine tpk_pos (tp_in hG y1 (by decide)) g162 (fun q174 eq174 => ?_)
          refine va_iast hx hb hK hP hD hS q174 0 eq174 rfl (vp_in_iff.mpr ⟨by omega, by omega⟩) dX12_endLanding_144 (tp_k (.inl (κ 0, 12967, .inl (upd g163 z173.toNatClampNeg ((-1) : Int32)))) hD (tp_in hG y1 (by decide)) eq174 (fun f175 H locs hP hD hS g177 k176 => ?_))
          have hT := hT.up y1 g177 k176 tp_o32
          have hR := hR.up y1 (by decide) k176
          have hU : mo_U (mo_R g163) (mo_R (upd g163 z173.toNatClampNeg ((-1) : Int32))) (1051 + 16 * z80.toInt + 12) ((-1)) := mo_up (by omega) (show ((-1) : Int32).toInt = (-1) from rfl) (by omega)
          generalize (upd g163 z173.toNatClampNeg ((-1) : Int32)) = g178 at g177 hU
          have hI := mo_w_land hI hU z80.toInt (12) (by omega) (by omega) (by omega)
          have hKN := hKN.up hU (Or.inl (by omega))
          have pn179 : mo_R g178 (1) = n1 := (hU.ne (by omega) (by omega)).trans pn164
          have pn180 : mo_R g178 (11) = n11 := (hU.ne (by omega) (by omega)).trans pn165
          have pn181 : mo_R g178 (547 + 84 * qs + 10) = ns10 := (hU.ne (by omega) (by omega)).trans pn166
          have pn182 : mo_R g178 (5) = z80.toInt := (hU.ne (by omega) (by omega)).trans pn167
          have pn183 : mo_R g178 (1051 + 16 * z80.toInt + 0) = v.toInt := (hU.ne (by omega) (by omega)).trans pn168
          have pn184 : mo_R g178 (1051 + 16 * z80.toInt + 3) = z90.toInt := (hU.ne (by omega) (by omega)).trans pn169
          have pn185 : mo_R g178 (1051 + 16 * z80.toInt + 4) = z127.toInt := (hU.ne (by omega) (by omega)).trans pn170
          clear pn164 pn165 pn166 pn167 pn168 pn169 pn170
          refine lv_aload_n hx hb dX12_endLanding_145 rfl (lv_at hl 2 rfl) ?_
          have hf_186 : f175 h0 = .inr (12, [.int o156_x0, .int o156_x1, .ref (ρ h0 2), .ref (ρ h0 3), .ref (ρ h0 4), .ref (ρ h0 5), .ref (ρ h0 6), .int o156_x7, .ref (ρ h0 8), .int o156_x9, .int o156_x10, .int o156_x11, .int o156_x12, .long o156_x13, .int o156_x14, .int o156_x15, .int o156_x16, .int o156_x17, .int o156_x18, .int o156_x19, .int o156_x20, .ref (ρ h0 21), .int o156_x22, .ref (ρ h0 23), .ref (ρ h0 24), .int o156_x25, .ref (ρ h0 26), .ref (ρ h0 27), .int o156_x28, .int o156_x29, .ref (ρ h0 30), .ref (ρ h0 31), .int o156_x32, .long o156_x33, .long o156_x34, .long o156_x35, .int o156_x36, .int o156_x37, .int o156_x38, .ref (ρ h0 39), .ref (ρ h0 40), .ref (ρ h0 41), .ref (ρ h0 42), .ref (ρ h0 43), .ref (ρ h0 44), .ref (ρ h0 45), .ref (ρ h0 46), .int o156_x47, .int o156_x48, .ref (ρ h0 49), .ref (ρ h0 50), .ref (ρ h0 51), .ref (ρ h0 52)]) := (k176 _ (tp_ne ht_h0 y1 (by decide))).trans hf_171
          refine tpk_pos (tp_in hG ht_h0 (by decide)) hf_186 (fun q187 eq187 => ?_)
          refine va_get (D := (dC, dI)) (ci := 12) (v := .ref (ρ h0 2)) (C := RX12) (T := TX12) (N := 53) hx hb hts hfX12 hown hK hP q187 eq187 rfl 2 (by decide) (hts (.fieldLink RX12 7 "ColdShipsModel" "row" "[I") wa_148) (fun _ h9 => h9) rfl dX12_endLanding_146 ?_
          refine lv_iconst (v := 5) hx hb dX12_endLanding_149 (by decide) ?_
          refine lv_dup2_11 hx hb dX12_endLanding_150 rfl rfl ?_
          refine tpk_pos (tp_in hG y1 (by decide)) g177 (fun q188 eq188 => ?_)
          refine va_iald hx hb hK hP q188 0 eq188 rfl (vp_in_iff.mpr ⟨by decide, by decide⟩) dX12_endLanding_151 ?_
          refine lv_topi (fun z189 ez189 => ?_)
          have jz189 : z189.toInt = mo_R g178 (5) := mo_rd ez189 (show (5 : Int32).toInt = (5) from by decide)
          have kz189 := hI.k5
          have vz189 : z189.toInt = z80.toInt := jz189.trans pn182
          refine lv_iconst (v := 1) hx hb dX12_endLanding_152 (by decide) ?_
          refine lv_iadd hx hb dX12_endLanding_153 ?_
          refine lv_topi (fun z190 ez190 => ?_)
          have iz190 : z190.toInt = z189.toInt + 1 := zi_add ez190 rfl rfl (by omega) (by omega)
          refine va_iast hx hb hK hP hD hS q188 0 eq188 rfl (vp_in_iff.mpr ⟨by decide, by decide⟩) dX12_endLanding_154 (tp_k (.inl (κ 0, 12967, .inl (upd g178 (5 : Int32).toNatClampNeg z190))) hD (tp_in hG y1 (by decide)) eq188 (fun f191 H locs hP hD hS g193 k192 => ?_))
          have hT := hT.up y1 g193 k192 tp_o32
          have hR := hR.up y1 (by decide) k192
          have hU : mo_U (mo_R g178) (mo_R (upd g178 (5 : Int32).toNatClampNeg z190)) (5) (z190.toInt) := mo_up (show (5 : Int32).toInt = (5) from by decide) (rfl : z190.toInt = _) (by omega)
          generalize (upd g178 (5 : Int32).toNatClampNeg z190) = g194 at g193 hU
          have hI := mo_w_nL hI hU (z80.toInt) rfl pn182 (by omega) (by omega) (by omega) (by omega)
          have hKN := hKN.up hU (Or.inr (by show (5) = 5; omega))
          have pn195 : mo_R g194 (1) = n1 := (hU.ne (by omega) (by omega)).trans pn179
          have pn196 : mo_R g194 (11) = n11 := (hU.ne (by omega) (by omega)).trans pn180
          have pn197 : mo_R g194 (547 + 84 * qs + 10) = ns10 := (hU.ne (by omega) (by omega)).trans pn181
          have pn198 : mo_R g194 (1051 + 16 * z80.toInt + 0) = v.toInt := (hU.ne (by omega) (by omega)).trans pn183
          have pn199 : mo_R g194 (1051 + 16 * z80.toInt + 3) = z90.toInt := (hU.ne (by omega) (by omega)).trans pn184
          have pn200 : mo_R g194 (1051 + 16 * z80.toInt + 4) = z127.toInt := (hU.ne (by omega) (by omega)).trans pn185
          have pn201 : mo_R g194 (5) = z190.toInt := hU.eq (by omega)
          clear pn179 pn180 pn181 pn182 pn183 pn184 pn185
          exact hj33 _ _ _ _ ⟨f191, rfl, hT, hR, (by rw [g193, mo_i1]; exact hI), (by rw [g193, mo_i1]; exact hKN), (by rw [g193, mo_i1]; omega), (by rw [g193, mo_i1]; omega), (by rw [g193, mo_i1]; omega), hP, hD, hS, lv_sub hl [2, 3, 4] rfl⟩
        · have ic155 : w140.toInt < 6 := zi_gef rfl rfl c155
          refine lv_aload_n hx hb dX12_endLanding_96 rfl (lv_at hl 2 rfl) ?_
          refine tpk_13 hT ht_h0 (fun o202_x0 o202_x1 o202_x7 o202_x9 o202_x10 o202_x11 o202_x12 o202_x13 o202_x14 o202_x15 o202_x16 o202_x17 o202_x18 o202_x19 o202_x20 o202_x22 o202_x25 o202_x28 o202_x29 o202_x32 o202_x33 o202_x34 o202_x35 o202_x36 o202_x37 o202_x38 o202_x47 o202_x48 hf_o202 ro202_0 ro202_1 ro202_2 ro202_3 ro202_4 ro202_5 ro202_6 ro202_7 ro202_8 ro202_9 ro202_10 ro202_11 ro202_12 ro202_13 ro202_14 => ?_)
          refine tpk_pos (tp_in hG ht_h0 (by decide)) hf_o202 (fun q203 eq203 => ?_)
          refine va_get (D := (dC, dI)) (ci := 12) (v := .ref (ρ h0 2)) (C := RX12) (T := TX12) (N := 53) hx hb hts hfX12 hown hK hP q203 eq203 rfl 2 (by decide) (hts (.fieldLink RX12 7 "ColdShipsModel" "row" "[I") wa_148) (fun _ h9 => h9) rfl dX12_endLanding_97 ?_
          refine lv_iload_n hx hb dX12_endLanding_100 rfl (lv_at hl 1 rfl) ?_
          refine lv_iconst (v := 5) hx hb dX12_endLanding_101 (by decide) ?_
          refine lv_iadd hx hb dX12_endLanding_102 ?_
          refine lv_topi (fun z204 ez204 => ?_)
          have iz204 : z204.toInt = z84.toInt + 5 := zi_add ez204 rfl rfl (by omega) (by omega)
          refine lv_iload hx hb dX12_endLanding_103 (lv_at hl 0 rfl) ?_
          refine lv_iadd hx hb dX12_endLanding_105 ?_
          refine lv_topi (fun z205 ez205 => ?_)
          have iz205 : z205.toInt = z204.toInt + w140.toInt := zi_add ez205 rfl rfl (by omega) (by omega)
          refine lv_aload_n hx hb dX12_endLanding_106 rfl (lv_at hl 2 rfl) ?_
          refine va_get (D := (dC, dI)) (ci := 12) (v := .ref (ρ h0 2)) (C := RX12) (T := TX12) (N := 53) hx hb hts hfX12 hown hK hP q203 eq203 rfl 2 (by decide) (hts (.fieldLink RX12 7 "ColdShipsModel" "row" "[I") wa_148) (fun _ h9 => h9) rfl dX12_endLanding_107 ?_
          refine lv_iload_n hx hb dX12_endLanding_110 rfl (lv_at hl 4 rfl) ?_
          refine lv_bipush (v := 25) hx hb dX12_endLanding_111 (by decide) ?_
          refine lv_iadd hx hb dX12_endLanding_113 ?_
          refine lv_topi (fun z206 ez206 => ?_)
          have iz206 : z206.toInt = us.toInt + 25 := zi_add ez206 rfl rfl (by omega) (by omega)
          refine lv_iload hx hb dX12_endLanding_114 (lv_at hl 0 rfl) ?_
          refine lv_iadd hx hb dX12_endLanding_116 ?_
          refine lv_topi (fun z207 ez207 => ?_)
          have iz207 : z207.toInt = z206.toInt + w140.toInt := zi_add ez207 rfl rfl (by omega) (by omega)
          refine tpk_pos (tp_in hG y1 (by decide)) hf_o153 (fun q208 eq208 => ?_)
          refine va_iald hx hb hK hP q208 0 eq208 rfl (vp_in_iff.mpr ⟨by omega, by omega⟩) dX12_endLanding_117 ?_
          refine lv_topi (fun z209 ez209 => ?_)
          refine va_iast hx hb hK hP hD hS q208 0 eq208 rfl (vp_in_iff.mpr ⟨by omega, by omega⟩) dX12_endLanding_118 (tp_k (.inl (κ 0, 12967, .inl (upd g154 z205.toNatClampNeg z209))) hD (tp_in hG y1 (by decide)) eq208 (fun f210 H locs hP hD hS g212 k211 => ?_))
          have hT := hT.up y1 g212 k211 tp_o32
          have hR := hR.up y1 (by decide) k211
          have hU : mo_U (mo_R g154) (mo_R (upd g154 z205.toNatClampNeg z209)) (1051 + 16 * z80.toInt + 5 + w140.toInt) (z209.toInt) := mo_up (by omega) (rfl : z209.toInt = _) (by omega)
          generalize (upd g154 z205.toNatClampNeg z209) = g213 at g212 hU
          have hI := mo_w_land hI hU z80.toInt (5 + w140.toInt) (by omega) (by omega) (by omega)
          have hKN := hKN.up hU (Or.inl (by omega))
          have pn214 : mo_R g213 (1) = n1 := (hU.ne (by omega) (by omega)).trans jf146
          have pn215 : mo_R g213 (11) = n11 := (hU.ne (by omega) (by omega)).trans jf147
          have pn216 : mo_R g213 (547 + 84 * qs + 10) = ns10 := (hU.ne (by omega) (by omega)).trans jf148
          have pn217 : mo_R g213 (5) = z80.toInt := (hU.ne (by omega) (by omega)).trans jf149
          have pn218 : mo_R g213 (1051 + 16 * z80.toInt + 0) = v.toInt := (hU.ne (by omega) (by omega)).trans jf150
          have pn219 : mo_R g213 (1051 + 16 * z80.toInt + 3) = z90.toInt := (hU.ne (by omega) (by omega)).trans jf151
          have pn220 : mo_R g213 (1051 + 16 * z80.toInt + 4) = z127.toInt := (hU.ne (by omega) (by omega)).trans jf152
          obtain ⟨z221, ez221⟩ : ∃ y : Int32, y = w140 + 1 := ⟨_, rfl⟩
          refine lv_iinc (v := z221) (lv' := [(4, .int z221), (3, .int z84), (0, .ref h0), (1, .int v), (2, .int us)]) hx hb dX12_endLanding_119 hl (k := 0) rfl (by rw [ez221]; rfl) (by decide) rfl (fun ls hl => ?_)
          have iz221 : z221.toInt = w140.toInt + 1 := zi_add ez221 rfl rfl (by omega) (by omega)
          refine lv_goto (tgt := 89) hx hb dX12_endLanding_122 (by decide) ?_
          exact ih143 _ _ _ _ (by rw [hn144]; omega) ⟨f210, z221, rfl, hT, hR, (by rw [g212, mo_i1]; exact hI), (by rw [g212, mo_i1]; exact hKN), (by rw [g212, mo_i1]; omega), (by rw [g212, mo_i1]; omega), (by rw [g212, mo_i1]; omega), (by rw [g212, mo_i1]; omega), (by rw [g212, mo_i1]; omega), (by rw [g212, mo_i1]; omega), (by rw [g212, mo_i1]; omega), (by omega), hP, hD, hS, lv_sub hl [0, 1, 2, 3, 4] rfl⟩
end
section
set_option maxHeartbeats 4000000 in
set_option maxRecDepth 100000 in
theorem t_X12_sail (l : Launch) (dC : Nat → ClassId) (dI : Nat → Nat → Nat) (sz : Nat) (κ : Nat → ClassId) (Θ : Nat → Option Int) (τ ν : Nat → Nat) (ρ : Nat → Nat → Nat) (L : List Nat) (f : Nat → va_E) (hG : tp_G τ ν ρ L) (hT : tp_T (mo_O κ Θ) κ τ ν ρ f) (h0 : Nat) (us : Int32) (u : Int32) (a : Int32) (x : Int) (b : Int) (qs : Int) (ht_h0 : τ h0 = 13) (hr_u : 0 ≤ u.toInt ∧ u.toInt ≤ 2399) (hr_a : 0 ≤ a.toInt ∧ a.toInt ≤ 5) (hL_us : us.toInt = 547 + 84 * qs) (hq_us : 0 ≤ qs ∧ qs ≤ 5) (hbb : 0 ≤ b ∧ b ≤ 1000) (hJ : mo_RI x b (mo_R (mo_i (f (ρ h0 2))))) (ho : 1 ≤ (mo_R (mo_i (f (ρ h0 2)))) (547 + 84 * qs + 10)) (hn1 : qs < (mo_R (mo_i (f (ρ h0 2)))) (1)) : Met l yX12_sail wqX12_sail ({ frames := 4, cells := 0, slots := 0, locals := 1200 }) (va_Pc [.ref h0, .int us, .int u, .int a] (pz_B dC dI (tp_K κ) (va_pl L f) sz)) (va_Qv (fun (f1 : Nat → va_E) => tp_T (mo_O κ Θ) κ τ ν ρ f1 ∧ tp_F τ [13, 32] f f1 ∧ mo_RI x b (mo_R (mo_i (f1 (ρ h0 2)))) ∧ mo_KN (fun k => False) (mo_R (mo_i (f (ρ h0 2)))) (mo_R (mo_i (f1 (ρ h0 2)))) ∧ (mo_R (mo_i (f1 (ρ h0 2)))) (1) = (mo_R (mo_i (f (ρ h0 2)))) (1) ∧ (mo_R (mo_i (f1 (ρ h0 2)))) (11) = (mo_R (mo_i (f (ρ h0 2)))) (11)) (fun (f1 : Nat → va_E) (t : State) => pz_E dC dI (tp_K κ) (va_A (va_pl L f) sz) (va_pl L f1) t) (va_A (va_pl L f) sz)) 0 0 (va_A (va_pl L f) sz) := by
  refine Met.ofW (cc := cX12_sail) (maxL := 5) (ret := none) (by decide) rfl ?_
  intro p e s m args below meth c s₁ B hml hv
  obtain ⟨rfl, hsz, hP, hK, hD0, hN⟩ := hv
  have hx := B.exec
  have hb := B.bytes
  have hr := B.returns
  have hts := fun (w : Cond) (h : w ∈ WALL) => atoms_spec (ws := wqX12_sail) B.pre w (List.mem_cons_of_mem _ h)
  have hown : s.vm.findClass RX12 = some m.cls := findClass_of_methodNamed B.named
  have hlocks := B.notSynchronized
  subst hsz
  have hD := hD0.self (sz := s.heap.size)
  generalize hAe : va_A (va_pl L f) s.heap.size = A at hD ⊢
  have hA : ∀ q : Nat, s.heap.size ≤ q → A q := fun q h => by rw [← hAe]; exact Or.inr h
  have hS : va_S A s.heap s.heap [] := va_S.rf
  have hR : tp_F τ [13, 32] f f := tp_F.rf
  have hl := lv_entry ([.ref h0, .int us, .int u, .int a]) (n := 5) (Nat.le_of_ble_eq_true rfl)
  rw [lg_entry_eq]
  generalize (lg_sl ([.ref h0, .int us, .int u, .int a]) ++ List.replicate (5 - (lg_sl ([.ref h0, .int us, .int u, .int a])).length) Slot.unset).toArray = ls at hl ⊢
  have hl : lv_has ls 5 [(0, .ref h0), (1, .int us), (2, .int u), (3, .int a)] := hl
  refine tgk_13 hG ht_h0 (fun y1 y2 y3 y4 y5 y6 y7 y8 y9 y10 y11 y12 y13 y14 y15 y16 y17 y18 y19 y20 y21 y22 y23 y24 y25 => ?_)
  refine tpk_32 hT y1 (fun g27 hf_o26 => ?_)
  have hI : mo_RI x b (mo_R g27) := by have q9 := hJ; rw [hf_o26, mo_i1] at q9; exact q9
  rw [hf_o26, mo_i1] at ho
  rw [hf_o26, mo_i1] at hn1
  obtain ⟨n1, en1⟩ : ∃ n : Int, n = mo_R g27 (1) := ⟨_, rfl⟩
  have kn1 := hI.k1
  obtain ⟨n11, en11⟩ : ∃ n : Int, n = mo_R g27 (11) := ⟨_, rfl⟩
  have kn11 := hI.k11
  obtain ⟨ns10, ens10⟩ : ∃ n : Int, n = mo_R g27 (547 + 84 * qs + 10) := ⟨_, rfl⟩
  have hKN : mo_KN (fun k => False) (mo_R g27) (mo_R g27) := mo_KN.rf
  refine lv_aload_n hx hb dX12_sail_0 rfl (lv_at hl 0 rfl) ?_
  refine tpk_13 hT ht_h0 (fun o28_x0 o28_x1 o28_x7 o28_x9 o28_x10 o28_x11 o28_x12 o28_x13 o28_x14 o28_x15 o28_x16 o28_x17 o28_x18 o28_x19 o28_x20 o28_x22 o28_x25 o28_x28 o28_x29 o28_x32 o28_x33 o28_x34 o28_x35 o28_x36 o28_x37 o28_x38 o28_x47 o28_x48 hf_o28 ro28_0 ro28_1 ro28_2 ro28_3 ro28_4 ro28_5 ro28_6 ro28_7 ro28_8 ro28_9 ro28_10 ro28_11 ro28_12 ro28_13 ro28_14 => ?_)
  refine tpk_pos (tp_in hG ht_h0 (by decide)) hf_o28 (fun q29 eq29 => ?_)
  refine va_get (D := (dC, dI)) (ci := 12) (v := .ref (ρ h0 2)) (C := RX12) (T := TX12) (N := 53) hx hb hts hfX12 hown hK hP q29 eq29 rfl 2 (by decide) (hts (.fieldLink RX12 7 "ColdShipsModel" "row" "[I") wa_148) (fun _ h9 => h9) rfl dX12_sail_1 ?_
  refine lv_iload_n hx hb dX12_sail_4 rfl (lv_at hl 1 rfl) ?_
  refine lv_iconst (v := 1) hx hb dX12_sail_5 (by decide) ?_
  refine lv_iadd hx hb dX12_sail_6 ?_
  refine lv_topi (fun z30 ez30 => ?_)
  have iz30 : z30.toInt = us.toInt + 1 := zi_add ez30 rfl rfl (by omega) (by omega)
  refine tpk_pos (tp_in hG y1 (by decide)) hf_o26 (fun q31 eq31 => ?_)
  refine va_iald hx hb hK hP q31 0 eq31 rfl (vp_in_iff.mpr ⟨by omega, by omega⟩) dX12_sail_7 ?_
  refine lv_topi (fun z32 ez32 => ?_)
  refine tp_join 112 (fun H locs ls stk => ∃ f34 : Nat → va_E, stk = [] ∧ tp_T (mo_O κ Θ) κ τ ν ρ f34 ∧ tp_F τ [13, 32] f f34 ∧ ((mo_RI x b (mo_R (mo_i (f34 (ρ h0 2)))))) ∧ ((mo_KN (fun k => False) (mo_R g27) (mo_R (mo_i (f34 (ρ h0 2)))))) ∧ (((mo_R (mo_i (f34 (ρ h0 2)))) (1) = n1)) ∧ (((mo_R (mo_i (f34 (ρ h0 2)))) (11) = n11)) ∧ (((mo_R (mo_i (f34 (ρ h0 2)))) (547 + 84 * qs + 10) = ns10)) ∧ va_P (dC, dI) vwCl (va_pl L f34) H ∧ va_D A (va_pl L f34) ∧ va_S A s.heap H locs ∧ lv_has ls 5 [(0, .ref h0), (1, .int us), (2, .int u), (3, .int a)]) ?_ (fun hj33 => ?_)
  · intro H locs ls stk hI
    refine Exists.elim hI (fun f34 hE90 => tn_12 hE90 (fun e90 hT hR hJ jf36 jf37 jf38 jf39 hP hD hS hl => ?_))
    clear hE90 hI; subst e90
    refine tpk_32 hT y1 (fun g41 hf_o40 => ?_)
    have hI : mo_RI x b (mo_R g41) := by have q9 := hJ; rw [hf_o40, mo_i1] at q9; exact q9
    rw [hf_o40, mo_i1] at jf36
    have hKN := jf36
    rw [hf_o40, mo_i1] at jf37
    rw [hf_o40, mo_i1] at jf38
    rw [hf_o40, mo_i1] at jf39
    refine lv_aload_n hx hb dX12_sail_112 rfl (lv_at hl 0 rfl) ?_
    refine tpk_13 hT ht_h0 (fun o42_x0 o42_x1 o42_x7 o42_x9 o42_x10 o42_x11 o42_x12 o42_x13 o42_x14 o42_x15 o42_x16 o42_x17 o42_x18 o42_x19 o42_x20 o42_x22 o42_x25 o42_x28 o42_x29 o42_x32 o42_x33 o42_x34 o42_x35 o42_x36 o42_x37 o42_x38 o42_x47 o42_x48 hf_o42 ro42_0 ro42_1 ro42_2 ro42_3 ro42_4 ro42_5 ro42_6 ro42_7 ro42_8 ro42_9 ro42_10 ro42_11 ro42_12 ro42_13 ro42_14 => ?_)
    refine tpk_pos (tp_in hG ht_h0 (by decide)) hf_o42 (fun q43 eq43 => ?_)
    refine va_get (D := (dC, dI)) (ci := 12) (v := .ref (ρ h0 2)) (C := RX12) (T := TX12) (N := 53) hx hb hts hfX12 hown hK hP q43 eq43 rfl 2 (by decide) (hts (.fieldLink RX12 7 "ColdShipsModel" "row" "[I") wa_148) (fun _ h9 => h9) rfl dX12_sail_113 ?_
    refine lv_iload_n hx hb dX12_sail_116 rfl (lv_at hl 1 rfl) ?_
    refine lv_bipush (v := 9) hx hb dX12_sail_117 (by decide) ?_
    refine lv_iadd hx hb dX12_sail_119 ?_
    refine lv_topi (fun z44 ez44 => ?_)
    have iz44 : z44.toInt = us.toInt + 9 := zi_add ez44 rfl rfl (by omega) (by omega)
    refine tpk_pos (tp_in hG y1 (by decide)) hf_o40 (fun q45 eq45 => ?_)
    refine va_iald hx hb hK hP q45 0 eq45 rfl (vp_in_iff.mpr ⟨by omega, by omega⟩) dX12_sail_120 ?_
    refine lv_topi (fun z46 ez46 => ?_)
    refine lv_iconst (v := 1) hx hb dX12_sail_121 (by decide) ?_
    refine lv_icmp_eq (tgt := 150) hx hb dX12_sail_122 (by decide) (fun c47 => ?_) (fun c47 => ?_)
    · have ic47 : z46.toInt = 1 := zi_eq rfl rfl c47
      exact W.vret hx hb hr (fun t ht hW => ⟨⟨f34, rfl, ⟨hT, hR, ⟨(by rw [hf_o40, mo_i1]; exact hI), (by rw [hf_o40, mo_i1, hf_o26, mo_i1]; exact hKN), (by first | (simp only [hf_o40, hf_o26, mo_i1]; omega) | (simp only [hf_o40, hf_o26, mo_i1]; trivial) | (simp only [hf_o40, hf_o26, mo_i1]; done) | omega)⟩⟩, by rw [ht]; exact hP, va_K.moved hW.alike hK, hD⟩, hS.F ht⟩) hS.2.2 dX12_sail_150
    · have ic47 : z46.toInt ≠ 1 := zi_eqf rfl rfl c47
      refine lv_aload_n hx hb dX12_sail_125 rfl (lv_at hl 0 rfl) ?_
      refine va_get (D := (dC, dI)) (ci := 12) (v := .ref (ρ h0 2)) (C := RX12) (T := TX12) (N := 53) hx hb hts hfX12 hown hK hP q43 eq43 rfl 2 (by decide) (hts (.fieldLink RX12 7 "ColdShipsModel" "row" "[I") wa_148) (fun _ h9 => h9) rfl dX12_sail_126 ?_
      refine lv_sipush (v := 147) hx hb dX12_sail_129 (by decide) ?_
      refine lv_iload_n hx hb dX12_sail_132 rfl (lv_at hl 2 rfl) ?_
      refine lv_bipush (v := 24) hx hb dX12_sail_133 (by decide) ?_
      refine lv_idiv hx hb dX12_sail_135 (by decide) ?_
      refine lv_topi (fun z48 ez48 => ?_)
      have iz48 : z48.toInt = u.toInt / 24 := zi_div ez48 rfl (show (24 : Int32).toInt = 24 from rfl) (by omega) (by omega)
      refine lv_iadd hx hb dX12_sail_136 ?_
      refine lv_topi (fun z49 ez49 => ?_)
      have iz49 : z49.toInt = 147 + z48.toInt := zi_add ez49 rfl rfl (by omega) (by omega)
      refine va_iald hx hb hK hP q45 0 eq45 rfl (vp_in_iff.mpr ⟨by omega, by omega⟩) dX12_sail_137 ?_
      refine lv_topi (fun z50 ez50 => ?_)
      have jz50 : z50.toInt = mo_R g41 (147 + z48.toInt) := mo_rd ez50 (by omega)
      have kz50 := hI.E (d := z48.toInt) (by omega) (by omega)
      refine lv_bipush (v := 6) hx hb dX12_sail_138 (by decide) ?_
      refine tp_join 151 (fun H locs ls stk => stk = [] ∧ va_P (dC, dI) vwCl (va_pl L f34) H ∧ va_D A (va_pl L f34) ∧ va_S A s.heap H locs ∧ lv_has ls 5 [(0, .ref h0), (1, .int us), (2, .int u), (3, .int a)]) ?_ (fun hj51 => ?_)
      · intro H locs ls stk hI
        refine tn_5 hI (fun e90 hP hD hS hl => ?_)
        clear hI; subst e90
        refine lv_aload_n hx hb dX12_sail_151 rfl (lv_at hl 0 rfl) ?_
        refine va_get (D := (dC, dI)) (ci := 12) (v := .ref (ρ h0 2)) (C := RX12) (T := TX12) (N := 53) hx hb hts hfX12 hown hK hP q43 eq43 rfl 2 (by decide) (hts (.fieldLink RX12 7 "ColdShipsModel" "row" "[I") wa_148) (fun _ h9 => h9) rfl dX12_sail_152 ?_
        refine lv_iload_n hx hb dX12_sail_155 rfl (lv_at hl 1 rfl) ?_
        refine lv_iconst (v := 3) hx hb dX12_sail_156 (by decide) ?_
        refine lv_iadd hx hb dX12_sail_157 ?_
        refine lv_topi (fun z52 ez52 => ?_)
        have iz52 : z52.toInt = us.toInt + 3 := zi_add ez52 rfl rfl (by omega) (by omega)
        refine va_iald hx hb hK hP q45 0 eq45 rfl (vp_in_iff.mpr ⟨by omega, by omega⟩) dX12_sail_158 ?_
        refine lv_topi (fun z53 ez53 => ?_)
        refine lv_iconst (v := 1) hx hb dX12_sail_159 (by decide) ?_
        refine tp_join 224 (fun H locs ls stk => ∃ f55 : Nat → va_E, stk = [] ∧ tp_T (mo_O κ Θ) κ τ ν ρ f55 ∧ tp_F τ [13, 32] f f55 ∧ ((mo_RI x b (mo_R (mo_i (f55 (ρ h0 2)))))) ∧ ((mo_KN (fun k => False) (mo_R g27) (mo_R (mo_i (f55 (ρ h0 2)))))) ∧ (((mo_R (mo_i (f55 (ρ h0 2)))) (1) = n1)) ∧ (((mo_R (mo_i (f55 (ρ h0 2)))) (11) = n11)) ∧ (((mo_R (mo_i (f55 (ρ h0 2)))) (547 + 84 * qs + 10) = ns10)) ∧ va_P (dC, dI) vwCl (va_pl L f55) H ∧ va_D A (va_pl L f55) ∧ va_S A s.heap H locs ∧ lv_has ls 5 [(0, .ref h0), (1, .int us), (2, .int u), (3, .int a)]) ?_ (fun hj54 => ?_)
        · intro H locs ls stk hI
          refine Exists.elim hI (fun f55 hE90 => tn_12 hE90 (fun e90 hT hR hJ jf57 jf58 jf59 jf60 hP hD hS hl => ?_))
          clear hE90 hI; subst e90
          refine tpk_32 hT y1 (fun g62 hf_o61 => ?_)
          have hI : mo_RI x b (mo_R g62) := by have q9 := hJ; rw [hf_o61, mo_i1] at q9; exact q9
          rw [hf_o61, mo_i1] at jf57
          have hKN := jf57
          rw [hf_o61, mo_i1] at jf58
          rw [hf_o61, mo_i1] at jf59
          rw [hf_o61, mo_i1] at jf60
          refine lv_aload_n hx hb dX12_sail_224 rfl (lv_at hl 0 rfl) ?_
          refine tpk_13 hT ht_h0 (fun o63_x0 o63_x1 o63_x7 o63_x9 o63_x10 o63_x11 o63_x12 o63_x13 o63_x14 o63_x15 o63_x16 o63_x17 o63_x18 o63_x19 o63_x20 o63_x22 o63_x25 o63_x28 o63_x29 o63_x32 o63_x33 o63_x34 o63_x35 o63_x36 o63_x37 o63_x38 o63_x47 o63_x48 hf_o63 ro63_0 ro63_1 ro63_2 ro63_3 ro63_4 ro63_5 ro63_6 ro63_7 ro63_8 ro63_9 ro63_10 ro63_11 ro63_12 ro63_13 ro63_14 => ?_)
          refine tpk_pos (tp_in hG ht_h0 (by decide)) hf_o63 (fun q64 eq64 => ?_)
          refine va_get (D := (dC, dI)) (ci := 12) (v := .ref (ρ h0 2)) (C := RX12) (T := TX12) (N := 53) hx hb hts hfX12 hown hK hP q64 eq64 rfl 2 (by decide) (hts (.fieldLink RX12 7 "ColdShipsModel" "row" "[I") wa_148) (fun _ h9 => h9) rfl dX12_sail_225 ?_
          refine lv_iload_n hx hb dX12_sail_228 rfl (lv_at hl 1 rfl) ?_
          refine lv_iconst (v := 1) hx hb dX12_sail_229 (by decide) ?_
          refine lv_iadd hx hb dX12_sail_230 ?_
          refine lv_topi (fun z65 ez65 => ?_)
          have iz65 : z65.toInt = us.toInt + 1 := zi_add ez65 rfl rfl (by omega) (by omega)
          refine lv_dup2_11 hx hb dX12_sail_231 rfl rfl ?_
          refine tpk_pos (tp_in hG y1 (by decide)) hf_o61 (fun q66 eq66 => ?_)
          refine va_iald hx hb hK hP q66 0 eq66 rfl (vp_in_iff.mpr ⟨by omega, by omega⟩) dX12_sail_232 ?_
          refine lv_topi (fun z67 ez67 => ?_)
          refine lv_iconst (v := 1) hx hb dX12_sail_233 (by decide) ?_
          refine lv_isub hx hb dX12_sail_234 ?_
          refine lv_topi (fun z68 ez68 => ?_)
          refine va_iast hx hb hK hP hD hS q66 0 eq66 rfl (vp_in_iff.mpr ⟨by omega, by omega⟩) dX12_sail_235 (tp_k (.inl (κ 0, 12967, .inl (upd g62 z65.toNatClampNeg z68))) hD (tp_in hG y1 (by decide)) eq66 (fun f69 H locs hP hD hS g71 k70 => ?_))
          have hT := hT.up y1 g71 k70 tp_o32
          have hR := hR.up y1 (by decide) k70
          have hU : mo_U (mo_R g62) (mo_R (upd g62 z65.toNatClampNeg z68)) (547 + 84 * qs + 1) (z68.toInt) := mo_up (by omega) (rfl : z68.toInt = _) (by omega)
          generalize (upd g62 z65.toNatClampNeg z68) = g72 at g71 hU
          have hI := mo_w_sfree hI hU qs 1 (by omega) (by omega) (by omega)
          have hKN := hKN.up hU (Or.inl (by omega))
          have pn73 : mo_R g72 (1) = n1 := (hU.ne (by omega) (by omega)).trans jf58
          have pn74 : mo_R g72 (11) = n11 := (hU.ne (by omega) (by omega)).trans jf59
          have pn75 : mo_R g72 (547 + 84 * qs + 10) = ns10 := (hU.ne (by omega) (by omega)).trans jf60
          refine lv_aload_n hx hb dX12_sail_236 rfl (lv_at hl 0 rfl) ?_
          have hf_76 : f69 h0 = .inr (12, [.int o63_x0, .int o63_x1, .ref (ρ h0 2), .ref (ρ h0 3), .ref (ρ h0 4), .ref (ρ h0 5), .ref (ρ h0 6), .int o63_x7, .ref (ρ h0 8), .int o63_x9, .int o63_x10, .int o63_x11, .int o63_x12, .long o63_x13, .int o63_x14, .int o63_x15, .int o63_x16, .int o63_x17, .int o63_x18, .int o63_x19, .int o63_x20, .ref (ρ h0 21), .int o63_x22, .ref (ρ h0 23), .ref (ρ h0 24), .int o63_x25, .ref (ρ h0 26), .ref (ρ h0 27), .int o63_x28, .int o63_x29, .ref (ρ h0 30), .ref (ρ h0 31), .int o63_x32, .long o63_x33, .long o63_x34, .long o63_x35, .int o63_x36, .int o63_x37, .int o63_x38, .ref (ρ h0 39), .ref (ρ h0 40), .ref (ρ h0 41), .ref (ρ h0 42), .ref (ρ h0 43), .ref (ρ h0 44), .ref (ρ h0 45), .ref (ρ h0 46), .int o63_x47, .int o63_x48, .ref (ρ h0 49), .ref (ρ h0 50), .ref (ρ h0 51), .ref (ρ h0 52)]) := (k70 _ (tp_ne ht_h0 y1 (by decide))).trans hf_o63
          refine tpk_pos (tp_in hG ht_h0 (by decide)) hf_76 (fun q77 eq77 => ?_)
          refine va_get (D := (dC, dI)) (ci := 12) (v := .ref (ρ h0 2)) (C := RX12) (T := TX12) (N := 53) hx hb hts hfX12 hown hK hP q77 eq77 rfl 2 (by decide) (hts (.fieldLink RX12 7 "ColdShipsModel" "row" "[I") wa_148) (fun _ h9 => h9) rfl dX12_sail_237 ?_
          refine lv_iload_n hx hb dX12_sail_240 rfl (lv_at hl 1 rfl) ?_
          refine lv_iconst (v := 1) hx hb dX12_sail_241 (by decide) ?_
          refine lv_iadd hx hb dX12_sail_242 ?_
          refine lv_topi (fun z78 ez78 => ?_)
          have iz78 : z78.toInt = us.toInt + 1 := zi_add ez78 rfl rfl (by omega) (by omega)
          refine tpk_pos (tp_in hG y1 (by decide)) g71 (fun q79 eq79 => ?_)
          refine va_iald hx hb hK hP q79 0 eq79 rfl (vp_in_iff.mpr ⟨by omega, by omega⟩) dX12_sail_243 ?_
          refine lv_topi (fun z80 ez80 => ?_)
          refine lv_if_ne (tgt := 252) hx hb dX12_sail_244 (by decide) (fun c81 => ?_) (fun c81 => ?_)
          · have ic81 : z80.toInt ≠ 0 := zi_ne rfl rfl c81
            exact W.vret hx hb hr (fun t ht hW => ⟨⟨f69, rfl, ⟨hT, hR, ⟨(by rw [g71, mo_i1]; exact hI), (by rw [g71, mo_i1, hf_o26, mo_i1]; exact hKN), (by first | (simp only [g71, hf_o26, mo_i1]; omega) | (simp only [g71, hf_o26, mo_i1]; trivial) | (simp only [g71, hf_o26, mo_i1]; done) | omega)⟩⟩, by rw [ht]; exact hP, va_K.moved hW.alike hK, hD⟩, hS.F ht⟩) hS.2.2 dX12_sail_252
          · have ic81 : z80.toInt = 0 := zi_nef rfl rfl c81
            refine lv_aload_n hx hb dX12_sail_247 rfl (lv_at hl 0 rfl) ?_
            refine lv_iload_n hx hb dX12_sail_248 rfl (lv_at hl 1 rfl) ?_
            have hFc := tp_fr hD hS hA
            refine va_callv (va_runV (As := [.int us]) (rest := []) ⟨hx, hb, hml, hown, hts⟩ (t_X12_endOrder l dC dI _ κ Θ τ ν ρ L f69 hG hT h0 us x b qs ht_h0 (by omega) (by omega) (by omega) (by rw [g71, mo_i1]; exact hI) (by first | (simp only [g71, hf_o26, mo_i1]; omega) | (simp only [g71, hf_o26, mo_i1]; trivial) | (simp only [g71, hf_o26, mo_i1]; done) | omega) (by first | (simp only [g71, hf_o26, mo_i1]; omega) | (simp only [g71, hf_o26, mo_i1]; trivial) | (simp only [g71, hf_o26, mo_i1]; done) | omega)) (cwV 1 hts gX12_sail_X12_endOrder rfl rfl rfl ⟨rfl, pd_X12_endOrder⟩ ⟨Nat.le_of_ble_eq_true rfl, Nat.le_of_ble_eq_true rfl⟩) ⟨pz_blind, va_recv hK hP (ci := 12) (q0 := q77) rfl eq77, pz_pre hP hK hD hN⟩ rfl rfl hl.1 rfl (lv_room (Nat.le_of_ble_eq_true rfl)) dX12_sail_249 ⟨Nat.le_of_ble_eq_true rfl, Nat.le_of_ble_eq_true rfl⟩) hS (fun q _ h => hFc q h) hFc (fun f84 t H1 locs ht hvm hw83 hB hz1 hk1 hS => ?_)
            refine tn_3 hw83 (fun hT hF85 hw83p => ?_); clear hw83
            have hR := hR.then hF85 (by decide)
            have hP := hB.1; rw [ht] at hP; have hD := tp_ad f84 hD; clear hB hFc hz1 hk1; subst ht; generalize t.heap = H at hP hS ⊢
            obtain ⟨hJ, hw83pe⟩ := hw83p
            refine tpk_32 hT y1 (fun g87 hf_o86 => ?_)
            have hI : mo_RI x b (mo_R g87) := by have q9 := hJ; rw [hf_o86, mo_i1] at q9; exact q9
            rw [g71, mo_i1] at hw83pe
            rw [hf_o86, mo_i1] at hw83pe
            obtain ⟨hw83pek, hw83peq⟩ := hw83pe
            have hKN := hKN.th hw83pek (fun k q9 => False.elim q9)
            have pn88 : mo_R g87 (1) = n1 := (hw83peq.1).trans pn73
            have pn89 : mo_R g87 (11) = n11 := (hw83peq.2).trans pn74
            clear pn73 pn74 pn75
            exact W.vret hx hb hr (fun t ht hW => ⟨⟨f84, rfl, ⟨hT, hR, ⟨(by rw [hf_o86, mo_i1]; exact hI), (by rw [hf_o86, mo_i1, hf_o26, mo_i1]; exact hKN), (by first | (simp only [hf_o86, hf_o26, mo_i1]; omega) | (simp only [hf_o86, hf_o26, mo_i1]; trivial) | (simp only [hf_o86, hf_o26, mo_i1]; done) | omega)⟩⟩, by rw [ht]; exact hP, va_K.moved hW.alike hK, hD⟩, hS.F ht⟩) hS.2.2 dX12_sail_252
        · refine lv_icmp_ne (tgt := 224) hx hb dX12_sail_160 (by decide) (fun c90 => ?_) (fun c90 => ?_)
          · have ic90 : z53.toInt ≠ 1 := zi_ne rfl rfl c90
            exact hj54 _ _ _ _ ⟨f34, rfl, hT, hR, (by rw [hf_o40, mo_i1]; exact hI), (by rw [hf_o40, mo_i1]; exact hKN), (by rw [hf_o40, mo_i1]; omega), (by rw [hf_o40, mo_i1]; omega), (by rw [hf_o40, mo_i1]; omega), hP, hD, hS, lv_sub hl [0, 1, 2, 3] rfl⟩
          · have ic90 : z53.toInt = 1 := zi_nef rfl rfl c90
            refine lv_aload_n hx hb dX12_sail_163 rfl (lv_at hl 0 rfl) ?_
            refine va_get (D := (dC, dI)) (ci := 12) (v := .ref (ρ h0 2)) (C := RX12) (T := TX12) (N := 53) hx hb hts hfX12 hown hK hP q43 eq43 rfl 2 (by decide) (hts (.fieldLink RX12 7 "ColdShipsModel" "row" "[I") wa_148) (fun _ h9 => h9) rfl dX12_sail_164 ?_
            refine lv_iload_n hx hb dX12_sail_167 rfl (lv_at hl 1 rfl) ?_
            refine lv_iconst (v := 1) hx hb dX12_sail_168 (by decide) ?_
            refine lv_iadd hx hb dX12_sail_169 ?_
            refine lv_topi (fun z91 ez91 => ?_)
            have iz91 : z91.toInt = us.toInt + 1 := zi_add ez91 rfl rfl (by omega) (by omega)
            refine va_iald hx hb hK hP q45 0 eq45 rfl (vp_in_iff.mpr ⟨by omega, by omega⟩) dX12_sail_170 ?_
            refine lv_topi (fun z92 ez92 => ?_)
            refine lv_aload_n hx hb dX12_sail_171 rfl (lv_at hl 0 rfl) ?_
            refine va_get (D := (dC, dI)) (ci := 12) (v := .ref (ρ h0 2)) (C := RX12) (T := TX12) (N := 53) hx hb hts hfX12 hown hK hP q43 eq43 rfl 2 (by decide) (hts (.fieldLink RX12 7 "ColdShipsModel" "row" "[I") wa_148) (fun _ h9 => h9) rfl dX12_sail_172 ?_
            refine lv_iload_n hx hb dX12_sail_175 rfl (lv_at hl 1 rfl) ?_
            refine lv_iconst (v := 2) hx hb dX12_sail_176 (by decide) ?_
            refine lv_iadd hx hb dX12_sail_177 ?_
            refine lv_topi (fun z93 ez93 => ?_)
            have iz93 : z93.toInt = us.toInt + 2 := zi_add ez93 rfl rfl (by omega) (by omega)
            refine va_iald hx hb hK hP q45 0 eq45 rfl (vp_in_iff.mpr ⟨by omega, by omega⟩) dX12_sail_178 ?_
            refine lv_topi (fun z94 ez94 => ?_)
            refine lv_iconst (v := 2) hx hb dX12_sail_179 (by decide) ?_
            refine lv_idiv hx hb dX12_sail_180 (by decide) ?_
            refine lv_topi (fun z95 ez95 => ?_)
            refine lv_icmp_ne (tgt := 224) hx hb dX12_sail_181 (by decide) (fun c96 => ?_) (fun c96 => ?_)
            · have ic96 : z92.toInt ≠ z95.toInt := zi_ne rfl rfl c96
              exact hj54 _ _ _ _ ⟨f34, rfl, hT, hR, (by rw [hf_o40, mo_i1]; exact hI), (by rw [hf_o40, mo_i1]; exact hKN), (by rw [hf_o40, mo_i1]; omega), (by rw [hf_o40, mo_i1]; omega), (by rw [hf_o40, mo_i1]; omega), hP, hD, hS, lv_sub hl [0, 1, 2, 3] rfl⟩
            · have ic96 : z92.toInt = z95.toInt := zi_nef rfl rfl c96
              refine lv_iload_n hx hb dX12_sail_184 rfl (lv_at hl 2 rfl) ?_
              refine lv_bipush (v := 24) hx hb dX12_sail_185 (by decide) ?_
              refine lv_irem hx hb dX12_sail_187 (by decide) ?_
              refine lv_topi (fun z97 ez97 => ?_)
              have iz97 : z97.toInt = u.toInt % 24 := zi_rem ez97 rfl (show (24 : Int32).toInt = 24 from rfl) (by omega) (by omega)
              refine lv_istore (lv' := [(4, .int z97), (0, .ref h0), (1, .int us), (2, .int u), (3, .int a)]) hx hb dX12_sail_188 hl (by decide) rfl (fun ls hl => ?_)
              refine lv_aload_n hx hb dX12_sail_190 rfl (lv_at hl 1 rfl) ?_
              have ro42_0 := tp_hu ro42_0
              refine va_get (D := (dC, dI)) (ci := 12) (v := .int o42_x7) (C := RX12) (T := TX12) (N := 53) hx hb hts hfX12 hown hK hP q43 eq43 rfl 7 (by decide) (hts (.fieldLink RX12 169 "ColdShipsModel" "isTurnTaken" "Z") wa_547) (fun _ h9 => h9) rfl dX12_sail_191 ?_
              refine lv_if_ne (tgt := 218) hx hb dX12_sail_194 (by decide) (fun c98 => ?_) (fun c98 => ?_)
              · have ic98 : o42_x7.toInt ≠ 0 := zi_ne rfl rfl c98
                replace ic98 : 1 ≤ o42_x7.toInt := by omega
                exact W.vret hx hb hr (fun t ht hW => ⟨⟨f34, rfl, ⟨hT, hR, ⟨(by rw [hf_o40, mo_i1]; exact hI), (by rw [hf_o40, mo_i1, hf_o26, mo_i1]; exact hKN), (by first | (simp only [hf_o40, hf_o26, mo_i1]; omega) | (simp only [hf_o40, hf_o26, mo_i1]; trivial) | (simp only [hf_o40, hf_o26, mo_i1]; done) | omega)⟩⟩, by rw [ht]; exact hP, va_K.moved hW.alike hK, hD⟩, hS.F ht⟩) hS.2.2 dX12_sail_218
              · have ic98 : o42_x7.toInt = 0 := zi_nef rfl rfl c98
                refine lv_iload hx hb dX12_sail_197 (lv_at hl 0 rfl) ?_
                refine lv_bipush (v := 6) hx hb dX12_sail_199 (by decide) ?_
                refine lv_icmp_eq (tgt := 219) hx hb dX12_sail_201 (by decide) (fun c99 => ?_) (fun c99 => ?_)
                · have ic99 : z97.toInt = 6 := zi_eq rfl rfl c99
                  refine lv_aload_n hx hb dX12_sail_219 rfl (lv_at hl 1 rfl) ?_
                  refine lv_iconst (v := 1) hx hb dX12_sail_220 (by decide) ?_
                  refine va_put (D := (dC, dI)) (ci := 12) (v := .int 1) (ty := .boolean) (C := RX12) (T := TX12) (N := 53) hx hb hts hfX12 tyX12 tyX12_ok nmX12 hown hK hP hD hS q43 eq43 rfl 7 (by decide) (hts (.fieldLink RX12 169 "ColdShipsModel" "isTurnTaken" "Z") wa_547) (fun _ h9 => h9) rfl (tyX12_ok 7 (by decide)) rfl rfl (Nat.le_of_ble_eq_true rfl) dX12_sail_221 (tp_k (.inr (12, [.int o42_x0, .int o42_x1, .ref (ρ h0 2), .ref (ρ h0 3), .ref (ρ h0 4), .ref (ρ h0 5), .ref (ρ h0 6), .int 1, .ref (ρ h0 8), .int o42_x9, .int o42_x10, .int o42_x11, .int o42_x12, .long o42_x13, .int o42_x14, .int o42_x15, .int o42_x16, .int o42_x17, .int o42_x18, .int o42_x19, .int o42_x20, .ref (ρ h0 21), .int o42_x22, .ref (ρ h0 23), .ref (ρ h0 24), .int o42_x25, .ref (ρ h0 26), .ref (ρ h0 27), .int o42_x28, .int o42_x29, .ref (ρ h0 30), .ref (ρ h0 31), .int o42_x32, .long o42_x33, .long o42_x34, .long o42_x35, .int o42_x36, .int o42_x37, .int o42_x38, .ref (ρ h0 39), .ref (ρ h0 40), .ref (ρ h0 41), .ref (ρ h0 42), .ref (ρ h0 43), .ref (ρ h0 44), .ref (ρ h0 45), .ref (ρ h0 46), .int o42_x47, .int o42_x48, .ref (ρ h0 49), .ref (ρ h0 50), .ref (ρ h0 51), .ref (ρ h0 52)])) hD (tp_in hG ht_h0 (by decide)) eq43 (fun f100 H locs hP hD hS g102 k101 => ?_))
                  have hT := hT.up ht_h0 g102 k101 ⟨_, _, _, _, _, _, _, _, _, _, _, _, _, _, _, _, _, _, _, _, _, _, _, _, _, _, _, _, rfl, (by decide), ro42_1, ro42_2, ro42_3, ro42_4, ro42_5, ro42_6, ro42_7, ro42_8, ro42_9, ro42_10, ro42_11, ro42_12, ro42_13, ro42_14⟩
                  have hR := hR.up ht_h0 (by decide) k101
                  have hf_103 : f100 (ρ h0 2) = .inl (κ 0, 12967, .inl g41) := (k101 _ (tp_ne y1 ht_h0 (by decide))).trans hf_o40
                  exact hj54 _ _ _ _ ⟨f100, rfl, hT, hR, (by rw [hf_103, mo_i1]; exact hI), (by rw [hf_103, mo_i1]; exact hKN), (by rw [hf_103, mo_i1]; omega), (by rw [hf_103, mo_i1]; omega), (by rw [hf_103, mo_i1]; omega), hP, hD, hS, lv_sub hl [1, 2, 3, 4] rfl⟩
                · have ic99 : z97.toInt ≠ 6 := zi_eqf rfl rfl c99
                  refine lv_iload hx hb dX12_sail_204 (lv_at hl 0 rfl) ?_
                  refine lv_bipush (v := 12) hx hb dX12_sail_206 (by decide) ?_
                  refine lv_icmp_eq (tgt := 219) hx hb dX12_sail_208 (by decide) (fun c104 => ?_) (fun c104 => ?_)
                  · have ic104 : z97.toInt = 12 := zi_eq rfl rfl c104
                    refine lv_aload_n hx hb dX12_sail_219 rfl (lv_at hl 1 rfl) ?_
                    refine lv_iconst (v := 1) hx hb dX12_sail_220 (by decide) ?_
                    refine va_put (D := (dC, dI)) (ci := 12) (v := .int 1) (ty := .boolean) (C := RX12) (T := TX12) (N := 53) hx hb hts hfX12 tyX12 tyX12_ok nmX12 hown hK hP hD hS q43 eq43 rfl 7 (by decide) (hts (.fieldLink RX12 169 "ColdShipsModel" "isTurnTaken" "Z") wa_547) (fun _ h9 => h9) rfl (tyX12_ok 7 (by decide)) rfl rfl (Nat.le_of_ble_eq_true rfl) dX12_sail_221 (tp_k (.inr (12, [.int o42_x0, .int o42_x1, .ref (ρ h0 2), .ref (ρ h0 3), .ref (ρ h0 4), .ref (ρ h0 5), .ref (ρ h0 6), .int 1, .ref (ρ h0 8), .int o42_x9, .int o42_x10, .int o42_x11, .int o42_x12, .long o42_x13, .int o42_x14, .int o42_x15, .int o42_x16, .int o42_x17, .int o42_x18, .int o42_x19, .int o42_x20, .ref (ρ h0 21), .int o42_x22, .ref (ρ h0 23), .ref (ρ h0 24), .int o42_x25, .ref (ρ h0 26), .ref (ρ h0 27), .int o42_x28, .int o42_x29, .ref (ρ h0 30), .ref (ρ h0 31), .int o42_x32, .long o42_x33, .long o42_x34, .long o42_x35, .int o42_x36, .int o42_x37, .int o42_x38, .ref (ρ h0 39), .ref (ρ h0 40), .ref (ρ h0 41), .ref (ρ h0 42), .ref (ρ h0 43), .ref (ρ h0 44), .ref (ρ h0 45), .ref (ρ h0 46), .int o42_x47, .int o42_x48, .ref (ρ h0 49), .ref (ρ h0 50), .ref (ρ h0 51), .ref (ρ h0 52)])) hD (tp_in hG ht_h0 (by decide)) eq43 (fun f105 H locs hP hD hS g107 k106 => ?_))
                    have hT := hT.up ht_h0 g107 k106 ⟨_, _, _, _, _, _, _, _, _, _, _, _, _, _, _, _, _, _, _, _, _, _, _, _, _, _, _, _, rfl, (by decide), ro42_1, ro42_2, ro42_3, ro42_4, ro42_5, ro42_6, ro42_7, ro42_8, ro42_9, ro42_10, ro42_11, ro42_12, ro42_13, ro42_14⟩
                    have hR := hR.up ht_h0 (by decide) k106
                    have hf_108 : f105 (ρ h0 2) = .inl (κ 0, 12967, .inl g41) := (k106 _ (tp_ne y1 ht_h0 (by decide))).trans hf_o40
                    exact hj54 _ _ _ _ ⟨f105, rfl, hT, hR, (by rw [hf_108, mo_i1]; exact hI), (by rw [hf_108, mo_i1]; exact hKN), (by rw [hf_108, mo_i1]; omega), (by rw [hf_108, mo_i1]; omega), (by rw [hf_108, mo_i1]; omega), hP, hD, hS, lv_sub hl [1, 2, 3, 4] rfl⟩
                  · have ic104 : z97.toInt ≠ 12 := zi_eqf rfl rfl c104
                    refine lv_iload hx hb dX12_sail_211 (lv_at hl 0 rfl) ?_
                    refine lv_bipush (v := 18) hx hb dX12_sail_213 (by decide) ?_
                    refine lv_icmp_eq (tgt := 219) hx hb dX12_sail_215 (by decide) (fun c109 => ?_) (fun c109 => ?_)
                    · have ic109 : z97.toInt = 18 := zi_eq rfl rfl c109
                      refine lv_aload_n hx hb dX12_sail_219 rfl (lv_at hl 1 rfl) ?_
                      refine lv_iconst (v := 1) hx hb dX12_sail_220 (by decide) ?_
                      refine va_put (D := (dC, dI)) (ci := 12) (v := .int 1) (ty := .boolean) (C := RX12) (T := TX12) (N := 53) hx hb hts hfX12 tyX12 tyX12_ok nmX12 hown hK hP hD hS q43 eq43 rfl 7 (by decide) (hts (.fieldLink RX12 169 "ColdShipsModel" "isTurnTaken" "Z") wa_547) (fun _ h9 => h9) rfl (tyX12_ok 7 (by decide)) rfl rfl (Nat.le_of_ble_eq_true rfl) dX12_sail_221 (tp_k (.inr (12, [.int o42_x0, .int o42_x1, .ref (ρ h0 2), .ref (ρ h0 3), .ref (ρ h0 4), .ref (ρ h0 5), .ref (ρ h0 6), .int 1, .ref (ρ h0 8), .int o42_x9, .int o42_x10, .int o42_x11, .int o42_x12, .long o42_x13, .int o42_x14, .int o42_x15, .int o42_x16, .int o42_x17, .int o42_x18, .int o42_x19, .int o42_x20, .ref (ρ h0 21), .int o42_x22, .ref (ρ h0 23), .ref (ρ h0 24), .int o42_x25, .ref (ρ h0 26), .ref (ρ h0 27), .int o42_x28, .int o42_x29, .ref (ρ h0 30), .ref (ρ h0 31), .int o42_x32, .long o42_x33, .long o42_x34, .long o42_x35, .int o42_x36, .int o42_x37, .int o42_x38, .ref (ρ h0 39), .ref (ρ h0 40), .ref (ρ h0 41), .ref (ρ h0 42), .ref (ρ h0 43), .ref (ρ h0 44), .ref (ρ h0 45), .ref (ρ h0 46), .int o42_x47, .int o42_x48, .ref (ρ h0 49), .ref (ρ h0 50), .ref (ρ h0 51), .ref (ρ h0 52)])) hD (tp_in hG ht_h0 (by decide)) eq43 (fun f110 H locs hP hD hS g112 k111 => ?_))
                      have hT := hT.up ht_h0 g112 k111 ⟨_, _, _, _, _, _, _, _, _, _, _, _, _, _, _, _, _, _, _, _, _, _, _, _, _, _, _, _, rfl, (by decide), ro42_1, ro42_2, ro42_3, ro42_4, ro42_5, ro42_6, ro42_7, ro42_8, ro42_9, ro42_10, ro42_11, ro42_12, ro42_13, ro42_14⟩
                      have hR := hR.up ht_h0 (by decide) k111
                      have hf_113 : f110 (ρ h0 2) = .inl (κ 0, 12967, .inl g41) := (k111 _ (tp_ne y1 ht_h0 (by decide))).trans hf_o40
                      exact hj54 _ _ _ _ ⟨f110, rfl, hT, hR, (by rw [hf_113, mo_i1]; exact hI), (by rw [hf_113, mo_i1]; exact hKN), (by rw [hf_113, mo_i1]; omega), (by rw [hf_113, mo_i1]; omega), (by rw [hf_113, mo_i1]; omega), hP, hD, hS, lv_sub hl [1, 2, 3, 4] rfl⟩
                    · have ic109 : z97.toInt ≠ 18 := zi_eqf rfl rfl c109
                      exact W.vret hx hb hr (fun t ht hW => ⟨⟨f34, rfl, ⟨hT, hR, ⟨(by rw [hf_o40, mo_i1]; exact hI), (by rw [hf_o40, mo_i1, hf_o26, mo_i1]; exact hKN), (by first | (simp only [hf_o40, hf_o26, mo_i1]; omega) | (simp only [hf_o40, hf_o26, mo_i1]; trivial) | (simp only [hf_o40, hf_o26, mo_i1]; done) | omega)⟩⟩, by rw [ht]; exact hP, va_K.moved hW.alike hK, hD⟩, hS.F ht⟩) hS.2.2 dX12_sail_218
      · refine lv_icmp_le (tgt := 151) hx hb dX12_sail_140 (by decide) (fun c114 => ?_) (fun c114 => ?_)
        · have ic114 : z50.toInt ≤ 6 := zi_le rfl rfl c114
          exact hj51 _ _ _ _ ⟨rfl, hP, hD, hS, lv_sub hl [0, 1, 2, 3] rfl⟩
        · have ic114 : z50.toInt > 6 := zi_lef rfl rfl c114
          refine lv_iload_n hx hb dX12_sail_143 rfl (lv_at hl 2 rfl) ?_
          refine lv_iconst (v := 2) hx hb dX12_sail_144 (by decide) ?_
          refine lv_irem hx hb dX12_sail_145 (by decide) ?_
          refine lv_topi (fun z115 ez115 => ?_)
          have iz115 : z115.toInt = u.toInt % 2 := zi_rem ez115 rfl (show (2 : Int32).toInt = 2 from rfl) (by omega) (by omega)
          refine lv_iconst (v := 1) hx hb dX12_sail_146 (by decide) ?_
          refine lv_icmp_ne (tgt := 151) hx hb dX12_sail_147 (by decide) (fun c116 => ?_) (fun c116 => ?_)
          · have ic116 : z115.toInt ≠ 1 := zi_ne rfl rfl c116
            replace ic116 : z115.toInt ≤ 0 := by omega
            exact hj51 _ _ _ _ ⟨rfl, hP, hD, hS, lv_sub hl [0, 1, 2, 3] rfl⟩
          · have ic116 : z115.toInt = 1 := zi_nef rfl rfl c116
            exact W.vret hx hb hr (fun t ht hW => ⟨⟨f34, rfl, ⟨hT, hR, ⟨(by rw [hf_o40, mo_i1]; exact hI), (by rw [hf_o40, mo_i1, hf_o26, mo_i1]; exact hKN), (by first | (simp only [hf_o40, hf_o26, mo_i1]; omega) | (simp only [hf_o40, hf_o26, mo_i1]; trivial) | (simp only [hf_o40, hf_o26, mo_i1]; done) | omega)⟩⟩, by rw [ht]; exact hP, va_K.moved hW.alike hK, hD⟩, hS.F ht⟩) hS.2.2 dX12_sail_150
  · refine lv_if_ne (tgt := 112) hx hb dX12_sail_8 (by decide) (fun c117 => ?_) (fun c117 => ?_)
    · have ic117 : z32.toInt ≠ 0 := zi_ne rfl rfl c117
      exact hj33 _ _ _ _ ⟨f, rfl, hT, hR, (by rw [hf_o26, mo_i1]; exact hI), (by rw [hf_o26, mo_i1]; exact hKN), (by rw [hf_o26, mo_i1]; omega), (by rw [hf_o26, mo_i1]; omega), (by rw [hf_o26, mo_i1]; omega), hP, hD, hS, lv_sub hl [0, 1, 2, 3] rfl⟩
    · have ic117 : z32.toInt = 0 := zi_nef rfl rfl c117
      refine lv_aload_n hx hb dX12_sail_11 rfl (lv_at hl 0 rfl) ?_
      refine va_get (D := (dC, dI)) (ci := 12) (v := .ref (ρ h0 2)) (C := RX12) (T := TX12) (N := 53) hx hb hts hfX12 hown hK hP q29 eq29 rfl 2 (by decide) (hts (.fieldLink RX12 7 "ColdShipsModel" "row" "[I") wa_148) (fun _ h9 => h9) rfl dX12_sail_12 ?_
      refine lv_iload_n hx hb dX12_sail_15 rfl (lv_at hl 1 rfl) ?_
      refine lv_iconst (v := 0) hx hb dX12_sail_16 (by decide) ?_
      refine lv_iadd hx hb dX12_sail_17 ?_
      refine lv_topi (fun z118 ez118 => ?_)
      have iz118 : z118.toInt = us.toInt + 0 := zi_add ez118 rfl rfl (by omega) (by omega)
      refine va_iald hx hb hK hP q31 0 eq31 rfl (vp_in_iff.mpr ⟨by omega, by omega⟩) dX12_sail_18 ?_
      refine lv_topi (fun z119 ez119 => ?_)
      have jz119 : z119.toInt = mo_R g27 (547 + 84 * qs + 0) := mo_rd ez119 (by omega)
      have kz119 := hI.SA (s := qs) (by omega) (by omega)
      refine lv_iload_n hx hb dX12_sail_19 rfl (lv_at hl 3 rfl) ?_
      refine lv_icmp_ne (tgt := 29) hx hb dX12_sail_20 (by decide) (fun c120 => ?_) (fun c120 => ?_)
      · have ic120 : z119.toInt ≠ a.toInt := zi_ne rfl rfl c120
        refine lv_aload_n hx hb dX12_sail_29 rfl (lv_at hl 0 rfl) ?_
        refine lv_aload_n hx hb dX12_sail_30 rfl (lv_at hl 0 rfl) ?_
        refine va_get (D := (dC, dI)) (ci := 12) (v := .ref (ρ h0 2)) (C := RX12) (T := TX12) (N := 53) hx hb hts hfX12 hown hK hP q29 eq29 rfl 2 (by decide) (hts (.fieldLink RX12 7 "ColdShipsModel" "row" "[I") wa_148) (fun _ h9 => h9) rfl dX12_sail_31 ?_
        refine lv_iload_n hx hb dX12_sail_34 rfl (lv_at hl 1 rfl) ?_
        refine lv_iconst (v := 0) hx hb dX12_sail_35 (by decide) ?_
        refine lv_iadd hx hb dX12_sail_36 ?_
        refine lv_topi (fun z121 ez121 => ?_)
        have iz121 : z121.toInt = us.toInt + 0 := zi_add ez121 rfl rfl (by omega) (by omega)
        refine va_iald hx hb hK hP q31 0 eq31 rfl (vp_in_iff.mpr ⟨by omega, by omega⟩) dX12_sail_37 ?_
        refine lv_topi (fun z122 ez122 => ?_)
        have jz122 : z122.toInt = mo_R g27 (547 + 84 * qs + 0) := mo_rd ez122 (by omega)
        have kz122 := hI.SA (s := qs) (by omega) (by omega)
        have vz122 : z122.toInt = z119.toInt := jz122.trans (jz119).symm
        refine lv_iload_n hx hb dX12_sail_38 rfl (lv_at hl 3 rfl) ?_
        refine pz_calli (va_runV (As := [.int z122, .int a]) (rest := []) ⟨hx, hb, hml, hown, hts⟩ (t_X12_wayOf l dC dI _ κ Θ τ ν ρ L f hG hT h0 z122 a x b ht_h0 (by first | decide | omega) (by first | decide | omega) (by omega) (by rw [hf_o26, mo_i1]; exact hI)) (cwV 2 hts gX12_sail_X12_wayOf rfl rfl rfl ⟨rfl, pd_X12_wayOf⟩ ⟨Nat.le_of_ble_eq_true rfl, Nat.le_of_ble_eq_true rfl⟩) ⟨pz_blind, va_recv hK hP (ci := 12) (q0 := q29) rfl eq29, pz_pre hP hK hD hN⟩ rfl rfl hl.1 rfl (lv_room (Nat.le_of_ble_eq_true rfl)) dX12_sail_39 ⟨Nat.le_of_ble_eq_true rfl, Nat.le_of_ble_eq_true rfl⟩) (fun r123 hw124 => ?_)
        obtain ⟨hw124r, hw124p⟩ := hw124
        refine lv_istore (lv' := [(4, .int r123), (0, .ref h0), (1, .int us), (2, .int u), (3, .int a)]) hx hb dX12_sail_42 hl (by decide) rfl (fun ls hl => ?_)
        refine lv_iload hx hb dX12_sail_44 (lv_at hl 0 rfl) ?_
        refine lv_if_ne (tgt := 50) hx hb dX12_sail_46 (by decide) (fun c125 => ?_) (fun c125 => ?_)
        · have ic125 : r123.toInt ≠ 0 := zi_ne rfl rfl c125
          refine lv_aload_n hx hb dX12_sail_50 rfl (lv_at hl 1 rfl) ?_
          refine va_get (D := (dC, dI)) (ci := 12) (v := .ref (ρ h0 2)) (C := RX12) (T := TX12) (N := 53) hx hb hts hfX12 hown hK hP q29 eq29 rfl 2 (by decide) (hts (.fieldLink RX12 7 "ColdShipsModel" "row" "[I") wa_148) (fun _ h9 => h9) rfl dX12_sail_51 ?_
          refine lv_iload_n hx hb dX12_sail_54 rfl (lv_at hl 2 rfl) ?_
          refine lv_iconst (v := 3) hx hb dX12_sail_55 (by decide) ?_
          refine lv_iadd hx hb dX12_sail_56 ?_
          refine lv_topi (fun z126 ez126 => ?_)
          have iz126 : z126.toInt = us.toInt + 3 := zi_add ez126 rfl rfl (by omega) (by omega)
          refine lv_aload_n hx hb dX12_sail_57 rfl (lv_at hl 1 rfl) ?_
          refine va_get (D := (dC, dI)) (ci := 12) (v := .ref (ρ h0 2)) (C := RX12) (T := TX12) (N := 53) hx hb hts hfX12 hown hK hP q29 eq29 rfl 2 (by decide) (hts (.fieldLink RX12 7 "ColdShipsModel" "row" "[I") wa_148) (fun _ h9 => h9) rfl dX12_sail_58 ?_
          refine lv_bipush (v := 50) hx hb dX12_sail_61 (by decide) ?_
          refine lv_iconst (v := 2) hx hb dX12_sail_63 (by decide) ?_
          refine lv_bipush (v := 6) hx hb dX12_sail_64 (by decide) ?_
          refine lv_aload_n hx hb dX12_sail_66 rfl (lv_at hl 1 rfl) ?_
          refine va_get (D := (dC, dI)) (ci := 12) (v := .ref (ρ h0 2)) (C := RX12) (T := TX12) (N := 53) hx hb hts hfX12 hown hK hP q29 eq29 rfl 2 (by decide) (hts (.fieldLink RX12 7 "ColdShipsModel" "row" "[I") wa_148) (fun _ h9 => h9) rfl dX12_sail_67 ?_
          refine lv_iload_n hx hb dX12_sail_70 rfl (lv_at hl 2 rfl) ?_
          refine lv_iconst (v := 0) hx hb dX12_sail_71 (by decide) ?_
          refine lv_iadd hx hb dX12_sail_72 ?_
          refine lv_topi (fun z127 ez127 => ?_)
          have iz127 : z127.toInt = us.toInt + 0 := zi_add ez127 rfl rfl (by omega) (by omega)
          refine va_iald hx hb hK hP q31 0 eq31 rfl (vp_in_iff.mpr ⟨by omega, by omega⟩) dX12_sail_73 ?_
          refine lv_topi (fun z128 ez128 => ?_)
          have jz128 : z128.toInt = mo_R g27 (547 + 84 * qs + 0) := mo_rd ez128 (by omega)
          have kz128 := hI.SA (s := qs) (by omega) (by omega)
          have vz128 : z128.toInt = z119.toInt := jz128.trans (jz119).symm
          refine lv_imul hx hb dX12_sail_74 ?_
          refine lv_topi (fun z129 ez129 => ?_)
          have iz129 : z129.toInt = 6 * z128.toInt := zi_mul ez129 rfl rfl (by omega) (by omega)
          refine lv_iload_n hx hb dX12_sail_75 rfl (lv_at hl 4 rfl) ?_
          refine lv_iadd hx hb dX12_sail_76 ?_
          refine lv_topi (fun z130 ez130 => ?_)
          have iz130 : z130.toInt = z129.toInt + a.toInt := zi_add ez130 rfl rfl (by omega) (by omega)
          refine lv_imul hx hb dX12_sail_77 ?_
          refine lv_topi (fun z131 ez131 => ?_)
          have iz131 : z131.toInt = 2 * z130.toInt := zi_mul ez131 rfl rfl (by omega) (by omega)
          refine lv_iadd hx hb dX12_sail_78 ?_
          refine lv_topi (fun z132 ez132 => ?_)
          have iz132 : z132.toInt = 50 + z131.toInt := zi_add ez132 rfl rfl (by omega) (by omega)
          refine lv_iconst (v := 1) hx hb dX12_sail_79 (by decide) ?_
          refine lv_iadd hx hb dX12_sail_80 ?_
          refine lv_topi (fun z133 ez133 => ?_)
          have iz133 : z133.toInt = z132.toInt + 1 := zi_add ez133 rfl rfl (by omega) (by omega)
          refine va_iald hx hb hK hP q31 0 eq31 rfl (vp_in_iff.mpr ⟨by omega, by omega⟩) dX12_sail_81 ?_
          refine lv_topi (fun z134 ez134 => ?_)
          refine va_iast hx hb hK hP hD hS q31 0 eq31 rfl (vp_in_iff.mpr ⟨by omega, by omega⟩) dX12_sail_82 (tp_k (.inl (κ 0, 12967, .inl (upd g27 z126.toNatClampNeg z134))) hD (tp_in hG y1 (by decide)) eq31 (fun f135 H locs hP hD hS g137 k136 => ?_))
          have hT := hT.up y1 g137 k136 tp_o32
          have hR := hR.up y1 (by decide) k136
          have hU : mo_U (mo_R g27) (mo_R (upd g27 z126.toNatClampNeg z134)) (547 + 84 * qs + 3) (z134.toInt) := mo_up (by omega) (rfl : z134.toInt = _) (by omega)
          generalize (upd g27 z126.toNatClampNeg z134) = g138 at g137 hU
          have hI := mo_w_sfree hI hU qs 3 (by omega) (by omega) (by omega)
          have hKN := hKN.up hU (Or.inl (by omega))
          have pn139 : mo_R g138 (1) = n1 := (hU.ne (by omega) (by omega)).trans en1.symm
          have pn140 : mo_R g138 (11) = n11 := (hU.ne (by omega) (by omega)).trans en11.symm
          have pn141 : mo_R g138 (547 + 84 * qs + 10) = ns10 := (hU.ne (by omega) (by omega)).trans ens10.symm
          refine lv_aload_n hx hb dX12_sail_83 rfl (lv_at hl 1 rfl) ?_
          have hf_142 : f135 h0 = .inr (12, [.int o28_x0, .int o28_x1, .ref (ρ h0 2), .ref (ρ h0 3), .ref (ρ h0 4), .ref (ρ h0 5), .ref (ρ h0 6), .int o28_x7, .ref (ρ h0 8), .int o28_x9, .int o28_x10, .int o28_x11, .int o28_x12, .long o28_x13, .int o28_x14, .int o28_x15, .int o28_x16, .int o28_x17, .int o28_x18, .int o28_x19, .int o28_x20, .ref (ρ h0 21), .int o28_x22, .ref (ρ h0 23), .ref (ρ h0 24), .int o28_x25, .ref (ρ h0 26), .ref (ρ h0 27), .int o28_x28, .int o28_x29, .ref (ρ h0 30), .ref (ρ h0 31), .int o28_x32, .long o28_x33, .long o28_x34, .long o28_x35, .int o28_x36, .int o28_x37, .int o28_x38, .ref (ρ h0 39), .ref (ρ h0 40), .ref (ρ h0 41), .ref (ρ h0 42), .ref (ρ h0 43), .ref (ρ h0 44), .ref (ρ h0 45), .ref (ρ h0 46), .int o28_x47, .int o28_x48, .ref (ρ h0 49), .ref (ρ h0 50), .ref (ρ h0 51), .ref (ρ h0 52)]) := (k136 _ (tp_ne ht_h0 y1 (by decide))).trans hf_o28
          refine tpk_pos (tp_in hG ht_h0 (by decide)) hf_142 (fun q143 eq143 => ?_)
          refine va_get (D := (dC, dI)) (ci := 12) (v := .ref (ρ h0 2)) (C := RX12) (T := TX12) (N := 53) hx hb hts hfX12 hown hK hP q143 eq143 rfl 2 (by decide) (hts (.fieldLink RX12 7 "ColdShipsModel" "row" "[I") wa_148) (fun _ h9 => h9) rfl dX12_sail_84 ?_
          refine lv_iload_n hx hb dX12_sail_87 rfl (lv_at hl 2 rfl) ?_
          refine lv_iconst (v := 1) hx hb dX12_sail_88 (by decide) ?_
          refine lv_iadd hx hb dX12_sail_89 ?_
          refine lv_topi (fun z144 ez144 => ?_)
          have iz144 : z144.toInt = us.toInt + 1 := zi_add ez144 rfl rfl (by omega) (by omega)
          refine lv_iload hx hb dX12_sail_90 (lv_at hl 0 rfl) ?_
          refine tpk_pos (tp_in hG y1 (by decide)) g137 (fun q145 eq145 => ?_)
          refine va_iast hx hb hK hP hD hS q145 0 eq145 rfl (vp_in_iff.mpr ⟨by omega, by omega⟩) dX12_sail_92 (tp_k (.inl (κ 0, 12967, .inl (upd g138 z144.toNatClampNeg r123))) hD (tp_in hG y1 (by decide)) eq145 (fun f146 H locs hP hD hS g148 k147 => ?_))
          have hT := hT.up y1 g148 k147 tp_o32
          have hR := hR.up y1 (by decide) k147
          have hU : mo_U (mo_R g138) (mo_R (upd g138 z144.toNatClampNeg r123)) (547 + 84 * qs + 1) (r123.toInt) := mo_up (by omega) (rfl : r123.toInt = _) (by omega)
          generalize (upd g138 z144.toNatClampNeg r123) = g149 at g148 hU
          have hI := mo_w_sfree hI hU qs 1 (by omega) (by omega) (by omega)
          have hKN := hKN.up hU (Or.inl (by omega))
          have pn150 : mo_R g149 (1) = n1 := (hU.ne (by omega) (by omega)).trans pn139
          have pn151 : mo_R g149 (11) = n11 := (hU.ne (by omega) (by omega)).trans pn140
          have pn152 : mo_R g149 (547 + 84 * qs + 10) = ns10 := (hU.ne (by omega) (by omega)).trans pn141
          clear pn139 pn140 pn141
          refine lv_aload_n hx hb dX12_sail_93 rfl (lv_at hl 1 rfl) ?_
          have hf_153 : f146 h0 = .inr (12, [.int o28_x0, .int o28_x1, .ref (ρ h0 2), .ref (ρ h0 3), .ref (ρ h0 4), .ref (ρ h0 5), .ref (ρ h0 6), .int o28_x7, .ref (ρ h0 8), .int o28_x9, .int o28_x10, .int o28_x11, .int o28_x12, .long o28_x13, .int o28_x14, .int o28_x15, .int o28_x16, .int o28_x17, .int o28_x18, .int o28_x19, .int o28_x20, .ref (ρ h0 21), .int o28_x22, .ref (ρ h0 23), .ref (ρ h0 24), .int o28_x25, .ref (ρ h0 26), .ref (ρ h0 27), .int o28_x28, .int o28_x29, .ref (ρ h0 30), .ref (ρ h0 31), .int o28_x32, .long o28_x33, .long o28_x34, .long o28_x35, .int o28_x36, .int o28_x37, .int o28_x38, .ref (ρ h0 39), .ref (ρ h0 40), .ref (ρ h0 41), .ref (ρ h0 42), .ref (ρ h0 43), .ref (ρ h0 44), .ref (ρ h0 45), .ref (ρ h0 46), .int o28_x47, .int o28_x48, .ref (ρ h0 49), .ref (ρ h0 50), .ref (ρ h0 51), .ref (ρ h0 52)]) := (k147 _ (tp_ne ht_h0 y1 (by decide))).trans hf_142
          refine tpk_pos (tp_in hG ht_h0 (by decide)) hf_153 (fun q154 eq154 => ?_)
          refine va_get (D := (dC, dI)) (ci := 12) (v := .ref (ρ h0 2)) (C := RX12) (T := TX12) (N := 53) hx hb hts hfX12 hown hK hP q154 eq154 rfl 2 (by decide) (hts (.fieldLink RX12 7 "ColdShipsModel" "row" "[I") wa_148) (fun _ h9 => h9) rfl dX12_sail_94 ?_
          refine lv_iload_n hx hb dX12_sail_97 rfl (lv_at hl 2 rfl) ?_
          refine lv_iconst (v := 2) hx hb dX12_sail_98 (by decide) ?_
          refine lv_iadd hx hb dX12_sail_99 ?_
          refine lv_topi (fun z155 ez155 => ?_)
          have iz155 : z155.toInt = us.toInt + 2 := zi_add ez155 rfl rfl (by omega) (by omega)
          refine lv_iload hx hb dX12_sail_100 (lv_at hl 0 rfl) ?_
          refine tpk_pos (tp_in hG y1 (by decide)) g148 (fun q156 eq156 => ?_)
          refine va_iast hx hb hK hP hD hS q156 0 eq156 rfl (vp_in_iff.mpr ⟨by omega, by omega⟩) dX12_sail_102 (tp_k (.inl (κ 0, 12967, .inl (upd g149 z155.toNatClampNeg r123))) hD (tp_in hG y1 (by decide)) eq156 (fun f157 H locs hP hD hS g159 k158 => ?_))
          have hT := hT.up y1 g159 k158 tp_o32
          have hR := hR.up y1 (by decide) k158
          have hU : mo_U (mo_R g149) (mo_R (upd g149 z155.toNatClampNeg r123)) (547 + 84 * qs + 2) (r123.toInt) := mo_up (by omega) (rfl : r123.toInt = _) (by omega)
          generalize (upd g149 z155.toNatClampNeg r123) = g160 at g159 hU
          have hI := mo_w_sfree hI hU qs 2 (by omega) (by omega) (by omega)
          have hKN := hKN.up hU (Or.inl (by omega))
          have pn161 : mo_R g160 (1) = n1 := (hU.ne (by omega) (by omega)).trans pn150
          have pn162 : mo_R g160 (11) = n11 := (hU.ne (by omega) (by omega)).trans pn151
          have pn163 : mo_R g160 (547 + 84 * qs + 10) = ns10 := (hU.ne (by omega) (by omega)).trans pn152
          clear pn150 pn151 pn152
          refine lv_aload_n hx hb dX12_sail_103 rfl (lv_at hl 1 rfl) ?_
          have hf_164 : f157 h0 = .inr (12, [.int o28_x0, .int o28_x1, .ref (ρ h0 2), .ref (ρ h0 3), .ref (ρ h0 4), .ref (ρ h0 5), .ref (ρ h0 6), .int o28_x7, .ref (ρ h0 8), .int o28_x9, .int o28_x10, .int o28_x11, .int o28_x12, .long o28_x13, .int o28_x14, .int o28_x15, .int o28_x16, .int o28_x17, .int o28_x18, .int o28_x19, .int o28_x20, .ref (ρ h0 21), .int o28_x22, .ref (ρ h0 23), .ref (ρ h0 24), .int o28_x25, .ref (ρ h0 26), .ref (ρ h0 27), .int o28_x28, .int o28_x29, .ref (ρ h0 30), .ref (ρ h0 31), .int o28_x32, .long o28_x33, .long o28_x34, .long o28_x35, .int o28_x36, .int o28_x37, .int o28_x38, .ref (ρ h0 39), .ref (ρ h0 40), .ref (ρ h0 41), .ref (ρ h0 42), .ref (ρ h0 43), .ref (ρ h0 44), .ref (ρ h0 45), .ref (ρ h0 46), .int o28_x47, .int o28_x48, .ref (ρ h0 49), .ref (ρ h0 50), .ref (ρ h0 51), .ref (ρ h0 52)]) := (k158 _ (tp_ne ht_h0 y1 (by decide))).trans hf_153
          refine tpk_pos (tp_in hG ht_h0 (by decide)) hf_164 (fun q165 eq165 => ?_)
          refine va_get (D := (dC, dI)) (ci := 12) (v := .ref (ρ h0 2)) (C := RX12) (T := TX12) (N := 53) hx hb hts hfX12 hown hK hP q165 eq165 rfl 2 (by decide) (hts (.fieldLink RX12 7 "ColdShipsModel" "row" "[I") wa_148) (fun _ h9 => h9) rfl dX12_sail_104 ?_
          refine lv_iload_n hx hb dX12_sail_107 rfl (lv_at hl 2 rfl) ?_
          refine lv_iconst (v := 0) hx hb dX12_sail_108 (by decide) ?_
          refine lv_iadd hx hb dX12_sail_109 ?_
          refine lv_topi (fun z166 ez166 => ?_)
          have iz166 : z166.toInt = us.toInt + 0 := zi_add ez166 rfl rfl (by omega) (by omega)
          refine lv_iload_n hx hb dX12_sail_110 rfl (lv_at hl 4 rfl) ?_
          refine tpk_pos (tp_in hG y1 (by decide)) g159 (fun q167 eq167 => ?_)
          refine va_iast hx hb hK hP hD hS q167 0 eq167 rfl (vp_in_iff.mpr ⟨by omega, by omega⟩) dX12_sail_111 (tp_k (.inl (κ 0, 12967, .inl (upd g160 z166.toNatClampNeg a))) hD (tp_in hG y1 (by decide)) eq167 (fun f168 H locs hP hD hS g170 k169 => ?_))
          have hT := hT.up y1 g170 k169 tp_o32
          have hR := hR.up y1 (by decide) k169
          have hU : mo_U (mo_R g160) (mo_R (upd g160 z166.toNatClampNeg a)) (547 + 84 * qs + 0) (a.toInt) := mo_up (by omega) (rfl : a.toInt = _) (by omega)
          generalize (upd g160 z166.toNatClampNeg a) = g171 at g170 hU
          have hI := mo_w_AT hI hU qs (by omega) (by omega) (by omega)
          have hKN := hKN.up hU (Or.inl (by omega))
          have pn172 : mo_R g171 (1) = n1 := (hU.ne (by omega) (by omega)).trans pn161
          have pn173 : mo_R g171 (11) = n11 := (hU.ne (by omega) (by omega)).trans pn162
          have pn174 : mo_R g171 (547 + 84 * qs + 10) = ns10 := (hU.ne (by omega) (by omega)).trans pn163
          clear pn161 pn162 pn163
          exact hj33 _ _ _ _ ⟨f168, rfl, hT, hR, (by rw [g170, mo_i1]; exact hI), (by rw [g170, mo_i1]; exact hKN), (by rw [g170, mo_i1]; omega), (by rw [g170, mo_i1]; omega), (by rw [g170, mo_i1]; omega), hP, hD, hS, lv_sub hl [1, 2, 3, 4] rfl⟩
        · have ic125 : r123.toInt = 0 := zi_nef rfl rfl c125
          exact W.vret hx hb hr (fun t ht hW => ⟨⟨f, rfl, ⟨hT, hR, ⟨(by rw [hf_o26, mo_i1]; exact hI), (by rw [hf_o26, mo_i1]; exact hKN), (by first | (simp only [hf_o26, mo_i1]; omega) | (simp only [hf_o26, mo_i1]; trivial) | (simp only [hf_o26, mo_i1]; done) | omega)⟩⟩, by rw [ht]; exact hP, va_K.moved hW.alike hK, hD⟩, hS.F ht⟩) hS.2.2 dX12_sail_49
      · have ic120 : z119.toInt = a.toInt := zi_nef rfl rfl c120
        refine lv_aload_n hx hb dX12_sail_23 rfl (lv_at hl 0 rfl) ?_
        refine lv_iload_n hx hb dX12_sail_24 rfl (lv_at hl 1 rfl) ?_
        have hFc := tp_fr hD hS hA
        refine va_callv (va_runV (As := [.int us]) (rest := []) ⟨hx, hb, hml, hown, hts⟩ (t_X12_endOrder l dC dI _ κ Θ τ ν ρ L f hG hT h0 us x b qs ht_h0 (by omega) (by omega) (by omega) (by rw [hf_o26, mo_i1]; exact hI) (by first | (simp only [hf_o26, mo_i1]; omega) | (simp only [hf_o26, mo_i1]; trivial) | (simp only [hf_o26, mo_i1]; done) | omega) (by first | (simp only [hf_o26, mo_i1]; omega) | (simp only [hf_o26, mo_i1]; trivial) | (simp only [hf_o26, mo_i1]; done) | omega)) (cwV 1 hts gX12_sail_X12_endOrder rfl rfl rfl ⟨rfl, pd_X12_endOrder⟩ ⟨Nat.le_of_ble_eq_true rfl, Nat.le_of_ble_eq_true rfl⟩) ⟨pz_blind, va_recv hK hP (ci := 12) (q0 := q29) rfl eq29, pz_pre hP hK hD hN⟩ rfl rfl hl.1 rfl (lv_room (Nat.le_of_ble_eq_true rfl)) dX12_sail_25 ⟨Nat.le_of_ble_eq_true rfl, Nat.le_of_ble_eq_true rfl⟩) hS (fun q _ h => hFc q h) hFc (fun f177 t H1 locs ht hvm hw176 hB hz1 hk1 hS => ?_)
        refine tn_3 hw176 (fun hT hF178 hw176p => ?_); clear hw176
        have hR := hR.then hF178 (by decide)
        have hP := hB.1; rw [ht] at hP; have hD := tp_ad f177 hD; clear hB hFc hz1 hk1; subst ht; generalize t.heap = H at hP hS ⊢
        obtain ⟨hJ, hw176pe⟩ := hw176p
        refine tpk_32 hT y1 (fun g180 hf_o179 => ?_)
        have hI : mo_RI x b (mo_R g180) := by have q9 := hJ; rw [hf_o179, mo_i1] at q9; exact q9
        rw [hf_o26, mo_i1] at hw176pe
        rw [hf_o179, mo_i1] at hw176pe
        obtain ⟨hw176pek, hw176peq⟩ := hw176pe
        have hKN := hKN.th hw176pek (fun k q9 => False.elim q9)
        have pn181 : mo_R g180 (1) = n1 := (hw176peq.1).trans en1.symm
        have pn182 : mo_R g180 (11) = n11 := (hw176peq.2).trans en11.symm
        exact W.vret hx hb hr (fun t ht hW => ⟨⟨f177, rfl, ⟨hT, hR, ⟨(by rw [hf_o179, mo_i1]; exact hI), (by rw [hf_o179, mo_i1, hf_o26, mo_i1]; exact hKN), (by first | (simp only [hf_o179, hf_o26, mo_i1]; omega) | (simp only [hf_o179, hf_o26, mo_i1]; trivial) | (simp only [hf_o179, hf_o26, mo_i1]; done) | omega)⟩⟩, by rw [ht]; exact hP, va_K.moved hW.alike hK, hD⟩, hS.F ht⟩) hS.2.2 dX12_sail_28
end

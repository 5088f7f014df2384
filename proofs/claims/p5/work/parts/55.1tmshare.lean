set_option maxHeartbeats 4000000 in
set_option maxRecDepth 100000 in
theorem t_X12_share (l : Launch) (dC : Nat → ClassId) (dI : Nat → Nat → Nat) (sz : Nat) (κ : Nat → ClassId) (τ ν : Nat → Nat) (ρ : Nat → Nat → Nat) (L : List Nat) (f : Nat → va_E) (hG : tp_G τ ν ρ L) (hT : tp_T (mo_O κ) κ τ ν ρ f) (h0 : Nat) (v : Int32) (u : Int32) (a : Int32) (ht_h0 : τ h0 = 13) (hr_u : 0 ≤ u.toInt ∧ u.toInt ≤ 6) (hr_a : 0 ≤ a.toInt ∧ a.toInt ≤ 3) (hv0 : 0 ≤ v.toInt) : Met l yX12_share wqX12_share ({ frames := 2, cells := 0, slots := 0, locals := 400 }) (va_Pc [.ref h0, .int v, .int u, .int a] (pz_B dC dI (tp_K κ) (va_pl L f) sz)) (va_Qi (fun (r : Int32) (f1 : Nat → va_E) => tp_T (mo_O κ) κ τ ν ρ f1 ∧ tp_F τ [81, 82] f f1 ∧ True ∧ mo_SB (mo_R (mo_i (f1 (ρ h0 51)))) (mo_R (mo_i (f1 (ρ h0 52)))) u.toInt a.toInt (-1) ∧ (v.toInt + 1 = mo_pw a.toInt u.toInt.toNat → ∀ s9, 0 ≤ s9 → s9 < 3 → (mo_R (mo_i (f1 (ρ h0 52)))) s9 = 0)) (fun (f1 : Nat → va_E) (t : State) => pz_E dC dI (tp_K κ) (va_A (va_pl L f) sz) (va_pl L f1) t) (va_A (va_pl L f) sz)) 0 0 (va_A (va_pl L f) sz) := by
  refine Met.ofW (cc := cX12_share) (maxL := 7) (ret := some .int) (by decide) rfl ?_
  intro p e s m args below meth c s₁ B hml hv
  obtain ⟨rfl, hsz, hP, hK, hD0, hN⟩ := hv
  have hx := B.exec
  have hb := B.bytes
  have hr := B.returns
  have hts := fun (w : Cond) (h : w ∈ WALL) => atoms_spec (ws := wqX12_share) B.pre w (List.mem_cons_of_mem _ h)
  have hown : s.vm.findClass RX12 = some m.cls := findClass_of_methodNamed B.named
  have hlocks := B.notSynchronized
  subst hsz
  have hD := hD0.self (sz := s.heap.size)
  generalize hAe : va_A (va_pl L f) s.heap.size = A at hD ⊢
  have hA : ∀ q : Nat, s.heap.size ≤ q → A q := fun q h => by rw [← hAe]; exact Or.inr h
  have hS : va_S A s.heap s.heap [] := va_S.rf
  have hR : tp_F τ [81, 82] f f := tp_F.rf
  have hl := lv_entry ([.ref h0, .int v, .int u, .int a]) (n := 7) (Nat.le_of_ble_eq_true rfl)
  rw [lg_entry_eq]
  generalize (lg_sl ([.ref h0, .int v, .int u, .int a]) ++ List.replicate (7 - (lg_sl ([.ref h0, .int v, .int u, .int a])).length) Slot.unset).toArray = ls at hl ⊢
  have hl : lv_has ls 7 [(0, .ref h0), (1, .int v), (2, .int u), (3, .int a)] := hl
  refine lv_iconst (v := 0) hx hb dX12_share_0 (by decide) ?_
  refine lv_istore (lv' := [(4, .int 0), (0, .ref h0), (1, .int v), (2, .int u), (3, .int a)]) hx hb dX12_share_1 hl (by decide) rfl (fun ls hl => ?_)
  obtain ⟨y2, y3, y4, y5, y6, y7, y8, y9, y10, y11, y12, y13, y14, y15, y16, y17, y18, y19, y20, y21, y22, y23, y24, y25, y26⟩ := tpg_13 hG ht_h0
  obtain ⟨g28, hf_o27⟩ := tpo_82 hT y26
  refine pz_loop (fun n0 H locs ls => ∃ f29 : Nat → va_E, ∃ w1 : Int32, n0 = (3 - (w1.toInt)).toNat ∧ tp_T (mo_O κ) κ τ ν ρ f29 ∧ tp_F τ [81, 82] f f29 ∧ ((∀ s9, 0 ≤ s9 → s9 < (w1.toInt) → (mo_R (mo_i (f29 (ρ h0 52)))) s9 = 0)) ∧ (0 ≤ w1.toInt ∧ w1.toInt ≤ 3) ∧ va_P (dC, dI) vwCl (va_pl L f29) H ∧ va_D A (va_pl L f29) ∧ va_S A s.heap H locs ∧ lv_has ls 7 [(4, .int w1), (0, .ref h0), (1, .int v), (2, .int u), (3, .int a)]) ?_ _ _ _ _ ⟨f, 0, rfl, hT, hR, (by simp only [hf_o27, mo_i1, mo_l1]; exact (show ∀ s9, 0 ≤ s9 → s9 < (0 : Int32).toInt → (mo_R g28) s9 = 0 from (fun s9 s0 s1 => absurd s1 (by have : (0 : Int32).toInt = 0 := rfl; omega)))), (by have : (0 : Int32).toInt = 0 := rfl; omega), hP, hD, hS, lv_sub hl [0, 1, 2, 3, 4] rfl⟩
  intro n0 H locs ls hI ih31
  obtain ⟨f29, w1, hn32, hT, hR, jf33, rw1, hP, hD, hS, hl⟩ := hI
  obtain ⟨g35, hf_o34⟩ := tpo_82 hT y26
  have jf33 : ∀ s9, 0 ≤ s9 → s9 < (w1.toInt) → (mo_R g35) s9 = 0 := by have q9 := jf33; simp only [hf_o34, mo_i1, mo_l1] at q9; exact q9
  refine lv_iload hx hb dX12_share_3 (lv_at hl 0 rfl) ?_
  refine lv_iconst (v := 3) hx hb dX12_share_5 (by decide) ?_
  refine lv_icmp_ge (tgt := 23) hx hb dX12_share_6 (by decide) (fun c36 => ?_) (fun c36 => ?_)
  · have ic36 : w1.toInt ≥ 3 := zi_ge rfl rfl c36
    refine lv_iload_n hx hb dX12_share_23 rfl (lv_at hl 2 rfl) ?_
    refine lv_istore (lv' := [(4, .int v), (0, .ref h0), (1, .int v), (2, .int u), (3, .int a)]) hx hb dX12_share_24 hl (by decide) rfl (fun ls hl => ?_)
    refine lv_iconst (v := 0) hx hb dX12_share_26 (by decide) ?_
    refine lv_istore (lv' := [(5, .int 0), (4, .int v), (0, .ref h0), (1, .int v), (2, .int u), (3, .int a)]) hx hb dX12_share_27 hl (by decide) rfl (fun ls hl => ?_)
    refine lv_iload_n hx hb dX12_share_29 rfl (lv_at hl 4 rfl) ?_
    refine lv_iconst (v := 1) hx hb dX12_share_30 (by decide) ?_
    refine lv_isub hx hb dX12_share_31 ?_
    refine lv_topi (fun z37 ez37 => ?_)
    have iz37 : z37.toInt = u.toInt - 1 := zi_sub ez37 rfl rfl (by omega) (by omega)
    refine lv_istore (lv' := [(6, .int z37), (5, .int 0), (4, .int v), (0, .ref h0), (1, .int v), (2, .int u), (3, .int a)]) hx hb dX12_share_32 hl (by decide) rfl (fun ls hl => ?_)
    obtain ⟨g43, hf_o42⟩ := tpo_81 hT y25
    refine pz_loop (fun n0 H locs ls => ∃ f44 : Nat → va_E, ∃ w38 : Int32, ∃ w39 : Int32, ∃ w40 : Int32, n0 = ((w38.toInt) + 1).toNat ∧ tp_T (mo_O κ) κ τ ν ρ f44 ∧ tp_F τ [81, 82] f f44 ∧ ((mo_SB (mo_R (mo_i (f44 (ρ h0 51)))) (mo_R (mo_i (f44 (ρ h0 52)))) u.toInt a.toInt (w38.toInt))) ∧ (((v.toInt + 1 = mo_pw a.toInt u.toInt.toNat → (w40.toInt) + 1 = mo_pw a.toInt ((w38.toInt) + 1).toNat ∧ ∀ s9, 0 ≤ s9 → s9 < 3 → (mo_R (mo_i (f44 (ρ h0 52)))) s9 = 0))) ∧ ((-1) ≤ w38.toInt ∧ w38.toInt ≤ 5) ∧ (0 ≤ w40.toInt) ∧ ((w38.toInt) < u.toInt) ∧ va_P (dC, dI) vwCl (va_pl L f44) H ∧ va_D A (va_pl L f44) ∧ va_S A s.heap H locs ∧ lv_has ls 7 [(6, .int w38), (5, .int w39), (4, .int w40), (0, .ref h0), (1, .int v), (2, .int u), (3, .int a)]) ?_ _ _ _ _ ⟨f29, z37, 0, v, rfl, hT, hR, (by simp only [hf_o42, hf_o34, mo_i1, mo_l1]; exact (show mo_SB (mo_R g43) (mo_R g35) u.toInt a.toInt (z37.toInt) from mo_SB.rf (by omega) (fun s9 s0 s1 => jf33 s9 s0 (by omega)))), (by simp only [hf_o34, mo_i1, mo_l1]; exact (show (v.toInt + 1 = mo_pw a.toInt u.toInt.toNat → (v.toInt) + 1 = mo_pw a.toInt ((z37.toInt) + 1).toNat ∧ ∀ s9, 0 ≤ s9 → s9 < 3 → (mo_R g35) s9 = 0) from (fun q9 => ⟨by rw [show (z37.toInt + 1).toNat = u.toInt.toNat by omega]; exact q9, fun s9 s0 s1 => jf33 s9 s0 (by omega)⟩))), (by have : (0 : Int32).toInt = 0 := rfl; omega), (by have : (0 : Int32).toInt = 0 := rfl; omega), (by have : (0 : Int32).toInt = 0 := rfl; omega), hP, hD, hS, lv_sub hl [0, 1, 2, 3, 4, 5, 6] rfl⟩
    intro n0 H locs ls hI ih46
    obtain ⟨f44, w38, w39, w40, hn47, hT, hR, jf48, jf49, rw38, rw40, k41, hP, hD, hS, hl⟩ := hI
    obtain ⟨g51, hf_o50⟩ := tpo_81 hT y25
    obtain ⟨g53, hf_o52⟩ := tpo_82 hT y26
    have jf48 : mo_SB (mo_R g51) (mo_R g53) u.toInt a.toInt (w38.toInt) := by have q9 := jf48; simp only [hf_o50, hf_o52, mo_i1, mo_l1] at q9; exact q9
    have jf49 : (v.toInt + 1 = mo_pw a.toInt u.toInt.toNat → (w40.toInt) + 1 = mo_pw a.toInt ((w38.toInt) + 1).toNat ∧ ∀ s9, 0 ≤ s9 → s9 < 3 → (mo_R g53) s9 = 0) := by have q9 := jf49; simp only [hf_o52, mo_i1, mo_l1] at q9; exact q9
    refine lv_iload hx hb dX12_share_34 (lv_at hl 0 rfl) ?_
    refine lv_if_lt (tgt := 110) hx hb dX12_share_36 (by decide) (fun c54 => ?_) (fun c54 => ?_)
    · have ic54 : w38.toInt < 0 := zi_lt rfl rfl c54
      refine lv_iload hx hb dX12_share_110 (lv_at hl 1 rfl) ?_
      exact W.iret (v := w39) hx hb hr (fun t ht hW => ⟨⟨w39, f44, rfl, ⟨hT, hR, trivial, (by simp only [hf_o50, hf_o52, mo_i1, mo_l1]; exact (show mo_SB (mo_R g51) (mo_R g53) u.toInt a.toInt (-1) ∧ (v.toInt + 1 = mo_pw a.toInt u.toInt.toNat → ∀ s9, 0 ≤ s9 → s9 < 3 → (mo_R g53) s9 = 0) from ⟨by have q9 := jf48; rw [show w38.toInt = -1 by omega] at q9; exact q9, fun q9 => (jf49 q9).2⟩))⟩, by rw [ht]; exact hP, va_K.moved hW.alike hK, hD⟩, hS.F ht⟩) hS.2.2 dX12_share_112
    · have ic54 : w38.toInt ≥ 0 := zi_ltf rfl rfl c54
      have hmr := mo_modr (L := w40.toInt) (a := a.toInt) (by omega)
      refine lv_aload_n hx hb dX12_share_39 rfl (lv_at hl 3 rfl) ?_
      obtain ⟨o55_x0, o55_x1, o55_x7, o55_x9, o55_x10, o55_x11, o55_x12, o55_x13, o55_x14, o55_x15, o55_x16, o55_x17, o55_x18, o55_x19, o55_x20, o55_x22, o55_x25, o55_x28, o55_x29, o55_x32, o55_x33, o55_x34, o55_x35, o55_x36, o55_x37, o55_x38, o55_x47, o55_x48, hf_o55, ro55_0, ro55_1, ro55_2, ro55_3, ro55_4, ro55_5, ro55_6, ro55_7, ro55_8, ro55_9, ro55_10, ro55_11, ro55_12, ro55_13⟩ := tpo_13 hT ht_h0
      obtain ⟨q56, eq56⟩ := tp_pos (tp_in hG ht_h0 (by decide)) hf_o55
      refine va_get (D := (dC, dI)) (ci := 12) (v := .ref (ρ h0 51)) (C := RX12) (T := TX12) (N := 53) hx hb hts hfX12 hown hK hP q56 eq56 rfl 51 (by decide) (hts (.fieldLink RX12 85 "ColdShipsModel" "chosen" "[I") wa_173) (fun _ h9 => h9) rfl dX12_share_40 ?_
      refine lv_iload hx hb dX12_share_43 (lv_at hl 0 rfl) ?_
      refine lv_iload hx hb dX12_share_45 (lv_at hl 2 rfl) ?_
      refine lv_iload_n hx hb dX12_share_47 rfl (lv_at hl 6 rfl) ?_
      refine lv_iconst (v := 1) hx hb dX12_share_48 (by decide) ?_
      refine lv_iadd hx hb dX12_share_49 ?_
      refine lv_topi (fun z57 ez57 => ?_)
      have iz57 : z57.toInt = a.toInt + 1 := zi_add ez57 rfl rfl (by omega) (by omega)
      refine lv_irem hx hb dX12_share_50 (zi_nz (by omega) rfl) ?_
      refine lv_topi (fun z58 ez58 => ?_)
      have iz58 : z58.toInt = w40.toInt % (a.toInt + 1) := by have q9 := zi_rem ez58 (rfl : w40.toInt = _) (rfl : z57.toInt = _) (by omega) (by omega); rw [show z57.toInt = a.toInt + 1 by omega] at q9; exact q9
      obtain ⟨q59, eq59⟩ := tp_pos (tp_in hG y25 (by decide)) hf_o50
      refine va_iast hx hb hK hP hD hS q59 0 eq59 rfl (vp_in_iff.mpr ⟨by omega, by omega⟩) dX12_share_51 (tp_k (.inl (κ 0, 6, .inl (upd g51 w38.toNatClampNeg z58))) hD (tp_in hG y25 (by decide)) eq59 (fun f60 H locs hP hD hS g62 k61 => ?_))
      have hT := hT.up y25 g62 k61 tp_o81
      have hR := hR.up y25 (by decide) k61
      have hU64 : mo_U (mo_R g51) (mo_R (upd g51 w38.toNatClampNeg z58)) (w38.toInt) (z58.toInt) := mo_up (by omega) (rfl : z58.toInt = _) (by omega)
      generalize (upd g51 w38.toNatClampNeg z58) = g63 at g62 hU64
      have hU64e := hU64.eq (by omega)
      refine lv_iload hx hb dX12_share_52 (lv_at hl 2 rfl) ?_
      refine lv_iload_n hx hb dX12_share_54 rfl (lv_at hl 6 rfl) ?_
      refine lv_iconst (v := 1) hx hb dX12_share_55 (by decide) ?_
      refine lv_iadd hx hb dX12_share_56 ?_
      refine lv_topi (fun z65 ez65 => ?_)
      have iz65 : z65.toInt = a.toInt + 1 := zi_add ez65 rfl rfl (by omega) (by omega)
      refine lv_idiv hx hb dX12_share_57 (zi_nz (by omega) rfl) ?_
      refine lv_topi (fun z66 ez66 => ?_)
      have iz66 : z66.toInt = w40.toInt / (a.toInt + 1) := by have q9 := zi_div ez66 (rfl : w40.toInt = _) (rfl : z65.toInt = _) (by omega) (by omega); rw [show z65.toInt = a.toInt + 1 by omega] at q9; exact q9
      have kz66 : 0 ≤ z66.toInt ∧ z66.toInt ≤ w40.toInt := ⟨by rw [iz66]; exact Int.ediv_nonneg (by omega) (by omega), by rw [iz66]; exact Int.ediv_le_self _ (by omega)⟩
      refine lv_istore (lv' := [(4, .int z66), (6, .int w38), (5, .int w39), (0, .ref h0), (1, .int v), (2, .int u), (3, .int a)]) hx hb dX12_share_58 hl (by decide) rfl (fun ls hl => ?_)
      refine lv_aload_n hx hb dX12_share_60 rfl (lv_at hl 3 rfl) ?_
      have hf_67 : f60 h0 = .inr (12, [.int o55_x0, .int o55_x1, .ref (ρ h0 2), .ref (ρ h0 3), .ref (ρ h0 4), .ref (ρ h0 5), .ref (ρ h0 6), .int o55_x7, .ref (ρ h0 8), .int o55_x9, .int o55_x10, .int o55_x11, .int o55_x12, .long o55_x13, .int o55_x14, .int o55_x15, .int o55_x16, .int o55_x17, .int o55_x18, .int o55_x19, .int o55_x20, .ref (ρ h0 21), .int o55_x22, .ref (ρ h0 23), .ref (ρ h0 24), .int o55_x25, .ref (ρ h0 26), .ref (ρ h0 27), .int o55_x28, .int o55_x29, .ref (ρ h0 30), .ref (ρ h0 31), .int o55_x32, .long o55_x33, .long o55_x34, .long o55_x35, .int o55_x36, .int o55_x37, .int o55_x38, .ref (ρ h0 39), .ref (ρ h0 40), .ref (ρ h0 41), .ref (ρ h0 42), .ref (ρ h0 43), .ref (ρ h0 44), .ref (ρ h0 45), .ref (ρ h0 46), .int o55_x47, .int o55_x48, .ref (ρ h0 49), .ref (ρ h0 50), .ref (ρ h0 51), .ref (ρ h0 52)]) := (k61 _ (tp_ne ht_h0 y25 (by decide))).trans hf_o55
      obtain ⟨q68, eq68⟩ := tp_pos (tp_in hG ht_h0 (by decide)) hf_67
      refine va_get (D := (dC, dI)) (ci := 12) (v := .ref (ρ h0 51)) (C := RX12) (T := TX12) (N := 53) hx hb hts hfX12 hown hK hP q68 eq68 rfl 51 (by decide) (hts (.fieldLink RX12 85 "ColdShipsModel" "chosen" "[I") wa_173) (fun _ h9 => h9) rfl dX12_share_61 ?_
      refine lv_iload hx hb dX12_share_64 (lv_at hl 1 rfl) ?_
      obtain ⟨q69, eq69⟩ := tp_pos (tp_in hG y25 (by decide)) g62
      refine va_iald hx hb hK hP q69 0 eq69 rfl (vp_in_iff.mpr ⟨by omega, by omega⟩) dX12_share_66 ?_
      refine lv_topi (fun z70 ez70 => ?_)
      have jz70 : z70.toInt = mo_R g63 w38.toInt := mo_rd ez70 (by omega)
      refine lv_iload_n hx hb dX12_share_67 rfl (lv_at hl 6 rfl) ?_
      refine lv_icmp_ge (tgt := 96) hx hb dX12_share_68 (by decide) (fun c71 => ?_) (fun c71 => ?_)
      · have ic71 : z70.toInt ≥ a.toInt := zi_ge rfl rfl c71
        refine lv_aload_n hx hb dX12_share_96 rfl (lv_at hl 3 rfl) ?_
        refine va_get (D := (dC, dI)) (ci := 12) (v := .ref (ρ h0 51)) (C := RX12) (T := TX12) (N := 53) hx hb hts hfX12 hown hK hP q68 eq68 rfl 51 (by decide) (hts (.fieldLink RX12 85 "ColdShipsModel" "chosen" "[I") wa_173) (fun _ h9 => h9) rfl dX12_share_97 ?_
        refine lv_iload hx hb dX12_share_100 (lv_at hl 1 rfl) ?_
        refine lv_iconst (v := (-1)) hx hb dX12_share_102 (by decide) ?_
        refine va_iast hx hb hK hP hD hS q69 0 eq69 rfl (vp_in_iff.mpr ⟨by omega, by omega⟩) dX12_share_103 (tp_k (.inl (κ 0, 6, .inl (upd g63 w38.toNatClampNeg ((-1) : Int32)))) hD (tp_in hG y25 (by decide)) eq69 (fun f72 H locs hP hD hS g74 k73 => ?_))
        have hT := hT.up y25 g74 k73 tp_o81
        have hR := hR.up y25 (by decide) k73
        have hU76 : mo_U (mo_R g63) (mo_R (upd g63 w38.toNatClampNeg ((-1) : Int32))) (w38.toInt) ((-1)) := mo_up (by omega) (show ((-1) : Int32).toInt = (-1) from rfl) (by omega)
        generalize (upd g63 w38.toNatClampNeg ((-1) : Int32)) = g75 at g74 hU76
        have hU76e := hU76.eq (by omega)
        obtain ⟨z77, ez77⟩ : ∃ y : Int32, y = w38 + (-1) := ⟨_, rfl⟩
        refine lv_iinc (v := z77) (lv' := [(6, .int z77), (4, .int z66), (5, .int w39), (0, .ref h0), (1, .int v), (2, .int u), (3, .int a)]) hx hb dX12_share_104 hl (k := 1) rfl (by rw [ez77]; rfl) (by decide) rfl (fun ls hl => ?_)
        have iz77 : z77.toInt = w38.toInt + (-1) := zi_add ez77 rfl rfl (by omega) (by omega)
        refine lv_goto (tgt := 34) hx hb dX12_share_107 (by decide) ?_
        have hf_78 : f60 (ρ h0 52) = .inl (κ 0, 3, .inl g53) := (k61 _ (tp_ne y26 y25 (by decide))).trans hf_o52
        have hf_79 : f72 (ρ h0 52) = .inl (κ 0, 3, .inl g53) := (k73 _ (tp_ne y26 y25 (by decide))).trans hf_78
        exact ih46 _ _ _ _ (by rw [hn47]; omega) ⟨f72, z77, w39, z66, rfl, hT, hR, (by simp only [g74, hf_79, mo_i1, mo_l1]; exact (show mo_SB (mo_R g75) (mo_R g53) u.toInt a.toInt (z77.toInt) from jf48.no (by omega) (fun j j0 j1 => (hU76.ne j0 j1).trans (hU64.ne j0 j1)) (hU76.eq (by omega)) (by omega))), (by simp only [hf_79, mo_i1, mo_l1]; exact (show (v.toInt + 1 = mo_pw a.toInt u.toInt.toNat → (z66.toInt) + 1 = mo_pw a.toInt ((z77.toInt) + 1).toNat ∧ ∀ s9, 0 ≤ s9 → s9 < 3 → (mo_R g53) s9 = 0) from (fun q9 => by obtain ⟨l1, l2⟩ := jf49 q9; have l3 : w40.toInt + 1 = (a.toInt + 1) * mo_pw a.toInt w38.toInt.toNat := by rw [l1, show (w38.toInt + 1).toNat = w38.toInt.toNat + 1 by omega]; rfl; have l4 := mo_last l3 (by omega) (by omega); refine ⟨by rw [show (z77.toInt + 1).toNat = w38.toInt.toNat by omega]; omega, l2⟩))), (by omega), (by omega), (by omega), hP, hD, hS, lv_sub hl [0, 2, 1, 3, 4, 5, 6] rfl⟩
      · have ic71 : z70.toInt < a.toInt := zi_gef rfl rfl c71
        refine lv_aload_n hx hb dX12_share_71 rfl (lv_at hl 3 rfl) ?_
        refine va_get (D := (dC, dI)) (ci := 12) (v := .ref (ρ h0 52)) (C := RX12) (T := TX12) (N := 53) hx hb hts hfX12 hown hK hP q68 eq68 rfl 52 (by decide) (hts (.fieldLink RX12 88 "ColdShipsModel" "sets" "[I") wa_174) (fun _ h9 => h9) rfl dX12_share_72 ?_
        refine lv_aload_n hx hb dX12_share_75 rfl (lv_at hl 3 rfl) ?_
        refine va_get (D := (dC, dI)) (ci := 12) (v := .ref (ρ h0 51)) (C := RX12) (T := TX12) (N := 53) hx hb hts hfX12 hown hK hP q68 eq68 rfl 51 (by decide) (hts (.fieldLink RX12 85 "ColdShipsModel" "chosen" "[I") wa_173) (fun _ h9 => h9) rfl dX12_share_76 ?_
        refine lv_iload hx hb dX12_share_79 (lv_at hl 1 rfl) ?_
        refine va_iald hx hb hK hP q69 0 eq69 rfl (vp_in_iff.mpr ⟨by omega, by omega⟩) dX12_share_81 ?_
        refine lv_topi (fun z80 ez80 => ?_)
        have jz80 : z80.toInt = mo_R g63 w38.toInt := mo_rd ez80 (by omega)
        refine lv_dup2_11 hx hb dX12_share_82 rfl rfl ?_
        have hf_81 : f60 (ρ h0 52) = .inl (κ 0, 3, .inl g53) := (k61 _ (tp_ne y26 y25 (by decide))).trans hf_o52
        obtain ⟨q82, eq82⟩ := tp_pos (tp_in hG y26 (by decide)) hf_81
        refine va_iald hx hb hK hP q82 0 eq82 rfl (vp_in_iff.mpr ⟨by omega, by omega⟩) dX12_share_83 ?_
        refine lv_topi (fun z83 ez83 => ?_)
        have jz83 : z83.toInt = mo_R g53 z80.toInt := mo_rd ez83 (by omega)
        have hsx := (jf48.2 z80.toInt (by omega) (by omega)).1
        refine lv_iconst (v := 1) hx hb dX12_share_84 (by decide) ?_
        refine lv_iload hx hb dX12_share_85 (lv_at hl 1 rfl) ?_
        refine lv_ishl hx hb dX12_share_87 ?_
        refine lv_topi (fun z84 ez84 => ?_)
        have iz84 : 1 ≤ z84.toInt ∧ z84.toInt ≤ 32 := zb_shl5 ez84 rfl (by omega) (by omega)
        refine lv_ior hx hb dX12_share_88 ?_
        refine lv_topi (fun z85 ez85 => ?_)
        have iz85 : 0 ≤ z85.toInt ∧ z85.toInt ≤ 63 := zb_or 6 ez85 (rfl : z83.toInt = _) (rfl : z84.toInt = _) (by omega) (by omega) (by omega) (by omega) (by decide)
        have hor := zb_orbit ez84 ez85 (by omega) (by omega) (by omega) (by omega)
        refine va_iast hx hb hK hP hD hS q82 0 eq82 rfl (vp_in_iff.mpr ⟨by omega, by omega⟩) dX12_share_89 (tp_k (.inl (κ 0, 3, .inl (upd g53 z80.toNatClampNeg z85))) hD (tp_in hG y26 (by decide)) eq82 (fun f86 H locs hP hD hS g88 k87 => ?_))
        have hT := hT.up y26 g88 k87 tp_o82
        have hR := hR.up y26 (by decide) k87
        have hU90 : mo_U (mo_R g53) (mo_R (upd g53 z80.toNatClampNeg z85)) (z80.toInt) (z85.toInt) := mo_up (by omega) (rfl : z85.toInt = _) (by omega)
        generalize (upd g53 z80.toNatClampNeg z85) = g89 at g88 hU90
        have hU90e := hU90.eq (by omega)
        obtain ⟨z91, ez91⟩ : ∃ y : Int32, y = w39 + 1 := ⟨_, rfl⟩
        refine lv_iinc (v := z91) (lv' := [(5, .int z91), (4, .int z66), (6, .int w38), (0, .ref h0), (1, .int v), (2, .int u), (3, .int a)]) hx hb dX12_share_90 hl (k := 2) rfl (by rw [ez91]; rfl) (by decide) rfl (fun ls hl => ?_)
        refine lv_goto (tgt := 104) hx hb dX12_share_93 (by decide) ?_
        obtain ⟨z92, ez92⟩ : ∃ y : Int32, y = w38 + (-1) := ⟨_, rfl⟩
        refine lv_iinc (v := z92) (lv' := [(6, .int z92), (5, .int z91), (4, .int z66), (0, .ref h0), (1, .int v), (2, .int u), (3, .int a)]) hx hb dX12_share_104 hl (k := 2) rfl (by rw [ez92]; rfl) (by decide) rfl (fun ls hl => ?_)
        have iz92 : z92.toInt = w38.toInt + (-1) := zi_add ez92 rfl rfl (by omega) (by omega)
        refine lv_goto (tgt := 34) hx hb dX12_share_107 (by decide) ?_
        have hf_93 : f86 (ρ h0 51) = .inl (κ 0, 6, .inl g63) := (k87 _ (tp_ne y25 y26 (by decide))).trans g62
        exact ih46 _ _ _ _ (by rw [hn47]; omega) ⟨f86, z92, z91, z66, rfl, hT, hR, (by simp only [hf_93, g88, mo_i1, mo_l1]; exact (show mo_SB (mo_R g63) (mo_R g89) u.toInt a.toInt (z92.toInt) from jf48.yes (by omega) (fun j j0 j1 => hU64.ne j0 j1) jz80.symm (by omega) hU90 (by omega) hor.1 (fun d d0 d1 => by rw [hor.2 d d0 d1, jz83]) (by omega))), (by simp only [g88, mo_i1, mo_l1]; exact (show (v.toInt + 1 = mo_pw a.toInt u.toInt.toNat → (z66.toInt) + 1 = mo_pw a.toInt ((z92.toInt) + 1).toNat ∧ ∀ s9, 0 ≤ s9 → s9 < 3 → (mo_R g89) s9 = 0) from (fun q9 => by obtain ⟨l1, l2⟩ := jf49 q9; have l3 : w40.toInt + 1 = (a.toInt + 1) * mo_pw a.toInt w38.toInt.toNat := by rw [l1, show (w38.toInt + 1).toNat = w38.toInt.toNat + 1 by omega]; rfl; have l4 := mo_last l3 (by omega) (by omega); refine ⟨by rw [show (z92.toInt + 1).toNat = w38.toInt.toNat by omega]; omega, (by exfalso; omega)⟩))), (by omega), (by omega), (by omega), hP, hD, hS, lv_sub hl [0, 1, 2, 3, 4, 5, 6] rfl⟩
  · have ic36 : w1.toInt < 3 := zi_gef rfl rfl c36
    refine lv_aload_n hx hb dX12_share_9 rfl (lv_at hl 1 rfl) ?_
    obtain ⟨o94_x0, o94_x1, o94_x7, o94_x9, o94_x10, o94_x11, o94_x12, o94_x13, o94_x14, o94_x15, o94_x16, o94_x17, o94_x18, o94_x19, o94_x20, o94_x22, o94_x25, o94_x28, o94_x29, o94_x32, o94_x33, o94_x34, o94_x35, o94_x36, o94_x37, o94_x38, o94_x47, o94_x48, hf_o94, ro94_0, ro94_1, ro94_2, ro94_3, ro94_4, ro94_5, ro94_6, ro94_7, ro94_8, ro94_9, ro94_10, ro94_11, ro94_12, ro94_13⟩ := tpo_13 hT ht_h0
    obtain ⟨q95, eq95⟩ := tp_pos (tp_in hG ht_h0 (by decide)) hf_o94
    refine va_get (D := (dC, dI)) (ci := 12) (v := .ref (ρ h0 52)) (C := RX12) (T := TX12) (N := 53) hx hb hts hfX12 hown hK hP q95 eq95 rfl 52 (by decide) (hts (.fieldLink RX12 88 "ColdShipsModel" "sets" "[I") wa_174) (fun _ h9 => h9) rfl dX12_share_10 ?_
    refine lv_iload hx hb dX12_share_13 (lv_at hl 0 rfl) ?_
    refine lv_iconst (v := 0) hx hb dX12_share_15 (by decide) ?_
    obtain ⟨q96, eq96⟩ := tp_pos (tp_in hG y26 (by decide)) hf_o34
    refine va_iast hx hb hK hP hD hS q96 0 eq96 rfl (vp_in_iff.mpr ⟨by omega, by omega⟩) dX12_share_16 (tp_k (.inl (κ 0, 3, .inl (upd g35 w1.toNatClampNeg (0 : Int32)))) hD (tp_in hG y26 (by decide)) eq96 (fun f97 H locs hP hD hS g99 k98 => ?_))
    have hT := hT.up y26 g99 k98 tp_o82
    have hR := hR.up y26 (by decide) k98
    have hU101 : mo_U (mo_R g35) (mo_R (upd g35 w1.toNatClampNeg (0 : Int32))) (w1.toInt) (0) := mo_up (by omega) (show (0 : Int32).toInt = 0 from rfl) (by omega)
    generalize (upd g35 w1.toNatClampNeg (0 : Int32)) = g100 at g99 hU101
    have hU101e := hU101.eq (by omega)
    obtain ⟨z102, ez102⟩ : ∃ y : Int32, y = w1 + 1 := ⟨_, rfl⟩
    refine lv_iinc (v := z102) (lv' := [(4, .int z102), (0, .ref h0), (1, .int v), (2, .int u), (3, .int a)]) hx hb dX12_share_17 hl (k := 0) rfl (by rw [ez102]; rfl) (by decide) rfl (fun ls hl => ?_)
    have iz102 : z102.toInt = w1.toInt + 1 := zi_add ez102 rfl rfl (by omega) (by omega)
    refine lv_goto (tgt := 3) hx hb dX12_share_20 (by decide) ?_
    exact ih31 _ _ _ _ (by rw [hn32]; omega) ⟨f97, z102, rfl, hT, hR, (by simp only [g99, mo_i1, mo_l1]; exact (show ∀ s9, 0 ≤ s9 → s9 < (z102.toInt) → (mo_R g100) s9 = 0 from (fun s9 s0 s1 => by rcases hU101.at s9 s0 with ⟨z0, a0⟩ | ⟨z0, a0⟩ <;> first | exact a0 | (rw [a0]; exact jf33 s9 s0 (by omega))))), (by omega), hP, hD, hS, lv_sub hl [0, 1, 2, 3, 4] rfl⟩
set_option maxHeartbeats 4000000 in
set_option maxRecDepth 100000 in
theorem t_X12_judge (l : Launch) (dC : Nat → ClassId) (dI : Nat → Nat → Nat) (sz : Nat) (κ : Nat → ClassId) (τ ν : Nat → Nat) (ρ : Nat → Nat → Nat) (L : List Nat) (f : Nat → va_E) (hG : tp_G τ ν ρ L) (hT : tp_T (mo_O κ) κ τ ν ρ f) (h0 : Nat) (v : Int32) (u : Int32) (a : Int32) (a4 : Int32) (a5 : Int32) (ht_h0 : τ h0 = 13) (hJ : mo_RI (-1) 0 (mo_R (mo_i (f (ρ h0 2))))) : Met l yX12_judge wqX12_judge ({ frames := 8, cells := 0, slots := 0, locals := 2800 }) (va_Pc [.ref h0, .int v, .int u, .int a, .int a4, .int a5] (pz_B dC dI (tp_K κ) (va_pl L f) sz)) (va_Ql (fun (r : Int64) (f1 : Nat → va_E) => tp_T (mo_O κ) κ τ ν ρ f1 ∧ tp_F τ [13, 69, 70, 71, 72] f f1 ∧ True ∧ True) (fun (f1 : Nat → va_E) (t : State) => pz_E dC dI (tp_K κ) (va_A (va_pl L f) sz) (va_pl L f1) t) (va_A (va_pl L f) sz)) 0 0 (va_A (va_pl L f) sz) := by
  refine Met.ofW (cc := cX12_judge) (maxL := 9) (ret := some .long) (by decide) rfl ?_
  intro p e s m args below meth c s₁ B hml hv
  obtain ⟨rfl, hsz, hP, hK, hD0, hN⟩ := hv
  have hx := B.exec
  have hb := B.bytes
  have hr := B.returns
  have hts := fun (w : Cond) (h : w ∈ WALL) => atoms_spec (ws := wqX12_judge) B.pre w (List.mem_cons_of_mem _ h)
  have hown : s.vm.findClass RX12 = some m.cls := findClass_of_methodNamed B.named
  have hlocks := B.notSynchronized
  subst hsz
  have hD := hD0.self (sz := s.heap.size)
  generalize hAe : va_A (va_pl L f) s.heap.size = A at hD ⊢
  have hA : ∀ q : Nat, s.heap.size ≤ q → A q := fun q h => by rw [← hAe]; exact Or.inr h
  have hS : va_S A s.heap s.heap [] := va_S.rf
  have hR : tp_F τ [13, 69, 70, 71, 72] f f := tp_F.rf
  have hl := lv_entry ([.ref h0, .int v, .int u, .int a, .int a4, .int a5]) (n := 9) (Nat.le_of_ble_eq_true rfl)
  rw [lg_entry_eq]
  generalize (lg_sl ([.ref h0, .int v, .int u, .int a, .int a4, .int a5]) ++ List.replicate (9 - (lg_sl ([.ref h0, .int v, .int u, .int a, .int a4, .int a5])).length) Slot.unset).toArray = ls at hl ⊢
  have hl : lv_has ls 9 [(0, .ref h0), (1, .int v), (2, .int u), (3, .int a), (4, .int a4), (5, .int a5)] := hl
  obtain ⟨y1, y2, y3, y4, y5, y6, y7, y8, y9, y10, y11, y12, y13, y14, y15, y16, y17, y18, y19, y20, y21, y22, y23, y24, y25⟩ := tpg_13 hG ht_h0
  obtain ⟨g27, hf_o26⟩ := tpo_32 hT y1
  have hI : mo_RI (-1) 0 (mo_R g27) := by have q9 := hJ; rw [hf_o26, mo_i1] at q9; exact q9
  refine lv_aload_n hx hb dX12_judge_0 rfl (lv_at hl 0 rfl) ?_
  refine lv_iconst (v := 0) hx hb dX12_judge_1 (by decide) ?_
  obtain ⟨o28_x0, o28_x1, o28_x7, o28_x9, o28_x10, o28_x11, o28_x12, o28_x13, o28_x14, o28_x15, o28_x16, o28_x17, o28_x18, o28_x19, o28_x20, o28_x22, o28_x25, o28_x28, o28_x29, o28_x32, o28_x33, o28_x34, o28_x35, o28_x36, o28_x37, o28_x38, o28_x47, o28_x48, hf_o28, ro28_0, ro28_1, ro28_2, ro28_3, ro28_4, ro28_5, ro28_6, ro28_7, ro28_8, ro28_9, ro28_10, ro28_11, ro28_12, ro28_13⟩ := tpo_13 hT ht_h0
  obtain ⟨q29, eq29⟩ := tp_pos (tp_in hG ht_h0 (by decide)) hf_o28
  refine va_put (D := (dC, dI)) (ci := 12) (v := .int 0) (ty := .int) (C := RX12) (T := TX12) (N := 53) hx hb hts hfX12 tyX12 tyX12_ok nmX12 hown hK hP hD hS q29 eq29 rfl 0 (by decide) (hts (.fieldLink RX12 91 "ColdShipsModel" "thrown" "I") wa_209) (fun _ h9 => h9) rfl (tyX12_ok 0 (by decide)) rfl rfl (Nat.le_of_ble_eq_true rfl) dX12_judge_2 (tp_k (.inr (12, [.int 0, .int o28_x1, .ref (ρ h0 2), .ref (ρ h0 3), .ref (ρ h0 4), .ref (ρ h0 5), .ref (ρ h0 6), .int o28_x7, .ref (ρ h0 8), .int o28_x9, .int o28_x10, .int o28_x11, .int o28_x12, .long o28_x13, .int o28_x14, .int o28_x15, .int o28_x16, .int o28_x17, .int o28_x18, .int o28_x19, .int o28_x20, .ref (ρ h0 21), .int o28_x22, .ref (ρ h0 23), .ref (ρ h0 24), .int o28_x25, .ref (ρ h0 26), .ref (ρ h0 27), .int o28_x28, .int o28_x29, .ref (ρ h0 30), .ref (ρ h0 31), .int o28_x32, .long o28_x33, .long o28_x34, .long o28_x35, .int o28_x36, .int o28_x37, .int o28_x38, .ref (ρ h0 39), .ref (ρ h0 40), .ref (ρ h0 41), .ref (ρ h0 42), .ref (ρ h0 43), .ref (ρ h0 44), .ref (ρ h0 45), .ref (ρ h0 46), .int o28_x47, .int o28_x48, .ref (ρ h0 49), .ref (ρ h0 50), .ref (ρ h0 51), .ref (ρ h0 52)])) hD (tp_in hG ht_h0 (by decide)) eq29 (fun f30 H locs hP hD hS g32 k31 => ?_))
  have hT := hT.up ht_h0 g32 k31 ⟨_, _, _, _, _, _, _, _, _, _, _, _, _, _, _, _, _, _, _, _, _, _, _, _, _, _, _, _, rfl, ro28_0, ro28_1, ro28_2, ro28_3, ro28_4, ro28_5, ro28_6, ro28_7, ro28_8, ro28_9, ro28_10, ro28_11, ro28_12, ro28_13⟩
  have hR := hR.up ht_h0 (by decide) k31
  refine lv_aload_n hx hb dX12_judge_5 rfl (lv_at hl 0 rfl) ?_
  refine lv_iload_n hx hb dX12_judge_6 rfl (lv_at hl 1 rfl) ?_
  have hf_33 : f30 (ρ h0 2) = .inl (κ 0, 12967, .inl g27) := (k31 _ (tp_ne y1 ht_h0 (by decide))).trans hf_o26
  obtain ⟨q34, eq34⟩ := tp_pos (tp_in hG ht_h0 (by decide)) g32
  refine pz_calli (va_runV (As := [.int v]) (rest := []) ⟨hx, hb, hml, hown, hts⟩ (t_X12_isShip l dC dI _ κ τ ν ρ L f30 hG hT h0 v (-1) 0 ht_h0 (by omega) (by rw [hf_33, mo_i1]; exact hI)) (cwV 1 hts gX12_judge_X12_isShip rfl rfl rfl ⟨rfl, pd_X12_isShip⟩ ⟨Nat.le_of_ble_eq_true rfl, Nat.le_of_ble_eq_true rfl⟩) ⟨pz_blind, va_recv hK hP (ci := 12) (q0 := q34) rfl eq34, pz_pre hP hK hD hN⟩ rfl rfl hl.1 rfl (lv_room (Nat.le_of_ble_eq_true rfl)) dX12_judge_7 ⟨Nat.le_of_ble_eq_true rfl, Nat.le_of_ble_eq_true rfl⟩) (fun r35 hw36 => ?_)
  obtain ⟨hw36r, hw36p⟩ := hw36
  have := hI.k1
  rw [hf_33, mo_i1] at hw36p
  refine lv_if_eq (tgt := 21) hx hb dX12_judge_10 (by decide) (fun c37 => ?_) (fun c37 => ?_)
  · have ic37 : r35.toInt = 0 := zi_eq rfl rfl c37
    refine lv_ldc2 (own := RX12) (v := (-2000000000000000)) hx hb hown (hts (.constantLong RX12 466 (-2000000000000000)) wa_1189) dX12_judge_21 ?_
    exact W.lret (v := (-2000000000000000)) hx hb hr (fun t ht hW => ⟨⟨(-2000000000000000), f30, rfl, ⟨hT, hR, trivial, trivial⟩, by rw [ht]; exact hP, va_K.moved hW.alike hK, hD⟩, hS.F ht⟩) hS.2.2 dX12_judge_24
  · have ic37 : r35.toInt ≠ 0 := zi_eqf rfl rfl c37
    have p38 : 0 ≤ v.toInt ∧ v.toInt < mo_R g27 1 := (tp_cond.yes hw36p) (by omega)
    refine lv_iload hx hb dX12_judge_13 (lv_at hl 5 rfl) ?_
    refine pz_calli (va_runS (As := [.int a5]) (rest := []) ⟨hx, hb, hml, hown, hts⟩ (t_X12_isHour l dC dI _ a5 (a5.toInt) rfl) (va_cwS 1 hts gX12_judge_X12_isHour rfl rfl rfl pd_X12_isHour ⟨Nat.le_of_ble_eq_true rfl, Nat.le_of_ble_eq_true rfl⟩) ⟨pz_blind, pz_pre pz_P0 (hK.sub (tys' := []) [] rfl) (pz_D0 (A := fun _ => True)) hN⟩ rfl rfl hl.1 rfl (lv_room (Nat.le_of_ble_eq_true rfl)) dX12_judge_15 ⟨Nat.le_of_ble_eq_true rfl, Nat.le_of_ble_eq_true rfl⟩) (fun r39 hw40 => ?_)
    obtain ⟨hw40r, hw40p⟩ := hw40
    refine lv_if_ne (tgt := 25) hx hb dX12_judge_18 (by decide) (fun c41 => ?_) (fun c41 => ?_)
    · have ic41 : r39.toInt ≠ 0 := zi_ne rfl rfl c41
      have p42 : 0 ≤ (a5.toInt) ∧ (a5.toInt) ≤ 2399 := (tp_cond.yes hw40p) (by omega)
      refine lv_aload_n hx hb dX12_judge_25 rfl (lv_at hl 0 rfl) ?_
      refine va_get (D := (dC, dI)) (ci := 12) (v := .ref (ρ h0 42)) (C := RX12) (T := TX12) (N := 53) hx hb hts hfX12 hown hK hP q34 eq34 rfl 42 (by decide) (hts (.fieldLink RX12 64 "ColdShipsModel" "line" "[I") wa_166) (fun _ h9 => h9) rfl dX12_judge_26 ?_
      refine lv_iconst (v := 0) hx hb dX12_judge_29 (by decide) ?_
      refine lv_iload_n hx hb dX12_judge_30 rfl (lv_at hl 2 rfl) ?_
      obtain ⟨g44, hf_o43⟩ := tpo_72 hT y17
      obtain ⟨q45, eq45⟩ := tp_pos (tp_in hG y17 (by decide)) hf_o43
      refine va_iast hx hb hK hP hD hS q45 0 eq45 rfl (vp_in_iff.mpr ⟨by decide, by decide⟩) dX12_judge_31 (tp_k (.inl (κ 0, 6, .inl (upd g44 (0 : Int32).toNatClampNeg u))) hD (tp_in hG y17 (by decide)) eq45 (fun f46 H locs hP hD hS g48 k47 => ?_))
      have hT := hT.up y17 g48 k47 tp_o72
      have hR := hR.up y17 (by decide) k47
      have hU50 : mo_U (mo_R g44) (mo_R (upd g44 (0 : Int32).toNatClampNeg u)) (0) (u.toInt) := mo_up (show (0 : Int32).toInt = 0 from by decide) (rfl : u.toInt = _) (by omega)
      generalize (upd g44 (0 : Int32).toNatClampNeg u) = g49 at g48 hU50
      have hU50e := hU50.eq (by omega)
      refine lv_aload_n hx hb dX12_judge_32 rfl (lv_at hl 0 rfl) ?_
      have hf_51 : f46 h0 = .inr (12, [.int 0, .int o28_x1, .ref (ρ h0 2), .ref (ρ h0 3), .ref (ρ h0 4), .ref (ρ h0 5), .ref (ρ h0 6), .int o28_x7, .ref (ρ h0 8), .int o28_x9, .int o28_x10, .int o28_x11, .int o28_x12, .long o28_x13, .int o28_x14, .int o28_x15, .int o28_x16, .int o28_x17, .int o28_x18, .int o28_x19, .int o28_x20, .ref (ρ h0 21), .int o28_x22, .ref (ρ h0 23), .ref (ρ h0 24), .int o28_x25, .ref (ρ h0 26), .ref (ρ h0 27), .int o28_x28, .int o28_x29, .ref (ρ h0 30), .ref (ρ h0 31), .int o28_x32, .long o28_x33, .long o28_x34, .long o28_x35, .int o28_x36, .int o28_x37, .int o28_x38, .ref (ρ h0 39), .ref (ρ h0 40), .ref (ρ h0 41), .ref (ρ h0 42), .ref (ρ h0 43), .ref (ρ h0 44), .ref (ρ h0 45), .ref (ρ h0 46), .int o28_x47, .int o28_x48, .ref (ρ h0 49), .ref (ρ h0 50), .ref (ρ h0 51), .ref (ρ h0 52)]) := (k47 _ (tp_ne ht_h0 y17 (by decide))).trans g32
      obtain ⟨q52, eq52⟩ := tp_pos (tp_in hG ht_h0 (by decide)) hf_51
      refine va_get (D := (dC, dI)) (ci := 12) (v := .ref (ρ h0 42)) (C := RX12) (T := TX12) (N := 53) hx hb hts hfX12 hown hK hP q52 eq52 rfl 42 (by decide) (hts (.fieldLink RX12 64 "ColdShipsModel" "line" "[I") wa_166) (fun _ h9 => h9) rfl dX12_judge_33 ?_
      refine lv_iconst (v := 1) hx hb dX12_judge_36 (by decide) ?_
      refine lv_iload_n hx hb dX12_judge_37 rfl (lv_at hl 3 rfl) ?_
      obtain ⟨q53, eq53⟩ := tp_pos (tp_in hG y17 (by decide)) g48
      refine va_iast hx hb hK hP hD hS q53 0 eq53 rfl (vp_in_iff.mpr ⟨by decide, by decide⟩) dX12_judge_38 (tp_k (.inl (κ 0, 6, .inl (upd g49 (1 : Int32).toNatClampNeg a))) hD (tp_in hG y17 (by decide)) eq53 (fun f54 H locs hP hD hS g56 k55 => ?_))
      have hT := hT.up y17 g56 k55 tp_o72
      have hR := hR.up y17 (by decide) k55
      have hU58 : mo_U (mo_R g49) (mo_R (upd g49 (1 : Int32).toNatClampNeg a)) (1) (a.toInt) := mo_up (show (1 : Int32).toInt = 1 from by decide) (rfl : a.toInt = _) (by omega)
      generalize (upd g49 (1 : Int32).toNatClampNeg a) = g57 at g56 hU58
      have hU58e := hU58.eq (by omega)
      refine lv_aload_n hx hb dX12_judge_39 rfl (lv_at hl 0 rfl) ?_
      have hf_59 : f54 h0 = .inr (12, [.int 0, .int o28_x1, .ref (ρ h0 2), .ref (ρ h0 3), .ref (ρ h0 4), .ref (ρ h0 5), .ref (ρ h0 6), .int o28_x7, .ref (ρ h0 8), .int o28_x9, .int o28_x10, .int o28_x11, .int o28_x12, .long o28_x13, .int o28_x14, .int o28_x15, .int o28_x16, .int o28_x17, .int o28_x18, .int o28_x19, .int o28_x20, .ref (ρ h0 21), .int o28_x22, .ref (ρ h0 23), .ref (ρ h0 24), .int o28_x25, .ref (ρ h0 26), .ref (ρ h0 27), .int o28_x28, .int o28_x29, .ref (ρ h0 30), .ref (ρ h0 31), .int o28_x32, .long o28_x33, .long o28_x34, .long o28_x35, .int o28_x36, .int o28_x37, .int o28_x38, .ref (ρ h0 39), .ref (ρ h0 40), .ref (ρ h0 41), .ref (ρ h0 42), .ref (ρ h0 43), .ref (ρ h0 44), .ref (ρ h0 45), .ref (ρ h0 46), .int o28_x47, .int o28_x48, .ref (ρ h0 49), .ref (ρ h0 50), .ref (ρ h0 51), .ref (ρ h0 52)]) := (k55 _ (tp_ne ht_h0 y17 (by decide))).trans hf_51
      obtain ⟨q60, eq60⟩ := tp_pos (tp_in hG ht_h0 (by decide)) hf_59
      refine va_get (D := (dC, dI)) (ci := 12) (v := .ref (ρ h0 42)) (C := RX12) (T := TX12) (N := 53) hx hb hts hfX12 hown hK hP q60 eq60 rfl 42 (by decide) (hts (.fieldLink RX12 64 "ColdShipsModel" "line" "[I") wa_166) (fun _ h9 => h9) rfl dX12_judge_40 ?_
      refine lv_iconst (v := 2) hx hb dX12_judge_43 (by decide) ?_
      refine lv_iload hx hb dX12_judge_44 (lv_at hl 4 rfl) ?_
      obtain ⟨q61, eq61⟩ := tp_pos (tp_in hG y17 (by decide)) g56
      refine va_iast hx hb hK hP hD hS q61 0 eq61 rfl (vp_in_iff.mpr ⟨by decide, by decide⟩) dX12_judge_46 (tp_k (.inl (κ 0, 6, .inl (upd g57 (2 : Int32).toNatClampNeg a4))) hD (tp_in hG y17 (by decide)) eq61 (fun f62 H locs hP hD hS g64 k63 => ?_))
      have hT := hT.up y17 g64 k63 tp_o72
      have hR := hR.up y17 (by decide) k63
      have hU66 : mo_U (mo_R g57) (mo_R (upd g57 (2 : Int32).toNatClampNeg a4)) (2) (a4.toInt) := mo_up (show (2 : Int32).toInt = 2 from by decide) (rfl : a4.toInt = _) (by omega)
      generalize (upd g57 (2 : Int32).toNatClampNeg a4) = g65 at g64 hU66
      have hU66e := hU66.eq (by omega)
      refine lv_iload_n hx hb dX12_judge_47 rfl (lv_at hl 2 rfl) ?_
      refine lv_iconst (v := (-1)) hx hb dX12_judge_48 (by decide) ?_
      refine tp_join 76 (fun H locs ls stk => ∃ w67 : Int32, stk = [.int w67] ∧ (0 ≤ w67.toInt ∧ w67.toInt ≤ 3) ∧ va_P (dC, dI) vwCl (va_pl L f62) H ∧ va_D A (va_pl L f62) ∧ va_S A s.heap H locs ∧ lv_has ls 9 [(0, .ref h0), (1, .int v), (2, .int u), (3, .int a), (4, .int a4), (5, .int a5)]) ?_ (fun hj68 => ?_)
      · intro H locs ls stk hI
        obtain ⟨w67, rfl, rw67, hP, hD, hS, hl⟩ := hI
        refine lv_istore (lv' := [(6, .int w67), (0, .ref h0), (1, .int v), (2, .int u), (3, .int a), (4, .int a4), (5, .int a5)]) hx hb dX12_judge_76 hl (by decide) rfl (fun ls hl => ?_)
        refine lv_iconst (v := 0) hx hb dX12_judge_78 (by decide) ?_
        refine lv_istore (lv' := [(7, .int 0), (6, .int w67), (0, .ref h0), (1, .int v), (2, .int u), (3, .int a), (4, .int a4), (5, .int a5)]) hx hb dX12_judge_79 hl (by decide) rfl (fun ls hl => ?_)
        have hf_69 : f46 (ρ h0 2) = .inl (κ 0, 12967, .inl g27) := (k47 _ (tp_ne y1 y17 (by decide))).trans hf_33
        have hf_70 : f54 (ρ h0 2) = .inl (κ 0, 12967, .inl g27) := (k55 _ (tp_ne y1 y17 (by decide))).trans hf_69
        have hf_71 : f62 (ρ h0 2) = .inl (κ 0, 12967, .inl g27) := (k63 _ (tp_ne y1 y17 (by decide))).trans hf_70
        refine pz_loop (fun n0 H locs ls => ∃ w72 : Int32, n0 = (3 - (w72.toInt)).toNat ∧ (0 ≤ w72.toInt ∧ w72.toInt ≤ 3) ∧ (∀ j, 0 ≤ j → j < (w72.toInt) → 0 ≤ (mo_R g65) j ∧ (mo_R g65) j < mo_R g27 10) ∧ va_P (dC, dI) vwCl (va_pl L f62) H ∧ va_D A (va_pl L f62) ∧ va_S A s.heap H locs ∧ lv_has ls 9 [(7, .int w72), (6, .int w67), (0, .ref h0), (1, .int v), (2, .int u), (3, .int a), (4, .int a4), (5, .int a5)]) ?_ _ _ _ _ ⟨0, rfl, (by have : (0 : Int32).toInt = 0 := rfl; omega), (fun j j0 j1 => absurd j1 (by have : (0 : Int32).toInt = 0 := rfl; omega)), hP, hD, hS, lv_sub hl [0, 1, 2, 3, 4, 5, 6, 7] rfl⟩
        intro n0 H locs ls hI ih74
        obtain ⟨w72, hn75, rw72, k73, hP, hD, hS, hl⟩ := hI
        refine lv_iload hx hb dX12_judge_81 (lv_at hl 0 rfl) ?_
        refine lv_iload hx hb dX12_judge_83 (lv_at hl 1 rfl) ?_
        refine lv_icmp_ge (tgt := 160) hx hb dX12_judge_85 (by decide) (fun c76 => ?_) (fun c76 => ?_)
        · have ic76 : w72.toInt ≥ w67.toInt := zi_ge rfl rfl c76
          refine lv_aload_n hx hb dX12_judge_160 rfl (lv_at hl 2 rfl) ?_
          refine lv_iload_n hx hb dX12_judge_161 rfl (lv_at hl 3 rfl) ?_
          refine lv_iload hx hb dX12_judge_162 (lv_at hl 1 rfl) ?_
          refine lv_iload hx hb dX12_judge_164 (lv_at hl 7 rfl) ?_
          have hf_77 : f62 h0 = .inr (12, [.int 0, .int o28_x1, .ref (ρ h0 2), .ref (ρ h0 3), .ref (ρ h0 4), .ref (ρ h0 5), .ref (ρ h0 6), .int o28_x7, .ref (ρ h0 8), .int o28_x9, .int o28_x10, .int o28_x11, .int o28_x12, .long o28_x13, .int o28_x14, .int o28_x15, .int o28_x16, .int o28_x17, .int o28_x18, .int o28_x19, .int o28_x20, .ref (ρ h0 21), .int o28_x22, .ref (ρ h0 23), .ref (ρ h0 24), .int o28_x25, .ref (ρ h0 26), .ref (ρ h0 27), .int o28_x28, .int o28_x29, .ref (ρ h0 30), .ref (ρ h0 31), .int o28_x32, .long o28_x33, .long o28_x34, .long o28_x35, .int o28_x36, .int o28_x37, .int o28_x38, .ref (ρ h0 39), .ref (ρ h0 40), .ref (ρ h0 41), .ref (ρ h0 42), .ref (ρ h0 43), .ref (ρ h0 44), .ref (ρ h0 45), .ref (ρ h0 46), .int o28_x47, .int o28_x48, .ref (ρ h0 49), .ref (ρ h0 50), .ref (ρ h0 51), .ref (ρ h0 52)]) := (k63 _ (tp_ne ht_h0 y17 (by decide))).trans hf_59
          obtain ⟨q78, eq78⟩ := tp_pos (tp_in hG ht_h0 (by decide)) hf_77
          have hFc := tp_fr hD hS hA
          refine va_calll (va_runV (As := [.int v, .int w67, .int a5]) (rest := []) ⟨hx, hb, hml, hown, hts⟩ (t_X12_sailRow l dC dI _ κ τ ν ρ L f62 hG hT h0 v w67 a5 (-1) 0 ht_h0 (by first | decide | omega) (by omega) (by rw [hf_71, mo_i1]; exact hI) (by first | (simp only [hf_71, hf_o26, mo_i1]; omega) | simp only [hf_71, hf_o26, mo_i1] | omega) (by simp only [g64, hf_71, mo_i1, mo_l1]; exact (show ∀ j, 0 ≤ j → j < w67.toInt → 0 ≤ (mo_R g65) j ∧ (mo_R g65) j < (mo_R g27) 10 from (fun j j0 j1 => k73 j j0 (by omega))))) (cwV 3 hts gX12_judge_X12_sailRow rfl rfl rfl ⟨rfl, pd_X12_sailRow⟩ ⟨Nat.le_of_ble_eq_true rfl, Nat.le_of_ble_eq_true rfl⟩) ⟨pz_blind, va_recv hK hP (ci := 12) (q0 := q78) rfl eq78, pz_pre hP hK hD hN⟩ rfl rfl hl.1 rfl (lv_room (Nat.le_of_ble_eq_true rfl)) dX12_judge_166 ⟨Nat.le_of_ble_eq_true rfl, Nat.le_of_ble_eq_true rfl⟩) hS (fun q _ h => hFc q h) hFc (fun r79 f81 t H1 locs ht hvm hw80 hB hz1 hk1 hS => ?_)
          obtain ⟨hT, hF82, hw80r, hw80p⟩ := hw80
          have hR := hR.then hF82 (by decide)
          have hP := hB.1; rw [ht] at hP; have hD := tp_ad f81 hD; clear hB hFc hz1 hk1; subst ht; generalize t.heap = H at hP hS ⊢
          exact W.lret (v := r79) hx hb hr (fun t ht hW => ⟨⟨r79, f81, rfl, ⟨hT, hR, trivial, trivial⟩, by rw [ht]; exact hP, va_K.moved hW.alike hK, hD⟩, hS.F ht⟩) hS.2.2 dX12_judge_169
        · have ic76 : w72.toInt < w67.toInt := zi_gef rfl rfl c76
          refine lv_iconst (v := 0) hx hb dX12_judge_88 (by decide) ?_
          refine lv_istore (lv' := [(8, .int 0), (7, .int w72), (6, .int w67), (0, .ref h0), (1, .int v), (2, .int u), (3, .int a), (4, .int a4), (5, .int a5)]) hx hb dX12_judge_89 hl (by decide) rfl (fun ls hl => ?_)
          refine pz_loop (fun n0 H locs ls => ∃ w83 : Int32, n0 = (3 - (w83.toInt)).toNat ∧ (0 ≤ w83.toInt ∧ w83.toInt ≤ 3) ∧ va_P (dC, dI) vwCl (va_pl L f62) H ∧ va_D A (va_pl L f62) ∧ va_S A s.heap H locs ∧ lv_has ls 9 [(8, .int w83), (7, .int w72), (6, .int w67), (0, .ref h0), (1, .int v), (2, .int u), (3, .int a), (4, .int a4), (5, .int a5)]) ?_ _ _ _ _ ⟨0, rfl, (by have : (0 : Int32).toInt = 0 := rfl; omega), hP, hD, hS, lv_sub hl [0, 1, 2, 3, 4, 5, 6, 7, 8] rfl⟩
          intro n0 H locs ls hI ih84
          obtain ⟨w83, hn85, rw83, hP, hD, hS, hl⟩ := hI
          refine lv_iload hx hb dX12_judge_91 (lv_at hl 0 rfl) ?_
          refine lv_iload hx hb dX12_judge_93 (lv_at hl 1 rfl) ?_
          refine lv_icmp_ge (tgt := 125) hx hb dX12_judge_95 (by decide) (fun c86 => ?_) (fun c86 => ?_)
          · have ic86 : w83.toInt ≥ w72.toInt := zi_ge rfl rfl c86
            refine lv_aload_n hx hb dX12_judge_125 rfl (lv_at hl 3 rfl) ?_
            have hf_87 : f62 h0 = .inr (12, [.int 0, .int o28_x1, .ref (ρ h0 2), .ref (ρ h0 3), .ref (ρ h0 4), .ref (ρ h0 5), .ref (ρ h0 6), .int o28_x7, .ref (ρ h0 8), .int o28_x9, .int o28_x10, .int o28_x11, .int o28_x12, .long o28_x13, .int o28_x14, .int o28_x15, .int o28_x16, .int o28_x17, .int o28_x18, .int o28_x19, .int o28_x20, .ref (ρ h0 21), .int o28_x22, .ref (ρ h0 23), .ref (ρ h0 24), .int o28_x25, .ref (ρ h0 26), .ref (ρ h0 27), .int o28_x28, .int o28_x29, .ref (ρ h0 30), .ref (ρ h0 31), .int o28_x32, .long o28_x33, .long o28_x34, .long o28_x35, .int o28_x36, .int o28_x37, .int o28_x38, .ref (ρ h0 39), .ref (ρ h0 40), .ref (ρ h0 41), .ref (ρ h0 42), .ref (ρ h0 43), .ref (ρ h0 44), .ref (ρ h0 45), .ref (ρ h0 46), .int o28_x47, .int o28_x48, .ref (ρ h0 49), .ref (ρ h0 50), .ref (ρ h0 51), .ref (ρ h0 52)]) := (k63 _ (tp_ne ht_h0 y17 (by decide))).trans hf_59
            obtain ⟨q88, eq88⟩ := tp_pos (tp_in hG ht_h0 (by decide)) hf_87
            refine va_get (D := (dC, dI)) (ci := 12) (v := .ref (ρ h0 42)) (C := RX12) (T := TX12) (N := 53) hx hb hts hfX12 hown hK hP q88 eq88 rfl 42 (by decide) (hts (.fieldLink RX12 64 "ColdShipsModel" "line" "[I") wa_166) (fun _ h9 => h9) rfl dX12_judge_126 ?_
            refine lv_iload hx hb dX12_judge_129 (lv_at hl 1 rfl) ?_
            obtain ⟨q89, eq89⟩ := tp_pos (tp_in hG y17 (by decide)) g64
            refine va_iald hx hb hK hP q89 0 eq89 rfl (vp_in_iff.mpr ⟨by omega, by omega⟩) dX12_judge_131 ?_
            refine lv_topi (fun z90 ez90 => ?_)
            have jz90 : z90.toInt = mo_R g65 w72.toInt := mo_rd ez90 (by omega)
            refine lv_i2l hx hb dX12_judge_132 rfl ?_
            refine lv_lconst (v := 0) hx hb dX12_judge_133 (by decide) ?_
            refine lv_aload_n hx hb dX12_judge_134 rfl (lv_at hl 3 rfl) ?_
            refine va_get (D := (dC, dI)) (ci := 12) (v := .ref (ρ h0 2)) (C := RX12) (T := TX12) (N := 53) hx hb hts hfX12 hown hK hP q88 eq88 rfl 2 (by decide) (hts (.fieldLink RX12 7 "ColdShipsModel" "row" "[I") wa_148) (fun _ h9 => h9) rfl dX12_judge_135 ?_
            refine lv_bipush (v := 10) hx hb dX12_judge_138 (by decide) ?_
            obtain ⟨q91, eq91⟩ := tp_pos (tp_in hG y1 (by decide)) hf_71
            refine va_iald hx hb hK hP q91 0 eq91 rfl (vp_in_iff.mpr ⟨by decide, by decide⟩) dX12_judge_140 ?_
            refine lv_topi (fun z92 ez92 => ?_)
            have jz92 : z92.toInt = mo_R g27 (10) := mo_rd ez92 (show (10 : Int32).toInt = (10) from by decide)
            have kz92 := hI.k10
            refine lv_i2l hx hb dX12_judge_141 rfl ?_
            refine lv_lconst (v := 1) hx hb dX12_judge_142 (by decide) ?_
            refine lv_lsub hx hb dX12_judge_143 ?_
            refine lv_topl (fun z93 ez93 => ?_)
            have iz93 : z93.toInt = z92.toInt - 1 := zl_sub ez93 (Int32.toInt_toInt64 z92) rfl (by omega) (by omega)
            refine pz_calli (va_runS (As := [.long z90.toInt64, .long 0, .long z93]) (rest := []) ⟨hx, hb, hml, hown, hts⟩ (t_X12_in l dC dI _ z90.toInt64 (0) z93 (z90.toInt) (0) (z93.toInt) (Int32.toInt_toInt64 z90) rfl rfl) (va_cwS 3 hts gX12_judge_X12_in rfl rfl rfl pd_X12_in ⟨Nat.le_of_ble_eq_true rfl, Nat.le_of_ble_eq_true rfl⟩) ⟨pz_blind, pz_pre pz_P0 (hK.sub (tys' := []) [] rfl) (pz_D0 (A := fun _ => True)) hN⟩ rfl rfl hl.1 rfl (lv_room (Nat.le_of_ble_eq_true rfl)) dX12_judge_144 ⟨Nat.le_of_ble_eq_true rfl, Nat.le_of_ble_eq_true rfl⟩) (fun r94 hw95 => ?_)
            obtain ⟨hw95r, hw95p⟩ := hw95
            refine lv_if_ne (tgt := 154) hx hb dX12_judge_147 (by decide) (fun c96 => ?_) (fun c96 => ?_)
            · have ic96 : r94.toInt ≠ 0 := zi_ne rfl rfl c96
              have p97 : (0) ≤ (z90.toInt) ∧ (z90.toInt) ≤ (z93.toInt) := (tp_cond.yes hw95p) (by omega)
              obtain ⟨z98, ez98⟩ : ∃ y : Int32, y = w72 + 1 := ⟨_, rfl⟩
              refine lv_iinc (v := z98) (lv' := [(7, .int z98), (8, .int w83), (6, .int w67), (0, .ref h0), (1, .int v), (2, .int u), (3, .int a), (4, .int a4), (5, .int a5)]) hx hb dX12_judge_154 hl (k := 1) rfl (by rw [ez98]; rfl) (by decide) rfl (fun ls hl => ?_)
              have iz98 : z98.toInt = w72.toInt + 1 := zi_add ez98 rfl rfl (by omega) (by omega)
              refine lv_goto (tgt := 81) hx hb dX12_judge_157 (by decide) ?_
              exact ih74 _ _ _ _ (by rw [hn75]; omega) ⟨z98, rfl, (by omega), (fun j j0 j1 => by rcases (show j < w72.toInt ∨ j = w72.toInt by omega) with q9 | rfl; (exact k73 j j0 q9); omega), hP, hD, hS, lv_sub hl [0, 2, 3, 4, 5, 6, 7, 8] rfl⟩
            · have ic96 : r94.toInt = 0 := zi_nef rfl rfl c96
              refine lv_ldc2 (own := RX12) (v := (-2000000000000000)) hx hb hown (hts (.constantLong RX12 466 (-2000000000000000)) wa_1189) dX12_judge_150 ?_
              exact W.lret (v := (-2000000000000000)) hx hb hr (fun t ht hW => ⟨⟨(-2000000000000000), f62, rfl, ⟨hT, hR, trivial, trivial⟩, by rw [ht]; exact hP, va_K.moved hW.alike hK, hD⟩, hS.F ht⟩) hS.2.2 dX12_judge_153
          · have ic86 : w83.toInt < w72.toInt := zi_gef rfl rfl c86
            refine lv_aload_n hx hb dX12_judge_98 rfl (lv_at hl 3 rfl) ?_
            have hf_99 : f62 h0 = .inr (12, [.int 0, .int o28_x1, .ref (ρ h0 2), .ref (ρ h0 3), .ref (ρ h0 4), .ref (ρ h0 5), .ref (ρ h0 6), .int o28_x7, .ref (ρ h0 8), .int o28_x9, .int o28_x10, .int o28_x11, .int o28_x12, .long o28_x13, .int o28_x14, .int o28_x15, .int o28_x16, .int o28_x17, .int o28_x18, .int o28_x19, .int o28_x20, .ref (ρ h0 21), .int o28_x22, .ref (ρ h0 23), .ref (ρ h0 24), .int o28_x25, .ref (ρ h0 26), .ref (ρ h0 27), .int o28_x28, .int o28_x29, .ref (ρ h0 30), .ref (ρ h0 31), .int o28_x32, .long o28_x33, .long o28_x34, .long o28_x35, .int o28_x36, .int o28_x37, .int o28_x38, .ref (ρ h0 39), .ref (ρ h0 40), .ref (ρ h0 41), .ref (ρ h0 42), .ref (ρ h0 43), .ref (ρ h0 44), .ref (ρ h0 45), .ref (ρ h0 46), .int o28_x47, .int o28_x48, .ref (ρ h0 49), .ref (ρ h0 50), .ref (ρ h0 51), .ref (ρ h0 52)]) := (k63 _ (tp_ne ht_h0 y17 (by decide))).trans hf_59
            obtain ⟨q100, eq100⟩ := tp_pos (tp_in hG ht_h0 (by decide)) hf_99
            refine va_get (D := (dC, dI)) (ci := 12) (v := .ref (ρ h0 42)) (C := RX12) (T := TX12) (N := 53) hx hb hts hfX12 hown hK hP q100 eq100 rfl 42 (by decide) (hts (.fieldLink RX12 64 "ColdShipsModel" "line" "[I") wa_166) (fun _ h9 => h9) rfl dX12_judge_99 ?_
            refine lv_iload hx hb dX12_judge_102 (lv_at hl 1 rfl) ?_
            obtain ⟨q101, eq101⟩ := tp_pos (tp_in hG y17 (by decide)) g64
            refine va_iald hx hb hK hP q101 0 eq101 rfl (vp_in_iff.mpr ⟨by omega, by omega⟩) dX12_judge_104 ?_
            refine lv_topi (fun z102 ez102 => ?_)
            have jz102 : z102.toInt = mo_R g65 w72.toInt := mo_rd ez102 (by omega)
            refine lv_aload_n hx hb dX12_judge_105 rfl (lv_at hl 3 rfl) ?_
            refine va_get (D := (dC, dI)) (ci := 12) (v := .ref (ρ h0 42)) (C := RX12) (T := TX12) (N := 53) hx hb hts hfX12 hown hK hP q100 eq100 rfl 42 (by decide) (hts (.fieldLink RX12 64 "ColdShipsModel" "line" "[I") wa_166) (fun _ h9 => h9) rfl dX12_judge_106 ?_
            refine lv_iload hx hb dX12_judge_109 (lv_at hl 0 rfl) ?_
            refine va_iald hx hb hK hP q101 0 eq101 rfl (vp_in_iff.mpr ⟨by omega, by omega⟩) dX12_judge_111 ?_
            refine lv_topi (fun z103 ez103 => ?_)
            have jz103 : z103.toInt = mo_R g65 w83.toInt := mo_rd ez103 (by omega)
            refine lv_icmp_ne (tgt := 119) hx hb dX12_judge_112 (by decide) (fun c104 => ?_) (fun c104 => ?_)
            · have ic104 : z102.toInt ≠ z103.toInt := zi_ne rfl rfl c104
              obtain ⟨z105, ez105⟩ : ∃ y : Int32, y = w83 + 1 := ⟨_, rfl⟩
              refine lv_iinc (v := z105) (lv' := [(8, .int z105), (7, .int w72), (6, .int w67), (0, .ref h0), (1, .int v), (2, .int u), (3, .int a), (4, .int a4), (5, .int a5)]) hx hb dX12_judge_119 hl (k := 0) rfl (by rw [ez105]; rfl) (by decide) rfl (fun ls hl => ?_)
              have iz105 : z105.toInt = w83.toInt + 1 := zi_add ez105 rfl rfl (by omega) (by omega)
              refine lv_goto (tgt := 91) hx hb dX12_judge_122 (by decide) ?_
              exact ih84 _ _ _ _ (by rw [hn85]; omega) ⟨z105, rfl, (by omega), hP, hD, hS, lv_sub hl [0, 1, 2, 3, 4, 5, 6, 7, 8] rfl⟩
            · have ic104 : z102.toInt = z103.toInt := zi_nef rfl rfl c104
              refine lv_ldc2 (own := RX12) (v := (-2000000000000000)) hx hb hown (hts (.constantLong RX12 466 (-2000000000000000)) wa_1189) dX12_judge_115 ?_
              exact W.lret (v := (-2000000000000000)) hx hb hr (fun t ht hW => ⟨⟨(-2000000000000000), f62, rfl, ⟨hT, hR, trivial, trivial⟩, by rw [ht]; exact hP, va_K.moved hW.alike hK, hD⟩, hS.F ht⟩) hS.2.2 dX12_judge_118
      · refine lv_icmp_ne (tgt := 56) hx hb dX12_judge_49 (by decide) (fun c106 => ?_) (fun c106 => ?_)
        · have ic106 : u.toInt ≠ (-1) := zi_ne rfl rfl c106
          refine lv_iload_n hx hb dX12_judge_56 rfl (lv_at hl 3 rfl) ?_
          refine lv_iconst (v := (-1)) hx hb dX12_judge_57 (by decide) ?_
          refine lv_icmp_ne (tgt := 65) hx hb dX12_judge_58 (by decide) (fun c107 => ?_) (fun c107 => ?_)
          · have ic107 : a.toInt ≠ (-1) := zi_ne rfl rfl c107
            refine lv_iload hx hb dX12_judge_65 (lv_at hl 4 rfl) ?_
            refine lv_iconst (v := (-1)) hx hb dX12_judge_67 (by decide) ?_
            refine lv_icmp_ne (tgt := 75) hx hb dX12_judge_68 (by decide) (fun c108 => ?_) (fun c108 => ?_)
            · have ic108 : a4.toInt ≠ (-1) := zi_ne rfl rfl c108
              refine lv_iconst (v := 3) hx hb dX12_judge_75 (by decide) ?_
              exact hj68 _ _ _ _ ⟨3, rfl, (by have : (3 : Int32).toInt = 3 := rfl; omega), hP, hD, hS, lv_sub hl [0, 1, 2, 3, 4, 5] rfl⟩
            · have ic108 : a4.toInt = (-1) := zi_nef rfl rfl c108
              refine lv_iconst (v := 2) hx hb dX12_judge_71 (by decide) ?_
              refine lv_goto (tgt := 76) hx hb dX12_judge_72 (by decide) ?_
              exact hj68 _ _ _ _ ⟨2, rfl, (by have : (2 : Int32).toInt = 2 := rfl; omega), hP, hD, hS, lv_sub hl [0, 1, 2, 3, 4, 5] rfl⟩
          · have ic107 : a.toInt = (-1) := zi_nef rfl rfl c107
            refine lv_iconst (v := 1) hx hb dX12_judge_61 (by decide) ?_
            refine lv_goto (tgt := 76) hx hb dX12_judge_62 (by decide) ?_
            exact hj68 _ _ _ _ ⟨1, rfl, (by have : (1 : Int32).toInt = 1 := rfl; omega), hP, hD, hS, lv_sub hl [0, 1, 2, 3, 4, 5] rfl⟩
        · have ic106 : u.toInt = (-1) := zi_nef rfl rfl c106
          refine lv_iconst (v := 0) hx hb dX12_judge_52 (by decide) ?_
          refine lv_goto (tgt := 76) hx hb dX12_judge_53 (by decide) ?_
          exact hj68 _ _ _ _ ⟨0, rfl, (by have : (0 : Int32).toInt = 0 := rfl; omega), hP, hD, hS, lv_sub hl [0, 1, 2, 3, 4, 5] rfl⟩
    · have ic41 : r39.toInt = 0 := zi_nef rfl rfl c41
      refine lv_ldc2 (own := RX12) (v := (-2000000000000000)) hx hb hown (hts (.constantLong RX12 466 (-2000000000000000)) wa_1189) dX12_judge_21 ?_
      exact W.lret (v := (-2000000000000000)) hx hb hr (fun t ht hW => ⟨⟨(-2000000000000000), f30, rfl, ⟨hT, hR, trivial, trivial⟩, by rw [ht]; exact hP, va_K.moved hW.alike hK, hD⟩, hS.F ht⟩) hS.2.2 dX12_judge_24

set_option maxHeartbeats 4000000 in
set_option maxRecDepth 100000 in
theorem t_X12_hasTable (l : Launch) (dC : Nat → ClassId) (dI : Nat → Nat → Nat) (sz : Nat) (κ : Nat → ClassId) (τ ν : Nat → Nat) (ρ : Nat → Nat → Nat) (L : List Nat) (f : Nat → va_E) (hG : tp_G τ ν ρ L) (hT : tp_T (mo_O κ) κ τ ν ρ f) (h0 : Nat) (us : Int32) (x : Int) (b : Int) (qs : Int) (ht_h0 : τ h0 = 13) (hL_us : us.toInt = 547 + 84 * qs) (hq_us : 0 ≤ qs ∧ qs ≤ 5) (hbb : 0 ≤ b ∧ b ≤ 1000) (hJ : mo_RI x b (mo_R (mo_i (f (ρ h0 2))))) (hn1 : qs < (mo_R (mo_i (f (ρ h0 2)))) (1)) : Met l yX12_hasTable wqX12_hasTable ({ frames := 2, cells := 0, slots := 0, locals := 400 }) (va_Pc [.ref h0, .int us] (pz_B dC dI (tp_K κ) (va_pl L f) sz)) (vp_Si (fun r => (0 ≤ r.toInt ∧ r.toInt ≤ 1) ∧ True)) 0 0 (fun _ => False) := by
  refine Met.ofW (cc := cX12_hasTable) (maxL := 5) (ret := some .boolean) (by decide) rfl ?_
  intro p e s m args below meth c s₁ B hml hv
  obtain ⟨rfl, hsz, hP, hK, hD0, hN⟩ := hv
  have hx := B.exec
  have hb := B.bytes
  have hr := B.returns
  have hts := fun (w : Cond) (h : w ∈ WALL) => atoms_spec (ws := wqX12_hasTable) B.pre w (List.mem_cons_of_mem _ h)
  have hown : s.vm.findClass RX12 = some m.cls := findClass_of_methodNamed B.named
  have hlocks := B.notSynchronized
  subst hsz
  have hD := hD0
  have hS : va_S (fun _ => True) s.heap s.heap [] := va_S.rf
  have hl := lv_entry ([.ref h0, .int us]) (n := 5) (Nat.le_of_ble_eq_true rfl)
  rw [lg_entry_eq]
  generalize (lg_sl ([.ref h0, .int us]) ++ List.replicate (5 - (lg_sl ([.ref h0, .int us])).length) Slot.unset).toArray = ls at hl ⊢
  have hl : lv_has ls 5 [(0, .ref h0), (1, .int us)] := hl
  refine tgk_13 hG ht_h0 (fun y1 y2 y3 y4 y5 y6 y7 y8 y9 y10 y11 y12 y13 y14 y15 y16 y17 y18 y19 y20 y21 y22 y23 y24 y25 => ?_)
  refine tpk_32 hT y1 (fun g27 hf_o26 => ?_)
  have hI : mo_RI x b (mo_R g27) := by have q9 := hJ; rw [hf_o26, mo_i1] at q9; exact q9
  rw [hf_o26, mo_i1] at hn1
  obtain ⟨n1, en1⟩ : ∃ n : Int, n = mo_R g27 (1) := ⟨_, rfl⟩
  have kn1 := hI.k1
  obtain ⟨n11, en11⟩ : ∃ n : Int, n = mo_R g27 (11) := ⟨_, rfl⟩
  have kn11 := hI.k11
  refine lv_aload_n hx hb dX12_hasTable_0 rfl (lv_at hl 0 rfl) ?_
  refine tpk_13 hT ht_h0 (fun o28_x0 o28_x1 o28_x7 o28_x9 o28_x10 o28_x11 o28_x12 o28_x13 o28_x14 o28_x15 o28_x16 o28_x17 o28_x18 o28_x19 o28_x20 o28_x22 o28_x25 o28_x28 o28_x29 o28_x32 o28_x33 o28_x34 o28_x35 o28_x36 o28_x37 o28_x38 o28_x47 o28_x48 hf_o28 ro28_0 ro28_1 ro28_2 ro28_3 ro28_4 ro28_5 ro28_6 ro28_7 ro28_8 ro28_9 ro28_10 ro28_11 ro28_12 ro28_13 => ?_)
  refine tpk_pos (tp_in hG ht_h0 (by decide)) hf_o28 (fun q29 eq29 => ?_)
  refine va_get (D := (dC, dI)) (ci := 12) (v := .ref (ρ h0 2)) (C := RX12) (T := TX12) (N := 53) hx hb hts hfX12 hown hK hP q29 eq29 rfl 2 (by decide) (hts (.fieldLink RX12 7 "ColdShipsModel" "row" "[I") wa_148) (fun _ h9 => h9) rfl dX12_hasTable_1 ?_
  refine lv_iload_n hx hb dX12_hasTable_4 rfl (lv_at hl 1 rfl) ?_
  refine lv_bipush (v := 32) hx hb dX12_hasTable_5 (by decide) ?_
  refine lv_iadd hx hb dX12_hasTable_7 ?_
  refine lv_topi (fun z30 ez30 => ?_)
  have iz30 : z30.toInt = us.toInt + 32 := zi_add ez30 rfl rfl (by omega) (by omega)
  refine tpk_pos (tp_in hG y1 (by decide)) hf_o26 (fun q31 eq31 => ?_)
  refine va_iald hx hb hK hP q31 0 eq31 rfl (vp_in_iff.mpr ⟨by omega, by omega⟩) dX12_hasTable_8 ?_
  refine lv_topi (fun z32 ez32 => ?_)
  refine lv_iconst (v := 1) hx hb dX12_hasTable_9 (by decide) ?_
  refine tp_join 18 (fun H locs ls stk => ∃ w33 : Int32, stk = [.int w33] ∧ (0 ≤ w33.toInt ∧ w33.toInt ≤ 1) ∧ H = s.heap ∧ locs = [] ∧ lv_has ls 5 [(0, .ref h0), (1, .int us)]) ?_ (fun hj34 => ?_)
  · intro H locs ls stk hI
    refine Exists.elim hI (fun w33 hE90 => tn_5 hE90 (fun e90 rw33 e92 e93 hl => ?_))
    clear hE90 hI; subst e90; subst e92; subst e93
    refine lv_istore_n (lv' := [(2, .int w33), (0, .ref h0), (1, .int us)]) hx hb dX12_hasTable_18 rfl hl (by decide) rfl (fun ls hl => ?_)
    refine lv_iconst (v := 1) hx hb dX12_hasTable_19 (by decide) ?_
    refine lv_istore_n (lv' := [(3, .int 1), (2, .int w33), (0, .ref h0), (1, .int us)]) hx hb dX12_hasTable_20 rfl hl (by decide) rfl (fun ls hl => ?_)
    refine pz_loop (fun n0 H locs ls => ∃ w35 : Int32, ∃ w36 : Int32, n0 = (4 - (w35.toInt)).toNat ∧ (1 ≤ w35.toInt ∧ w35.toInt ≤ 4) ∧ (0 ≤ w36.toInt ∧ w36.toInt ≤ 1) ∧ H = s.heap ∧ locs = [] ∧ lv_has ls 5 [(3, .int w35), (2, .int w36), (0, .ref h0), (1, .int us)]) ?_ _ _ _ _ ⟨1, w33, rfl, (by have : (1 : Int32).toInt = 1 := rfl; omega), (by have : (1 : Int32).toInt = 1 := rfl; omega), rfl, rfl, lv_sub hl [0, 1, 2, 3] rfl⟩
    intro n0 H locs ls hI ih37
    refine Exists.elim hI (fun w35 hE90 => Exists.elim hE90 (fun w36 hE91 => tn_6 hE91 (fun hn38 rw35 rw36 e93 e94 hl => ?_)))
    clear hE91 hE90 hI; subst e93; subst e94
    refine lv_iload_n hx hb dX12_hasTable_21 rfl (lv_at hl 0 rfl) ?_
    refine lv_iconst (v := 4) hx hb dX12_hasTable_22 (by decide) ?_
    refine lv_icmp_ge (tgt := 105) hx hb dX12_hasTable_23 (by decide) (fun c39 => ?_) (fun c39 => ?_)
    · have ic39 : w35.toInt ≥ 4 := zi_ge rfl rfl c39
      refine lv_iload_n hx hb dX12_hasTable_105 rfl (lv_at hl 1 rfl) ?_
      exact W.zret (v := w36) hx hb hr (zi_narZ (by omega) (by omega)) (fun t ht hW => ⟨w36, rfl, ⟨(by first | decide | omega), trivial⟩, ht⟩) (fun _ h => by cases h) dX12_hasTable_106
    · have ic39 : w35.toInt < 4 := zi_gef rfl rfl c39
      refine lv_iload_n hx hb dX12_hasTable_26 rfl (lv_at hl 3 rfl) ?_
      refine lv_bipush (v := 32) hx hb dX12_hasTable_27 (by decide) ?_
      refine lv_iadd hx hb dX12_hasTable_29 ?_
      refine lv_topi (fun z40 ez40 => ?_)
      have iz40 : z40.toInt = us.toInt + 32 := zi_add ez40 rfl rfl (by omega) (by omega)
      refine lv_iconst (v := 3) hx hb dX12_hasTable_30 (by decide) ?_
      refine lv_iload_n hx hb dX12_hasTable_31 rfl (lv_at hl 0 rfl) ?_
      refine lv_imul hx hb dX12_hasTable_32 ?_
      refine lv_topi (fun z41 ez41 => ?_)
      have iz41 : z41.toInt = 3 * w35.toInt := zi_mul ez41 rfl rfl (by omega) (by omega)
      refine lv_iadd hx hb dX12_hasTable_33 ?_
      refine lv_topi (fun z42 ez42 => ?_)
      have iz42 : z42.toInt = z40.toInt + z41.toInt := zi_add ez42 rfl rfl (by omega) (by omega)
      refine lv_istore (lv' := [(4, .int z42), (3, .int w35), (2, .int w36), (0, .ref h0), (1, .int us)]) hx hb dX12_hasTable_34 hl (by decide) rfl (fun ls hl => ?_)
      refine lv_iload_n hx hb dX12_hasTable_36 rfl (lv_at hl 2 rfl) ?_
      refine lv_if_eq (tgt := 97) hx hb dX12_hasTable_37 (by decide) (fun c43 => ?_) (fun c43 => ?_)
      · have ic43 : w36.toInt = 0 := zi_eq rfl rfl c43
        refine lv_iconst (v := 0) hx hb dX12_hasTable_97 (by decide) ?_
        refine lv_istore_n (lv' := [(2, .int 0), (4, .int z42), (3, .int w35), (0, .ref h0), (1, .int us)]) hx hb dX12_hasTable_98 rfl hl (by decide) rfl (fun ls hl => ?_)
        obtain ⟨z44, ez44⟩ : ∃ y : Int32, y = w35 + 1 := ⟨_, rfl⟩
        refine lv_iinc (v := z44) (lv' := [(3, .int z44), (2, .int 0), (4, .int z42), (0, .ref h0), (1, .int us)]) hx hb dX12_hasTable_99 hl (k := 2) rfl (by rw [ez44]; rfl) (by decide) rfl (fun ls hl => ?_)
        have iz44 : z44.toInt = w35.toInt + 1 := zi_add ez44 rfl rfl (by omega) (by omega)
        refine lv_goto (tgt := 21) hx hb dX12_hasTable_102 (by decide) ?_
        exact ih37 _ _ _ _ (by rw [hn38]; omega) ⟨z44, 0, rfl, (by have : (0 : Int32).toInt = 0 := rfl; omega), (by have : (0 : Int32).toInt = 0 := rfl; omega), rfl, rfl, lv_sub hl [0, 1, 3, 4] rfl⟩
      · have ic43 : w36.toInt ≠ 0 := zi_eqf rfl rfl c43
        replace ic43 : 1 ≤ w36.toInt := by omega
        refine lv_aload_n hx hb dX12_hasTable_40 rfl (lv_at hl 3 rfl) ?_
        refine va_get (D := (dC, dI)) (ci := 12) (v := .ref (ρ h0 2)) (C := RX12) (T := TX12) (N := 53) hx hb hts hfX12 hown hK hP q29 eq29 rfl 2 (by decide) (hts (.fieldLink RX12 7 "ColdShipsModel" "row" "[I") wa_148) (fun _ h9 => h9) rfl dX12_hasTable_41 ?_
        refine lv_iload hx hb dX12_hasTable_44 (lv_at hl 0 rfl) ?_
        refine va_iald hx hb hK hP q31 0 eq31 rfl (vp_in_iff.mpr ⟨by omega, by omega⟩) dX12_hasTable_46 ?_
        refine lv_topi (fun z45 ez45 => ?_)
        refine lv_iconst (v := 1) hx hb dX12_hasTable_47 (by decide) ?_
        refine lv_icmp_ne (tgt := 97) hx hb dX12_hasTable_48 (by decide) (fun c46 => ?_) (fun c46 => ?_)
        · have ic46 : z45.toInt ≠ 1 := zi_ne rfl rfl c46
          refine lv_iconst (v := 0) hx hb dX12_hasTable_97 (by decide) ?_
          refine lv_istore_n (lv' := [(2, .int 0), (4, .int z42), (3, .int w35), (0, .ref h0), (1, .int us)]) hx hb dX12_hasTable_98 rfl hl (by decide) rfl (fun ls hl => ?_)
          obtain ⟨z47, ez47⟩ : ∃ y : Int32, y = w35 + 1 := ⟨_, rfl⟩
          refine lv_iinc (v := z47) (lv' := [(3, .int z47), (2, .int 0), (4, .int z42), (0, .ref h0), (1, .int us)]) hx hb dX12_hasTable_99 hl (k := 2) rfl (by rw [ez47]; rfl) (by decide) rfl (fun ls hl => ?_)
          have iz47 : z47.toInt = w35.toInt + 1 := zi_add ez47 rfl rfl (by omega) (by omega)
          refine lv_goto (tgt := 21) hx hb dX12_hasTable_102 (by decide) ?_
          exact ih37 _ _ _ _ (by rw [hn38]; omega) ⟨z47, 0, rfl, (by have : (0 : Int32).toInt = 0 := rfl; omega), (by have : (0 : Int32).toInt = 0 := rfl; omega), rfl, rfl, lv_sub hl [0, 1, 3, 4] rfl⟩
        · have ic46 : z45.toInt = 1 := zi_nef rfl rfl c46
          refine lv_aload_n hx hb dX12_hasTable_51 rfl (lv_at hl 3 rfl) ?_
          refine va_get (D := (dC, dI)) (ci := 12) (v := .ref (ρ h0 2)) (C := RX12) (T := TX12) (N := 53) hx hb hts hfX12 hown hK hP q29 eq29 rfl 2 (by decide) (hts (.fieldLink RX12 7 "ColdShipsModel" "row" "[I") wa_148) (fun _ h9 => h9) rfl dX12_hasTable_52 ?_
          refine lv_iload hx hb dX12_hasTable_55 (lv_at hl 0 rfl) ?_
          refine lv_iconst (v := 1) hx hb dX12_hasTable_57 (by decide) ?_
          refine lv_iadd hx hb dX12_hasTable_58 ?_
          refine lv_topi (fun z48 ez48 => ?_)
          have iz48 : z48.toInt = z42.toInt + 1 := zi_add ez48 rfl rfl (by omega) (by omega)
          refine va_iald hx hb hK hP q31 0 eq31 rfl (vp_in_iff.mpr ⟨by omega, by omega⟩) dX12_hasTable_59 ?_
          refine lv_topi (fun z49 ez49 => ?_)
          have jz49 : z49.toInt = mo_R g27 (547 + 84 * qs + 33 + 3 * w35.toInt) := mo_rd ez49 (by omega)
          have kz49 := hI.SB (s := qs) (k := w35.toInt) (by omega) (by omega) (by omega) (by omega)
          refine lv_aload_n hx hb dX12_hasTable_60 rfl (lv_at hl 3 rfl) ?_
          refine va_get (D := (dC, dI)) (ci := 12) (v := .ref (ρ h0 2)) (C := RX12) (T := TX12) (N := 53) hx hb hts hfX12 hown hK hP q29 eq29 rfl 2 (by decide) (hts (.fieldLink RX12 7 "ColdShipsModel" "row" "[I") wa_148) (fun _ h9 => h9) rfl dX12_hasTable_61 ?_
          refine lv_iload hx hb dX12_hasTable_64 (lv_at hl 0 rfl) ?_
          refine lv_iconst (v := 2) hx hb dX12_hasTable_66 (by decide) ?_
          refine lv_isub hx hb dX12_hasTable_67 ?_
          refine lv_topi (fun z50 ez50 => ?_)
          have iz50 : z50.toInt = z42.toInt - 2 := zi_sub ez50 rfl rfl (by omega) (by omega)
          refine va_iald hx hb hK hP q31 0 eq31 rfl (vp_in_iff.mpr ⟨by omega, by omega⟩) dX12_hasTable_68 ?_
          refine lv_topi (fun z51 ez51 => ?_)
          refine lv_icmp_le (tgt := 97) hx hb dX12_hasTable_69 (by decide) (fun c52 => ?_) (fun c52 => ?_)
          · have ic52 : z49.toInt ≤ z51.toInt := zi_le rfl rfl c52
            refine lv_iconst (v := 0) hx hb dX12_hasTable_97 (by decide) ?_
            refine lv_istore_n (lv' := [(2, .int 0), (4, .int z42), (3, .int w35), (0, .ref h0), (1, .int us)]) hx hb dX12_hasTable_98 rfl hl (by decide) rfl (fun ls hl => ?_)
            obtain ⟨z53, ez53⟩ : ∃ y : Int32, y = w35 + 1 := ⟨_, rfl⟩
            refine lv_iinc (v := z53) (lv' := [(3, .int z53), (2, .int 0), (4, .int z42), (0, .ref h0), (1, .int us)]) hx hb dX12_hasTable_99 hl (k := 2) rfl (by rw [ez53]; rfl) (by decide) rfl (fun ls hl => ?_)
            have iz53 : z53.toInt = w35.toInt + 1 := zi_add ez53 rfl rfl (by omega) (by omega)
            refine lv_goto (tgt := 21) hx hb dX12_hasTable_102 (by decide) ?_
            exact ih37 _ _ _ _ (by rw [hn38]; omega) ⟨z53, 0, rfl, (by have : (0 : Int32).toInt = 0 := rfl; omega), (by have : (0 : Int32).toInt = 0 := rfl; omega), rfl, rfl, lv_sub hl [0, 1, 3, 4] rfl⟩
          · have ic52 : z49.toInt > z51.toInt := zi_lef rfl rfl c52
            refine lv_aload_n hx hb dX12_hasTable_72 rfl (lv_at hl 3 rfl) ?_
            refine va_get (D := (dC, dI)) (ci := 12) (v := .ref (ρ h0 2)) (C := RX12) (T := TX12) (N := 53) hx hb hts hfX12 hown hK hP q29 eq29 rfl 2 (by decide) (hts (.fieldLink RX12 7 "ColdShipsModel" "row" "[I") wa_148) (fun _ h9 => h9) rfl dX12_hasTable_73 ?_
            refine lv_iload hx hb dX12_hasTable_76 (lv_at hl 0 rfl) ?_
            refine lv_iconst (v := 2) hx hb dX12_hasTable_78 (by decide) ?_
            refine lv_iadd hx hb dX12_hasTable_79 ?_
            refine lv_topi (fun z54 ez54 => ?_)
            have iz54 : z54.toInt = z42.toInt + 2 := zi_add ez54 rfl rfl (by omega) (by omega)
            refine va_iald hx hb hK hP q31 0 eq31 rfl (vp_in_iff.mpr ⟨by omega, by omega⟩) dX12_hasTable_80 ?_
            refine lv_topi (fun z55 ez55 => ?_)
            refine lv_aload_n hx hb dX12_hasTable_81 rfl (lv_at hl 3 rfl) ?_
            refine va_get (D := (dC, dI)) (ci := 12) (v := .ref (ρ h0 2)) (C := RX12) (T := TX12) (N := 53) hx hb hts hfX12 hown hK hP q29 eq29 rfl 2 (by decide) (hts (.fieldLink RX12 7 "ColdShipsModel" "row" "[I") wa_148) (fun _ h9 => h9) rfl dX12_hasTable_82 ?_
            refine lv_iload hx hb dX12_hasTable_85 (lv_at hl 0 rfl) ?_
            refine lv_iconst (v := 1) hx hb dX12_hasTable_87 (by decide) ?_
            refine lv_isub hx hb dX12_hasTable_88 ?_
            refine lv_topi (fun z56 ez56 => ?_)
            have iz56 : z56.toInt = z42.toInt - 1 := zi_sub ez56 rfl rfl (by omega) (by omega)
            refine va_iald hx hb hK hP q31 0 eq31 rfl (vp_in_iff.mpr ⟨by omega, by omega⟩) dX12_hasTable_89 ?_
            refine lv_topi (fun z57 ez57 => ?_)
            refine lv_icmp_lt (tgt := 97) hx hb dX12_hasTable_90 (by decide) (fun c58 => ?_) (fun c58 => ?_)
            · have ic58 : z55.toInt < z57.toInt := zi_lt rfl rfl c58
              refine lv_iconst (v := 0) hx hb dX12_hasTable_97 (by decide) ?_
              refine lv_istore_n (lv' := [(2, .int 0), (4, .int z42), (3, .int w35), (0, .ref h0), (1, .int us)]) hx hb dX12_hasTable_98 rfl hl (by decide) rfl (fun ls hl => ?_)
              obtain ⟨z59, ez59⟩ : ∃ y : Int32, y = w35 + 1 := ⟨_, rfl⟩
              refine lv_iinc (v := z59) (lv' := [(3, .int z59), (2, .int 0), (4, .int z42), (0, .ref h0), (1, .int us)]) hx hb dX12_hasTable_99 hl (k := 2) rfl (by rw [ez59]; rfl) (by decide) rfl (fun ls hl => ?_)
              have iz59 : z59.toInt = w35.toInt + 1 := zi_add ez59 rfl rfl (by omega) (by omega)
              refine lv_goto (tgt := 21) hx hb dX12_hasTable_102 (by decide) ?_
              exact ih37 _ _ _ _ (by rw [hn38]; omega) ⟨z59, 0, rfl, (by have : (0 : Int32).toInt = 0 := rfl; omega), (by have : (0 : Int32).toInt = 0 := rfl; omega), rfl, rfl, lv_sub hl [0, 1, 3, 4] rfl⟩
            · have ic58 : z55.toInt ≥ z57.toInt := zi_ltf rfl rfl c58
              refine lv_iconst (v := 1) hx hb dX12_hasTable_93 (by decide) ?_
              refine lv_goto (tgt := 98) hx hb dX12_hasTable_94 (by decide) ?_
              refine lv_istore_n (lv' := [(2, .int 1), (4, .int z42), (3, .int w35), (0, .ref h0), (1, .int us)]) hx hb dX12_hasTable_98 rfl hl (by decide) rfl (fun ls hl => ?_)
              obtain ⟨z60, ez60⟩ : ∃ y : Int32, y = w35 + 1 := ⟨_, rfl⟩
              refine lv_iinc (v := z60) (lv' := [(3, .int z60), (2, .int 1), (4, .int z42), (0, .ref h0), (1, .int us)]) hx hb dX12_hasTable_99 hl (k := 2) rfl (by rw [ez60]; rfl) (by decide) rfl (fun ls hl => ?_)
              have iz60 : z60.toInt = w35.toInt + 1 := zi_add ez60 rfl rfl (by omega) (by omega)
              refine lv_goto (tgt := 21) hx hb dX12_hasTable_102 (by decide) ?_
              exact ih37 _ _ _ _ (by rw [hn38]; omega) ⟨z60, 1, rfl, (by have : (1 : Int32).toInt = 1 := rfl; omega), (by have : (1 : Int32).toInt = 1 := rfl; omega), rfl, rfl, lv_sub hl [0, 1, 3, 4] rfl⟩
  · refine lv_icmp_ne (tgt := 17) hx hb dX12_hasTable_10 (by decide) (fun c61 => ?_) (fun c61 => ?_)
    · have ic61 : z32.toInt ≠ 1 := zi_ne rfl rfl c61
      refine lv_iconst (v := 0) hx hb dX12_hasTable_17 (by decide) ?_
      exact hj34 _ _ _ _ ⟨0, rfl, (by have : (0 : Int32).toInt = 0 := rfl; omega), rfl, rfl, lv_sub hl [0, 1] rfl⟩
    · have ic61 : z32.toInt = 1 := zi_nef rfl rfl c61
      refine lv_iconst (v := 1) hx hb dX12_hasTable_13 (by decide) ?_
      refine lv_goto (tgt := 18) hx hb dX12_hasTable_14 (by decide) ?_
      exact hj34 _ _ _ _ ⟨1, rfl, (by have : (1 : Int32).toInt = 1 := rfl; omega), rfl, rfl, lv_sub hl [0, 1] rfl⟩
set_option maxHeartbeats 4000000 in
set_option maxRecDepth 100000 in
theorem t_X12_tonsBy (l : Launch) (dC : Nat → ClassId) (dI : Nat → Nat → Nat) (sz : Nat) (κ : Nat → ClassId) (τ ν : Nat → Nat) (ρ : Nat → Nat → Nat) (L : List Nat) (f : Nat → va_E) (hG : tp_G τ ν ρ L) (hT : tp_T (mo_O κ) κ τ ν ρ f) (h0 : Nat) (us : Int32) (v : Int32) (x : Int) (b : Int) (qs : Int) (ht_h0 : τ h0 = 13) (hL_us : us.toInt = 547 + 84 * qs) (hq_us : 0 ≤ qs ∧ qs ≤ 5) (hbb : 0 ≤ b ∧ b ≤ 1000) (hJ : mo_RI x b (mo_R (mo_i (f (ρ h0 2))))) (hn1 : qs < (mo_R (mo_i (f (ρ h0 2)))) (1)) : Met l yX12_tonsBy wqX12_tonsBy ({ frames := 2, cells := 0, slots := 0, locals := 400 }) (va_Pc [.ref h0, .int us, .int v] (pz_B dC dI (tp_K κ) (va_pl L f) sz)) (vp_Sl (fun r => True ∧ True)) 0 0 (fun _ => False) := by
  refine Met.ofW (cc := cX12_tonsBy) (maxL := 7) (ret := some .long) (by decide) rfl ?_
  intro p e s m args below meth c s₁ B hml hv
  obtain ⟨rfl, hsz, hP, hK, hD0, hN⟩ := hv
  have hx := B.exec
  have hb := B.bytes
  have hr := B.returns
  have hts := fun (w : Cond) (h : w ∈ WALL) => atoms_spec (ws := wqX12_tonsBy) B.pre w (List.mem_cons_of_mem _ h)
  have hown : s.vm.findClass RX12 = some m.cls := findClass_of_methodNamed B.named
  have hlocks := B.notSynchronized
  subst hsz
  have hD := hD0
  have hS : va_S (fun _ => True) s.heap s.heap [] := va_S.rf
  have hl := lv_entry ([.ref h0, .int us, .int v]) (n := 7) (Nat.le_of_ble_eq_true rfl)
  rw [lg_entry_eq]
  generalize (lg_sl ([.ref h0, .int us, .int v]) ++ List.replicate (7 - (lg_sl ([.ref h0, .int us, .int v])).length) Slot.unset).toArray = ls at hl ⊢
  have hl : lv_has ls 7 [(0, .ref h0), (1, .int us), (2, .int v)] := hl
  refine tgk_13 hG ht_h0 (fun y1 y2 y3 y4 y5 y6 y7 y8 y9 y10 y11 y12 y13 y14 y15 y16 y17 y18 y19 y20 y21 y22 y23 y24 y25 => ?_)
  refine tpk_32 hT y1 (fun g27 hf_o26 => ?_)
  have hI : mo_RI x b (mo_R g27) := by have q9 := hJ; rw [hf_o26, mo_i1] at q9; exact q9
  rw [hf_o26, mo_i1] at hn1
  obtain ⟨n1, en1⟩ : ∃ n : Int, n = mo_R g27 (1) := ⟨_, rfl⟩
  have kn1 := hI.k1
  obtain ⟨n11, en11⟩ : ∃ n : Int, n = mo_R g27 (11) := ⟨_, rfl⟩
  have kn11 := hI.k11
  refine lv_iload_n hx hb dX12_tonsBy_0 rfl (lv_at hl 1 rfl) ?_
  refine lv_bipush (v := 32) hx hb dX12_tonsBy_1 (by decide) ?_
  refine lv_iadd hx hb dX12_tonsBy_3 ?_
  refine lv_topi (fun z28 ez28 => ?_)
  have iz28 : z28.toInt = us.toInt + 32 := zi_add ez28 rfl rfl (by omega) (by omega)
  refine lv_istore_n (lv' := [(3, .int z28), (0, .ref h0), (1, .int us), (2, .int v)]) hx hb dX12_tonsBy_4 rfl hl (by decide) rfl (fun ls hl => ?_)
  refine lv_iload_n hx hb dX12_tonsBy_5 rfl (lv_at hl 3 rfl) ?_
  refine lv_aload_n hx hb dX12_tonsBy_6 rfl (lv_at hl 1 rfl) ?_
  refine tpk_13 hT ht_h0 (fun o29_x0 o29_x1 o29_x7 o29_x9 o29_x10 o29_x11 o29_x12 o29_x13 o29_x14 o29_x15 o29_x16 o29_x17 o29_x18 o29_x19 o29_x20 o29_x22 o29_x25 o29_x28 o29_x29 o29_x32 o29_x33 o29_x34 o29_x35 o29_x36 o29_x37 o29_x38 o29_x47 o29_x48 hf_o29 ro29_0 ro29_1 ro29_2 ro29_3 ro29_4 ro29_5 ro29_6 ro29_7 ro29_8 ro29_9 ro29_10 ro29_11 ro29_12 ro29_13 => ?_)
  refine tpk_pos (tp_in hG ht_h0 (by decide)) hf_o29 (fun q30 eq30 => ?_)
  refine va_get (D := (dC, dI)) (ci := 12) (v := .ref (ρ h0 2)) (C := RX12) (T := TX12) (N := 53) hx hb hts hfX12 hown hK hP q30 eq30 rfl 2 (by decide) (hts (.fieldLink RX12 7 "ColdShipsModel" "row" "[I") wa_148) (fun _ h9 => h9) rfl dX12_tonsBy_7 ?_
  refine lv_iload_n hx hb dX12_tonsBy_10 rfl (lv_at hl 0 rfl) ?_
  refine lv_iconst (v := 1) hx hb dX12_tonsBy_11 (by decide) ?_
  refine lv_iadd hx hb dX12_tonsBy_12 ?_
  refine lv_topi (fun z31 ez31 => ?_)
  have iz31 : z31.toInt = z28.toInt + 1 := zi_add ez31 rfl rfl (by omega) (by omega)
  refine tpk_pos (tp_in hG y1 (by decide)) hf_o26 (fun q32 eq32 => ?_)
  refine va_iald hx hb hK hP q32 0 eq32 rfl (vp_in_iff.mpr ⟨by omega, by omega⟩) dX12_tonsBy_13 ?_
  refine lv_topi (fun z33 ez33 => ?_)
  have jz33 : z33.toInt = mo_R g27 (547 + 84 * qs + 33 + 3 * 0) := mo_rd ez33 (by omega)
  have kz33 := hI.SB (s := qs) (k := 0) (by omega) (by omega) (by omega) (by omega)
  refine lv_icmp_gt (tgt := 27) hx hb dX12_tonsBy_14 (by decide) (fun c34 => ?_) (fun c34 => ?_)
  · have ic34 : v.toInt > z33.toInt := zi_gt rfl rfl c34
    refine lv_iconst (v := 0) hx hb dX12_tonsBy_27 (by decide) ?_
    refine lv_istore (lv' := [(4, .int 0), (3, .int z28), (0, .ref h0), (1, .int us), (2, .int v)]) hx hb dX12_tonsBy_28 hl (by decide) rfl (fun ls hl => ?_)
    refine pz_loop (fun n0 H locs ls => ∃ w35 : Int32, n0 = (3 - (w35.toInt)).toNat ∧ (0 ≤ w35.toInt ∧ w35.toInt ≤ 3) ∧ (mo_R g27 (547 + 84 * qs + 33 + 3 * (w35.toInt)) < v.toInt) ∧ H = s.heap ∧ locs = [] ∧ lv_has ls 7 [(4, .int w35), (3, .int z28), (0, .ref h0), (1, .int us), (2, .int v)]) ?_ _ _ _ _ ⟨0, rfl, (by have : (0 : Int32).toInt = 0 := rfl; omega), (by have q9 : mo_R g27 (547 + 84 * qs + 33 + 3 * (0 : Int32).toInt) = mo_R g27 (547 + 84 * qs + 33 + 3 * 0) := congrArg (mo_R g27) (by have : (0 : Int32).toInt = 0 := rfl; omega); omega), rfl, rfl, lv_sub hl [0, 1, 2, 3, 4] rfl⟩
    intro n0 H locs ls hI ih37
    refine Exists.elim hI (fun w35 hE90 => tn_6 hE90 (fun hn38 rw35 k36 e93 e94 hl => ?_))
    clear hE90 hI; subst e93; subst e94
    refine lv_iload hx hb dX12_tonsBy_30 (lv_at hl 0 rfl) ?_
    refine lv_iconst (v := 3) hx hb dX12_tonsBy_32 (by decide) ?_
    refine lv_icmp_ge (tgt := 135) hx hb dX12_tonsBy_33 (by decide) (fun c39 => ?_) (fun c39 => ?_)
    · have ic39 : w35.toInt ≥ 3 := zi_ge rfl rfl c39
      refine lv_aload_n hx hb dX12_tonsBy_135 rfl (lv_at hl 2 rfl) ?_
      refine va_get (D := (dC, dI)) (ci := 12) (v := .ref (ρ h0 2)) (C := RX12) (T := TX12) (N := 53) hx hb hts hfX12 hown hK hP q30 eq30 rfl 2 (by decide) (hts (.fieldLink RX12 7 "ColdShipsModel" "row" "[I") wa_148) (fun _ h9 => h9) rfl dX12_tonsBy_136 ?_
      refine lv_iload_n hx hb dX12_tonsBy_139 rfl (lv_at hl 1 rfl) ?_
      refine lv_bipush (v := 11) hx hb dX12_tonsBy_140 (by decide) ?_
      refine lv_iadd hx hb dX12_tonsBy_142 ?_
      refine lv_topi (fun z40 ez40 => ?_)
      have iz40 : z40.toInt = z28.toInt + 11 := zi_add ez40 rfl rfl (by omega) (by omega)
      refine va_iald hx hb hK hP q32 0 eq32 rfl (vp_in_iff.mpr ⟨by omega, by omega⟩) dX12_tonsBy_143 ?_
      refine lv_topi (fun z41 ez41 => ?_)
      refine lv_i2l hx hb dX12_tonsBy_144 rfl ?_
      exact W.lret (v := z41.toInt64) hx hb hr (fun t ht hW => ⟨z41.toInt64, rfl, ⟨trivial, trivial⟩, ht⟩) (fun _ h => by cases h) dX12_tonsBy_145
    · have ic39 : w35.toInt < 3 := zi_gef rfl rfl c39
      refine lv_iload_n hx hb dX12_tonsBy_36 rfl (lv_at hl 1 rfl) ?_
      refine lv_iconst (v := 3) hx hb dX12_tonsBy_37 (by decide) ?_
      refine lv_iload hx hb dX12_tonsBy_38 (lv_at hl 0 rfl) ?_
      refine lv_imul hx hb dX12_tonsBy_40 ?_
      refine lv_topi (fun z42 ez42 => ?_)
      have iz42 : z42.toInt = 3 * w35.toInt := zi_mul ez42 rfl rfl (by omega) (by omega)
      refine lv_iadd hx hb dX12_tonsBy_41 ?_
      refine lv_topi (fun z43 ez43 => ?_)
      have iz43 : z43.toInt = z28.toInt + z42.toInt := zi_add ez43 rfl rfl (by omega) (by omega)
      refine lv_istore (lv' := [(5, .int z43), (4, .int w35), (3, .int z28), (0, .ref h0), (1, .int us), (2, .int v)]) hx hb dX12_tonsBy_42 hl (by decide) rfl (fun ls hl => ?_)
      refine lv_iload hx hb dX12_tonsBy_44 (lv_at hl 0 rfl) ?_
      refine lv_iconst (v := 3) hx hb dX12_tonsBy_46 (by decide) ?_
      refine lv_iadd hx hb dX12_tonsBy_47 ?_
      refine lv_topi (fun z44 ez44 => ?_)
      have iz44 : z44.toInt = z43.toInt + 3 := zi_add ez44 rfl rfl (by omega) (by omega)
      refine lv_istore (lv' := [(6, .int z44), (5, .int z43), (4, .int w35), (3, .int z28), (0, .ref h0), (1, .int us), (2, .int v)]) hx hb dX12_tonsBy_48 hl (by decide) rfl (fun ls hl => ?_)
      refine lv_iload_n hx hb dX12_tonsBy_50 rfl (lv_at hl 6 rfl) ?_
      refine lv_aload_n hx hb dX12_tonsBy_51 rfl (lv_at hl 4 rfl) ?_
      refine va_get (D := (dC, dI)) (ci := 12) (v := .ref (ρ h0 2)) (C := RX12) (T := TX12) (N := 53) hx hb hts hfX12 hown hK hP q30 eq30 rfl 2 (by decide) (hts (.fieldLink RX12 7 "ColdShipsModel" "row" "[I") wa_148) (fun _ h9 => h9) rfl dX12_tonsBy_52 ?_
      refine lv_iload hx hb dX12_tonsBy_55 (lv_at hl 0 rfl) ?_
      refine lv_iconst (v := 1) hx hb dX12_tonsBy_57 (by decide) ?_
      refine lv_iadd hx hb dX12_tonsBy_58 ?_
      refine lv_topi (fun z45 ez45 => ?_)
      have iz45 : z45.toInt = z44.toInt + 1 := zi_add ez45 rfl rfl (by omega) (by omega)
      refine va_iald hx hb hK hP q32 0 eq32 rfl (vp_in_iff.mpr ⟨by omega, by omega⟩) dX12_tonsBy_59 ?_
      refine lv_topi (fun z46 ez46 => ?_)
      have jz46 : z46.toInt = mo_R g27 (547 + 84 * qs + 33 + 3 * (w35.toInt + 1)) := mo_rd ez46 (by omega)
      have kz46 := hI.SB (s := qs) (k := (w35.toInt + 1)) (by omega) (by omega) (by omega) (by omega)
      refine lv_icmp_gt (tgt := 129) hx hb dX12_tonsBy_60 (by decide) (fun c47 => ?_) (fun c47 => ?_)
      · have ic47 : v.toInt > z46.toInt := zi_gt rfl rfl c47
        obtain ⟨z48, ez48⟩ : ∃ y : Int32, y = w35 + 1 := ⟨_, rfl⟩
        refine lv_iinc (v := z48) (lv' := [(4, .int z48), (6, .int z44), (5, .int z43), (3, .int z28), (0, .ref h0), (1, .int us), (2, .int v)]) hx hb dX12_tonsBy_129 hl (k := 2) rfl (by rw [ez48]; rfl) (by decide) rfl (fun ls hl => ?_)
        have iz48 : z48.toInt = w35.toInt + 1 := zi_add ez48 rfl rfl (by omega) (by omega)
        refine lv_goto (tgt := 30) hx hb dX12_tonsBy_132 (by decide) ?_
        exact ih37 _ _ _ _ (by rw [hn38]; omega) ⟨z48, rfl, (by omega), (by have q9 : mo_R g27 (547 + 84 * qs + 33 + 3 * z48.toInt) = mo_R g27 (547 + 84 * qs + 33 + 3 * (w35.toInt + 1)) := congrArg (mo_R g27) (by omega); omega), rfl, rfl, lv_sub hl [0, 3, 4, 5, 6] rfl⟩
      · have ic47 : v.toInt ≤ z46.toInt := zi_gtf rfl rfl c47
        refine lv_aload_n hx hb dX12_tonsBy_63 rfl (lv_at hl 4 rfl) ?_
        refine va_get (D := (dC, dI)) (ci := 12) (v := .ref (ρ h0 2)) (C := RX12) (T := TX12) (N := 53) hx hb hts hfX12 hown hK hP q30 eq30 rfl 2 (by decide) (hts (.fieldLink RX12 7 "ColdShipsModel" "row" "[I") wa_148) (fun _ h9 => h9) rfl dX12_tonsBy_64 ?_
        refine lv_iload hx hb dX12_tonsBy_67 (lv_at hl 1 rfl) ?_
        refine lv_iconst (v := 2) hx hb dX12_tonsBy_69 (by decide) ?_
        refine lv_iadd hx hb dX12_tonsBy_70 ?_
        refine lv_topi (fun z49 ez49 => ?_)
        have iz49 : z49.toInt = z43.toInt + 2 := zi_add ez49 rfl rfl (by omega) (by omega)
        refine va_iald hx hb hK hP q32 0 eq32 rfl (vp_in_iff.mpr ⟨by omega, by omega⟩) dX12_tonsBy_71 ?_
        refine lv_topi (fun z50 ez50 => ?_)
        refine lv_i2l hx hb dX12_tonsBy_72 rfl ?_
        refine lv_aload_n hx hb dX12_tonsBy_73 rfl (lv_at hl 4 rfl) ?_
        refine va_get (D := (dC, dI)) (ci := 12) (v := .ref (ρ h0 2)) (C := RX12) (T := TX12) (N := 53) hx hb hts hfX12 hown hK hP q30 eq30 rfl 2 (by decide) (hts (.fieldLink RX12 7 "ColdShipsModel" "row" "[I") wa_148) (fun _ h9 => h9) rfl dX12_tonsBy_74 ?_
        refine lv_iload hx hb dX12_tonsBy_77 (lv_at hl 0 rfl) ?_
        refine lv_iconst (v := 2) hx hb dX12_tonsBy_79 (by decide) ?_
        refine lv_iadd hx hb dX12_tonsBy_80 ?_
        refine lv_topi (fun z51 ez51 => ?_)
        have iz51 : z51.toInt = z44.toInt + 2 := zi_add ez51 rfl rfl (by omega) (by omega)
        refine va_iald hx hb hK hP q32 0 eq32 rfl (vp_in_iff.mpr ⟨by omega, by omega⟩) dX12_tonsBy_81 ?_
        refine lv_topi (fun z52 ez52 => ?_)
        refine lv_aload_n hx hb dX12_tonsBy_82 rfl (lv_at hl 4 rfl) ?_
        refine va_get (D := (dC, dI)) (ci := 12) (v := .ref (ρ h0 2)) (C := RX12) (T := TX12) (N := 53) hx hb hts hfX12 hown hK hP q30 eq30 rfl 2 (by decide) (hts (.fieldLink RX12 7 "ColdShipsModel" "row" "[I") wa_148) (fun _ h9 => h9) rfl dX12_tonsBy_83 ?_
        refine lv_iload hx hb dX12_tonsBy_86 (lv_at hl 1 rfl) ?_
        refine lv_iconst (v := 2) hx hb dX12_tonsBy_88 (by decide) ?_
        refine lv_iadd hx hb dX12_tonsBy_89 ?_
        refine lv_topi (fun z53 ez53 => ?_)
        have iz53 : z53.toInt = z43.toInt + 2 := zi_add ez53 rfl rfl (by omega) (by omega)
        refine va_iald hx hb hK hP q32 0 eq32 rfl (vp_in_iff.mpr ⟨by omega, by omega⟩) dX12_tonsBy_90 ?_
        refine lv_topi (fun z54 ez54 => ?_)
        refine lv_isub hx hb dX12_tonsBy_91 ?_
        refine lv_topi (fun z55 ez55 => ?_)
        refine lv_i2l hx hb dX12_tonsBy_92 rfl ?_
        refine lv_iload_n hx hb dX12_tonsBy_93 rfl (lv_at hl 6 rfl) ?_
        refine lv_aload_n hx hb dX12_tonsBy_94 rfl (lv_at hl 4 rfl) ?_
        refine va_get (D := (dC, dI)) (ci := 12) (v := .ref (ρ h0 2)) (C := RX12) (T := TX12) (N := 53) hx hb hts hfX12 hown hK hP q30 eq30 rfl 2 (by decide) (hts (.fieldLink RX12 7 "ColdShipsModel" "row" "[I") wa_148) (fun _ h9 => h9) rfl dX12_tonsBy_95 ?_
        refine lv_iload hx hb dX12_tonsBy_98 (lv_at hl 1 rfl) ?_
        refine lv_iconst (v := 1) hx hb dX12_tonsBy_100 (by decide) ?_
        refine lv_iadd hx hb dX12_tonsBy_101 ?_
        refine lv_topi (fun z56 ez56 => ?_)
        have iz56 : z56.toInt = z43.toInt + 1 := zi_add ez56 rfl rfl (by omega) (by omega)
        refine va_iald hx hb hK hP q32 0 eq32 rfl (vp_in_iff.mpr ⟨by omega, by omega⟩) dX12_tonsBy_102 ?_
        refine lv_topi (fun z57 ez57 => ?_)
        have jz57 : z57.toInt = mo_R g27 (547 + 84 * qs + 33 + 3 * w35.toInt) := mo_rd ez57 (by omega)
        have kz57 := hI.SB (s := qs) (k := w35.toInt) (by omega) (by omega) (by omega) (by omega)
        refine lv_isub hx hb dX12_tonsBy_103 ?_
        refine lv_topi (fun z58 ez58 => ?_)
        have iz58 : z58.toInt = v.toInt - z57.toInt := zi_sub ez58 rfl rfl (by omega) (by omega)
        refine lv_i2l hx hb dX12_tonsBy_104 rfl ?_
        refine lv_lmul hx hb dX12_tonsBy_105 ?_
        refine lv_topl (fun z59 ez59 => ?_)
        refine lv_aload_n hx hb dX12_tonsBy_106 rfl (lv_at hl 4 rfl) ?_
        refine va_get (D := (dC, dI)) (ci := 12) (v := .ref (ρ h0 2)) (C := RX12) (T := TX12) (N := 53) hx hb hts hfX12 hown hK hP q30 eq30 rfl 2 (by decide) (hts (.fieldLink RX12 7 "ColdShipsModel" "row" "[I") wa_148) (fun _ h9 => h9) rfl dX12_tonsBy_107 ?_
        refine lv_iload hx hb dX12_tonsBy_110 (lv_at hl 0 rfl) ?_
        refine lv_iconst (v := 1) hx hb dX12_tonsBy_112 (by decide) ?_
        refine lv_iadd hx hb dX12_tonsBy_113 ?_
        refine lv_topi (fun z60 ez60 => ?_)
        have iz60 : z60.toInt = z44.toInt + 1 := zi_add ez60 rfl rfl (by omega) (by omega)
        refine va_iald hx hb hK hP q32 0 eq32 rfl (vp_in_iff.mpr ⟨by omega, by omega⟩) dX12_tonsBy_114 ?_
        refine lv_topi (fun z61 ez61 => ?_)
        have jz61 : z61.toInt = mo_R g27 (547 + 84 * qs + 33 + 3 * (w35.toInt + 1)) := mo_rd ez61 (by omega)
        have kz61 := hI.SB (s := qs) (k := (w35.toInt + 1)) (by omega) (by omega) (by omega) (by omega)
        have vz61 : z61.toInt = z46.toInt := jz61.trans (jz46).symm
        refine lv_aload_n hx hb dX12_tonsBy_115 rfl (lv_at hl 4 rfl) ?_
        refine va_get (D := (dC, dI)) (ci := 12) (v := .ref (ρ h0 2)) (C := RX12) (T := TX12) (N := 53) hx hb hts hfX12 hown hK hP q30 eq30 rfl 2 (by decide) (hts (.fieldLink RX12 7 "ColdShipsModel" "row" "[I") wa_148) (fun _ h9 => h9) rfl dX12_tonsBy_116 ?_
        refine lv_iload hx hb dX12_tonsBy_119 (lv_at hl 1 rfl) ?_
        refine lv_iconst (v := 1) hx hb dX12_tonsBy_121 (by decide) ?_
        refine lv_iadd hx hb dX12_tonsBy_122 ?_
        refine lv_topi (fun z62 ez62 => ?_)
        have iz62 : z62.toInt = z43.toInt + 1 := zi_add ez62 rfl rfl (by omega) (by omega)
        refine va_iald hx hb hK hP q32 0 eq32 rfl (vp_in_iff.mpr ⟨by omega, by omega⟩) dX12_tonsBy_123 ?_
        refine lv_topi (fun z63 ez63 => ?_)
        have jz63 : z63.toInt = mo_R g27 (547 + 84 * qs + 33 + 3 * w35.toInt) := mo_rd ez63 (by omega)
        have kz63 := hI.SB (s := qs) (k := w35.toInt) (by omega) (by omega) (by omega) (by omega)
        have vz63 : z63.toInt = z57.toInt := jz63.trans (jz57).symm
        refine lv_isub hx hb dX12_tonsBy_124 ?_
        refine lv_topi (fun z64 ez64 => ?_)
        have iz64 : z64.toInt = z61.toInt - z63.toInt := zi_sub ez64 rfl rfl (by omega) (by omega)
        refine lv_i2l hx hb dX12_tonsBy_125 rfl ?_
        refine lv_ldiv hx hb dX12_tonsBy_126 (zl_nz (by omega) (Int32.toInt_toInt64 z64)) ?_
        refine lv_topl (fun z65 ez65 => ?_)
        refine lv_ladd hx hb dX12_tonsBy_127 ?_
        refine lv_topl (fun z66 ez66 => ?_)
        exact W.lret (v := z66) hx hb hr (fun t ht hW => ⟨z66, rfl, ⟨trivial, trivial⟩, ht⟩) (fun _ h => by cases h) dX12_tonsBy_128
  · have ic34 : v.toInt ≤ z33.toInt := zi_gtf rfl rfl c34
    refine lv_aload_n hx hb dX12_tonsBy_17 rfl (lv_at hl 1 rfl) ?_
    refine va_get (D := (dC, dI)) (ci := 12) (v := .ref (ρ h0 2)) (C := RX12) (T := TX12) (N := 53) hx hb hts hfX12 hown hK hP q30 eq30 rfl 2 (by decide) (hts (.fieldLink RX12 7 "ColdShipsModel" "row" "[I") wa_148) (fun _ h9 => h9) rfl dX12_tonsBy_18 ?_
    refine lv_iload_n hx hb dX12_tonsBy_21 rfl (lv_at hl 0 rfl) ?_
    refine lv_iconst (v := 2) hx hb dX12_tonsBy_22 (by decide) ?_
    refine lv_iadd hx hb dX12_tonsBy_23 ?_
    refine lv_topi (fun z67 ez67 => ?_)
    have iz67 : z67.toInt = z28.toInt + 2 := zi_add ez67 rfl rfl (by omega) (by omega)
    refine va_iald hx hb hK hP q32 0 eq32 rfl (vp_in_iff.mpr ⟨by omega, by omega⟩) dX12_tonsBy_24 ?_
    refine lv_topi (fun z68 ez68 => ?_)
    refine lv_i2l hx hb dX12_tonsBy_25 rfl ?_
    exact W.lret (v := z68.toInt64) hx hb hr (fun t ht hW => ⟨z68.toInt64, rfl, ⟨trivial, trivial⟩, ht⟩) (fun _ h => by cases h) dX12_tonsBy_26
set_option maxHeartbeats 4000000 in
set_option maxRecDepth 100000 in
theorem t_X12_gaugedBy (l : Launch) (dC : Nat → ClassId) (dI : Nat → Nat → Nat) (sz : Nat) (κ : Nat → ClassId) (τ ν : Nat → Nat) (ρ : Nat → Nat → Nat) (L : List Nat) (f : Nat → va_E) (hG : tp_G τ ν ρ L) (hT : tp_T (mo_O κ) κ τ ν ρ f) (h0 : Nat) (v : Int32) (u : Int32) (a : Int32) (x : Int) (b : Int) (ht_h0 : τ h0 = 13) (hbb : 0 ≤ b ∧ b ≤ 1000) (hJ : mo_RI x b (mo_R (mo_i (f (ρ h0 2))))) (hv5 : 0 ≤ v.toInt ∧ v.toInt < (mo_R (mo_i (f (ρ h0 2)))) (5)) : Met l yX12_gaugedBy wqX12_gaugedBy ({ frames := 3, cells := 0, slots := 0, locals := 800 }) (va_Pc [.ref h0, .int v, .int u, .int a] (pz_B dC dI (tp_K κ) (va_pl L f) sz)) (vp_Sl (fun r => True ∧ True)) 0 0 (fun _ => False) := by
  refine Met.ofW (cc := cX12_gaugedBy) (maxL := 9) (ret := some .long) (by decide) rfl ?_
  intro p e s m args below meth c s₁ B hml hv
  obtain ⟨rfl, hsz, hP, hK, hD0, hN⟩ := hv
  have hx := B.exec
  have hb := B.bytes
  have hr := B.returns
  have hts := fun (w : Cond) (h : w ∈ WALL) => atoms_spec (ws := wqX12_gaugedBy) B.pre w (List.mem_cons_of_mem _ h)
  have hown : s.vm.findClass RX12 = some m.cls := findClass_of_methodNamed B.named
  have hlocks := B.notSynchronized
  subst hsz
  have hD := hD0
  have hS : va_S (fun _ => True) s.heap s.heap [] := va_S.rf
  have hl := lv_entry ([.ref h0, .int v, .int u, .int a]) (n := 9) (Nat.le_of_ble_eq_true rfl)
  rw [lg_entry_eq]
  generalize (lg_sl ([.ref h0, .int v, .int u, .int a]) ++ List.replicate (9 - (lg_sl ([.ref h0, .int v, .int u, .int a])).length) Slot.unset).toArray = ls at hl ⊢
  have hl : lv_has ls 9 [(0, .ref h0), (1, .int v), (2, .int u), (3, .int a)] := hl
  refine tgk_13 hG ht_h0 (fun y1 y2 y3 y4 y5 y6 y7 y8 y9 y10 y11 y12 y13 y14 y15 y16 y17 y18 y19 y20 y21 y22 y23 y24 y25 => ?_)
  refine tpk_32 hT y1 (fun g27 hf_o26 => ?_)
  have hI : mo_RI x b (mo_R g27) := by have q9 := hJ; rw [hf_o26, mo_i1] at q9; exact q9
  rw [hf_o26, mo_i1] at hv5
  have := hI.k5; have := hI.k1
  refine lv_aload_n hx hb dX12_gaugedBy_0 rfl (lv_at hl 0 rfl) ?_
  refine tpk_13 hT ht_h0 (fun o28_x0 o28_x1 o28_x7 o28_x9 o28_x10 o28_x11 o28_x12 o28_x13 o28_x14 o28_x15 o28_x16 o28_x17 o28_x18 o28_x19 o28_x20 o28_x22 o28_x25 o28_x28 o28_x29 o28_x32 o28_x33 o28_x34 o28_x35 o28_x36 o28_x37 o28_x38 o28_x47 o28_x48 hf_o28 ro28_0 ro28_1 ro28_2 ro28_3 ro28_4 ro28_5 ro28_6 ro28_7 ro28_8 ro28_9 ro28_10 ro28_11 ro28_12 ro28_13 => ?_)
  refine tpk_pos (tp_in hG ht_h0 (by decide)) hf_o28 (fun q29 eq29 => ?_)
  refine va_get (D := (dC, dI)) (ci := 12) (v := .ref (ρ h0 2)) (C := RX12) (T := TX12) (N := 53) hx hb hts hfX12 hown hK hP q29 eq29 rfl 2 (by decide) (hts (.fieldLink RX12 7 "ColdShipsModel" "row" "[I") wa_148) (fun _ h9 => h9) rfl dX12_gaugedBy_1 ?_
  refine lv_iload_n hx hb dX12_gaugedBy_4 rfl (lv_at hl 1 rfl) ?_
  refine pz_calli (va_runS (As := [.int v]) (rest := [.ref (ρ h0 2)]) ⟨hx, hb, hml, hown, hts⟩ (t_X12_landingAt l dC dI _ v (v.toInt) (by omega) rfl) (va_cwS 1 hts gX12_gaugedBy_X12_landingAt rfl rfl rfl pd_X12_landingAt ⟨Nat.le_of_ble_eq_true rfl, Nat.le_of_ble_eq_true rfl⟩) ⟨pz_blind, pz_pre pz_P0 (hK.sub (tys' := []) [] rfl) (pz_D0 (A := fun _ => True)) hN⟩ rfl rfl hl.1 rfl (lv_room (Nat.le_of_ble_eq_true rfl)) dX12_gaugedBy_5 ⟨Nat.le_of_ble_eq_true rfl, Nat.le_of_ble_eq_true rfl⟩) (fun r30 hw31 => ?_)
  obtain ⟨hw31r, hw31p⟩ := hw31
  refine tpk_pos (tp_in hG y1 (by decide)) hf_o26 (fun q32 eq32 => ?_)
  refine va_iald hx hb hK hP q32 0 eq32 rfl (vp_in_iff.mpr ⟨by omega, by omega⟩) dX12_gaugedBy_8 ?_
  refine lv_topi (fun z33 ez33 => ?_)
  have := hI.k1
  have jz33 : z33.toInt = mo_R g27 (1051 + 16 * v.toInt + 0) := mo_rd ez33 (by omega)
  have kz33 := hI.LS (l := v.toInt) (by omega) (by omega)
  refine pz_calli (va_runS (As := [.int z33]) (rest := []) ⟨hx, hb, hml, hown, hts⟩ (t_X12_shipAt l dC dI _ z33 (z33.toInt) (by omega) rfl) (va_cwS 1 hts gX12_gaugedBy_X12_shipAt rfl rfl rfl pd_X12_shipAt ⟨Nat.le_of_ble_eq_true rfl, Nat.le_of_ble_eq_true rfl⟩) ⟨pz_blind, pz_pre pz_P0 (hK.sub (tys' := []) [] rfl) (pz_D0 (A := fun _ => True)) hN⟩ rfl rfl hl.1 rfl (lv_room (Nat.le_of_ble_eq_true rfl)) dX12_gaugedBy_9 ⟨Nat.le_of_ble_eq_true rfl, Nat.le_of_ble_eq_true rfl⟩) (fun r34 hw35 => ?_)
  obtain ⟨hw35r, hw35p⟩ := hw35
  refine lv_istore (lv' := [(4, .int r34), (0, .ref h0), (1, .int v), (2, .int u), (3, .int a)]) hx hb dX12_gaugedBy_12 hl (by decide) rfl (fun ls hl => ?_)
  refine lv_ldc2 (own := RX12) (v := (-2000000000000000)) hx hb hown (hts (.constantLong RX12 466 (-2000000000000000)) wa_1189) dX12_gaugedBy_14 ?_
  refine lv_lstore (lv' := [(5, .long (-2000000000000000)), (4, .int r34), (0, .ref h0), (1, .int v), (2, .int u), (3, .int a)]) hx hb dX12_gaugedBy_17 hl (by decide) rfl (fun ls hl => ?_)
  refine lv_iconst (v := 0) hx hb dX12_gaugedBy_19 (by decide) ?_
  refine lv_istore (lv' := [(7, .int 0), (5, .long (-2000000000000000)), (4, .int r34), (0, .ref h0), (1, .int v), (2, .int u), (3, .int a)]) hx hb dX12_gaugedBy_20 hl (by decide) rfl (fun ls hl => ?_)
  refine pz_loop (fun n0 H locs ls => ∃ w36 : Int32, ∃ w37 : Int64, n0 = (60 - (w36.toInt)).toNat ∧ (0 ≤ w36.toInt ∧ w36.toInt ≤ 60) ∧ H = s.heap ∧ locs = [] ∧ lv_has ls 9 [(7, .int w36), (5, .long w37), (4, .int r34), (0, .ref h0), (1, .int v), (2, .int u), (3, .int a)]) ?_ _ _ _ _ ⟨0, (-2000000000000000), rfl, (by have : (0 : Int32).toInt = 0 := rfl; have : ((-2000000000000000) : Int64).toInt = (-2000000000000000) := rfl; omega), rfl, rfl, lv_sub hl [0, 1, 2, 3, 4, 5, 6] rfl⟩
  intro n0 H locs ls hI ih38
  refine Exists.elim hI (fun w36 hE90 => Exists.elim hE90 (fun w37 hE91 => tn_5 hE91 (fun hn39 rw36 e92 e93 hl => ?_)))
  clear hE91 hE90 hI; subst e92; subst e93
  refine lv_iload hx hb dX12_gaugedBy_22 (lv_at hl 0 rfl) ?_
  refine lv_aload_n hx hb dX12_gaugedBy_24 rfl (lv_at hl 3 rfl) ?_
  refine va_get (D := (dC, dI)) (ci := 12) (v := .ref (ρ h0 2)) (C := RX12) (T := TX12) (N := 53) hx hb hts hfX12 hown hK hP q29 eq29 rfl 2 (by decide) (hts (.fieldLink RX12 7 "ColdShipsModel" "row" "[I") wa_148) (fun _ h9 => h9) rfl dX12_gaugedBy_25 ?_
  refine lv_bipush (v := 9) hx hb dX12_gaugedBy_28 (by decide) ?_
  refine va_iald hx hb hK hP q32 0 eq32 rfl (vp_in_iff.mpr ⟨by decide, by decide⟩) dX12_gaugedBy_30 ?_
  refine lv_topi (fun z40 ez40 => ?_)
  have jz40 : z40.toInt = mo_R g27 (9) := mo_rd ez40 (show (9 : Int32).toInt = (9) from by decide)
  have kz40 := hI.k9
  refine lv_icmp_ge (tgt := 125) hx hb dX12_gaugedBy_31 (by decide) (fun c41 => ?_) (fun c41 => ?_)
  · have ic41 : w36.toInt ≥ z40.toInt := zi_ge rfl rfl c41
    refine lv_aload_n hx hb dX12_gaugedBy_125 rfl (lv_at hl 3 rfl) ?_
    refine lv_iload hx hb dX12_gaugedBy_126 (lv_at hl 2 rfl) ?_
    refine pz_calli (va_runV (As := [.int r34]) (rest := []) ⟨hx, hb, hml, hown, hts⟩ (t_X12_hasTable l dC dI _ κ τ ν ρ L f hG hT h0 r34 x b z33.toInt ht_h0 (by omega) (by omega) (by omega) (by rw [hf_o26, mo_i1]; exact hI) (by first | (simp only [hf_o26, mo_i1]; omega) | (simp only [hf_o26, mo_i1]; trivial) | (simp only [hf_o26, mo_i1]; done) | omega)) (cwV 1 hts gX12_gaugedBy_X12_hasTable rfl rfl rfl ⟨rfl, pd_X12_hasTable⟩ ⟨Nat.le_of_ble_eq_true rfl, Nat.le_of_ble_eq_true rfl⟩) ⟨pz_blind, va_recv hK hP (ci := 12) (q0 := q29) rfl eq29, pz_pre hP hK hD hN⟩ rfl rfl hl.1 rfl (lv_room (Nat.le_of_ble_eq_true rfl)) dX12_gaugedBy_128 ⟨Nat.le_of_ble_eq_true rfl, Nat.le_of_ble_eq_true rfl⟩) (fun r42 hw43 => ?_)
    obtain ⟨hw43r, hw43p⟩ := hw43
    refine lv_if_eq (tgt := 139) hx hb dX12_gaugedBy_131 (by decide) (fun c44 => ?_) (fun c44 => ?_)
    · have ic44 : r42.toInt = 0 := zi_eq rfl rfl c44
      refine lv_ldc2 (own := RX12) (v := (-2000000000000000)) hx hb hown (hts (.constantLong RX12 466 (-2000000000000000)) wa_1189) dX12_gaugedBy_139 ?_
      exact W.lret (v := (-2000000000000000)) hx hb hr (fun t ht hW => ⟨(-2000000000000000), rfl, ⟨trivial, trivial⟩, ht⟩) (fun _ h => by cases h) dX12_gaugedBy_142
    · have ic44 : r42.toInt ≠ 0 := zi_eqf rfl rfl c44
      replace ic44 : 1 ≤ r42.toInt := by omega
      refine lv_lload hx hb dX12_gaugedBy_134 (lv_at hl 1 rfl) ?_
      refine lv_goto (tgt := 142) hx hb dX12_gaugedBy_136 (by decide) ?_
      exact W.lret (v := w37) hx hb hr (fun t ht hW => ⟨w37, rfl, ⟨trivial, trivial⟩, ht⟩) (fun _ h => by cases h) dX12_gaugedBy_142
  · have ic41 : w36.toInt < z40.toInt := zi_gef rfl rfl c41
    refine lv_sipush (v := 12619) hx hb dX12_gaugedBy_34 (by decide) ?_
    refine lv_iconst (v := 5) hx hb dX12_gaugedBy_37 (by decide) ?_
    refine lv_iload hx hb dX12_gaugedBy_38 (lv_at hl 0 rfl) ?_
    refine lv_imul hx hb dX12_gaugedBy_40 ?_
    refine lv_topi (fun z45 ez45 => ?_)
    have iz45 : z45.toInt = 5 * w36.toInt := zi_mul ez45 rfl rfl (by omega) (by omega)
    refine lv_iadd hx hb dX12_gaugedBy_41 ?_
    refine lv_topi (fun z46 ez46 => ?_)
    have iz46 : z46.toInt = 12619 + z45.toInt := zi_add ez46 rfl rfl (by omega) (by omega)
    refine lv_istore (lv' := [(8, .int z46), (7, .int w36), (5, .long w37), (4, .int r34), (0, .ref h0), (1, .int v), (2, .int u), (3, .int a)]) hx hb dX12_gaugedBy_42 hl (by decide) rfl (fun ls hl => ?_)
    refine lv_aload_n hx hb dX12_gaugedBy_44 rfl (lv_at hl 4 rfl) ?_
    refine va_get (D := (dC, dI)) (ci := 12) (v := .ref (ρ h0 2)) (C := RX12) (T := TX12) (N := 53) hx hb hts hfX12 hown hK hP q29 eq29 rfl 2 (by decide) (hts (.fieldLink RX12 7 "ColdShipsModel" "row" "[I") wa_148) (fun _ h9 => h9) rfl dX12_gaugedBy_45 ?_
    refine lv_iload hx hb dX12_gaugedBy_48 (lv_at hl 0 rfl) ?_
    refine va_iald hx hb hK hP q32 0 eq32 rfl (vp_in_iff.mpr ⟨by omega, by omega⟩) dX12_gaugedBy_50 ?_
    refine lv_topi (fun z47 ez47 => ?_)
    refine lv_iload_n hx hb dX12_gaugedBy_51 rfl (lv_at hl 5 rfl) ?_
    refine lv_icmp_ne (tgt := 119) hx hb dX12_gaugedBy_52 (by decide) (fun c48 => ?_) (fun c48 => ?_)
    · have ic48 : z47.toInt ≠ v.toInt := zi_ne rfl rfl c48
      obtain ⟨z49, ez49⟩ : ∃ y : Int32, y = w36 + 1 := ⟨_, rfl⟩
      refine lv_iinc (v := z49) (lv' := [(7, .int z49), (8, .int z46), (5, .long w37), (4, .int r34), (0, .ref h0), (1, .int v), (2, .int u), (3, .int a)]) hx hb dX12_gaugedBy_119 hl (k := 1) rfl (by rw [ez49]; rfl) (by decide) rfl (fun ls hl => ?_)
      have iz49 : z49.toInt = w36.toInt + 1 := zi_add ez49 rfl rfl (by omega) (by omega)
      refine lv_goto (tgt := 22) hx hb dX12_gaugedBy_122 (by decide) ?_
      exact ih38 _ _ _ _ (by rw [hn39]; omega) ⟨z49, w37, rfl, (by omega), rfl, rfl, lv_sub hl [0, 2, 3, 4, 5, 6, 7] rfl⟩
    · have ic48 : z47.toInt = v.toInt := zi_nef rfl rfl c48
      refine lv_aload_n hx hb dX12_gaugedBy_55 rfl (lv_at hl 4 rfl) ?_
      refine va_get (D := (dC, dI)) (ci := 12) (v := .ref (ρ h0 2)) (C := RX12) (T := TX12) (N := 53) hx hb hts hfX12 hown hK hP q29 eq29 rfl 2 (by decide) (hts (.fieldLink RX12 7 "ColdShipsModel" "row" "[I") wa_148) (fun _ h9 => h9) rfl dX12_gaugedBy_56 ?_
      refine lv_iload hx hb dX12_gaugedBy_59 (lv_at hl 0 rfl) ?_
      refine lv_iconst (v := 1) hx hb dX12_gaugedBy_61 (by decide) ?_
      refine lv_iadd hx hb dX12_gaugedBy_62 ?_
      refine lv_topi (fun z50 ez50 => ?_)
      have iz50 : z50.toInt = z46.toInt + 1 := zi_add ez50 rfl rfl (by omega) (by omega)
      refine va_iald hx hb hK hP q32 0 eq32 rfl (vp_in_iff.mpr ⟨by omega, by omega⟩) dX12_gaugedBy_63 ?_
      refine lv_topi (fun z51 ez51 => ?_)
      refine lv_iload_n hx hb dX12_gaugedBy_64 rfl (lv_at hl 6 rfl) ?_
      refine lv_icmp_ne (tgt := 119) hx hb dX12_gaugedBy_65 (by decide) (fun c52 => ?_) (fun c52 => ?_)
      · have ic52 : z51.toInt ≠ u.toInt := zi_ne rfl rfl c52
        obtain ⟨z53, ez53⟩ : ∃ y : Int32, y = w36 + 1 := ⟨_, rfl⟩
        refine lv_iinc (v := z53) (lv' := [(7, .int z53), (8, .int z46), (5, .long w37), (4, .int r34), (0, .ref h0), (1, .int v), (2, .int u), (3, .int a)]) hx hb dX12_gaugedBy_119 hl (k := 1) rfl (by rw [ez53]; rfl) (by decide) rfl (fun ls hl => ?_)
        have iz53 : z53.toInt = w36.toInt + 1 := zi_add ez53 rfl rfl (by omega) (by omega)
        refine lv_goto (tgt := 22) hx hb dX12_gaugedBy_122 (by decide) ?_
        exact ih38 _ _ _ _ (by rw [hn39]; omega) ⟨z53, w37, rfl, (by omega), rfl, rfl, lv_sub hl [0, 2, 3, 4, 5, 6, 7] rfl⟩
      · have ic52 : z51.toInt = u.toInt := zi_nef rfl rfl c52
        refine lv_aload_n hx hb dX12_gaugedBy_68 rfl (lv_at hl 4 rfl) ?_
        refine va_get (D := (dC, dI)) (ci := 12) (v := .ref (ρ h0 2)) (C := RX12) (T := TX12) (N := 53) hx hb hts hfX12 hown hK hP q29 eq29 rfl 2 (by decide) (hts (.fieldLink RX12 7 "ColdShipsModel" "row" "[I") wa_148) (fun _ h9 => h9) rfl dX12_gaugedBy_69 ?_
        refine lv_iload hx hb dX12_gaugedBy_72 (lv_at hl 0 rfl) ?_
        refine lv_iconst (v := 4) hx hb dX12_gaugedBy_74 (by decide) ?_
        refine lv_iadd hx hb dX12_gaugedBy_75 ?_
        refine lv_topi (fun z54 ez54 => ?_)
        have iz54 : z54.toInt = z46.toInt + 4 := zi_add ez54 rfl rfl (by omega) (by omega)
        refine va_iald hx hb hK hP q32 0 eq32 rfl (vp_in_iff.mpr ⟨by omega, by omega⟩) dX12_gaugedBy_76 ?_
        refine lv_topi (fun z55 ez55 => ?_)
        refine lv_iload_n hx hb dX12_gaugedBy_77 rfl (lv_at hl 7 rfl) ?_
        refine lv_icmp_gt (tgt := 119) hx hb dX12_gaugedBy_78 (by decide) (fun c56 => ?_) (fun c56 => ?_)
        · have ic56 : z55.toInt > a.toInt := zi_gt rfl rfl c56
          obtain ⟨z57, ez57⟩ : ∃ y : Int32, y = w36 + 1 := ⟨_, rfl⟩
          refine lv_iinc (v := z57) (lv' := [(7, .int z57), (8, .int z46), (5, .long w37), (4, .int r34), (0, .ref h0), (1, .int v), (2, .int u), (3, .int a)]) hx hb dX12_gaugedBy_119 hl (k := 1) rfl (by rw [ez57]; rfl) (by decide) rfl (fun ls hl => ?_)
          have iz57 : z57.toInt = w36.toInt + 1 := zi_add ez57 rfl rfl (by omega) (by omega)
          refine lv_goto (tgt := 22) hx hb dX12_gaugedBy_122 (by decide) ?_
          exact ih38 _ _ _ _ (by rw [hn39]; omega) ⟨z57, w37, rfl, (by omega), rfl, rfl, lv_sub hl [0, 2, 3, 4, 5, 6, 7] rfl⟩
        · have ic56 : z55.toInt ≤ a.toInt := zi_gtf rfl rfl c56
          refine lv_aload_n hx hb dX12_gaugedBy_81 rfl (lv_at hl 4 rfl) ?_
          refine lv_iload hx hb dX12_gaugedBy_82 (lv_at hl 3 rfl) ?_
          refine lv_aload_n hx hb dX12_gaugedBy_84 rfl (lv_at hl 4 rfl) ?_
          refine va_get (D := (dC, dI)) (ci := 12) (v := .ref (ρ h0 2)) (C := RX12) (T := TX12) (N := 53) hx hb hts hfX12 hown hK hP q29 eq29 rfl 2 (by decide) (hts (.fieldLink RX12 7 "ColdShipsModel" "row" "[I") wa_148) (fun _ h9 => h9) rfl dX12_gaugedBy_85 ?_
          refine lv_iload hx hb dX12_gaugedBy_88 (lv_at hl 0 rfl) ?_
          refine lv_iconst (v := 2) hx hb dX12_gaugedBy_90 (by decide) ?_
          refine lv_iadd hx hb dX12_gaugedBy_91 ?_
          refine lv_topi (fun z58 ez58 => ?_)
          have iz58 : z58.toInt = z46.toInt + 2 := zi_add ez58 rfl rfl (by omega) (by omega)
          refine va_iald hx hb hK hP q32 0 eq32 rfl (vp_in_iff.mpr ⟨by omega, by omega⟩) dX12_gaugedBy_92 ?_
          refine lv_topi (fun z59 ez59 => ?_)
          refine lv_aload_n hx hb dX12_gaugedBy_93 rfl (lv_at hl 4 rfl) ?_
          refine va_get (D := (dC, dI)) (ci := 12) (v := .ref (ρ h0 2)) (C := RX12) (T := TX12) (N := 53) hx hb hts hfX12 hown hK hP q29 eq29 rfl 2 (by decide) (hts (.fieldLink RX12 7 "ColdShipsModel" "row" "[I") wa_148) (fun _ h9 => h9) rfl dX12_gaugedBy_94 ?_
          refine lv_iload hx hb dX12_gaugedBy_97 (lv_at hl 0 rfl) ?_
          refine lv_iconst (v := 3) hx hb dX12_gaugedBy_99 (by decide) ?_
          refine lv_iadd hx hb dX12_gaugedBy_100 ?_
          refine lv_topi (fun z60 ez60 => ?_)
          have iz60 : z60.toInt = z46.toInt + 3 := zi_add ez60 rfl rfl (by omega) (by omega)
          refine va_iald hx hb hK hP q32 0 eq32 rfl (vp_in_iff.mpr ⟨by omega, by omega⟩) dX12_gaugedBy_101 ?_
          refine lv_topi (fun z61 ez61 => ?_)
          refine lv_aload_n hx hb dX12_gaugedBy_102 rfl (lv_at hl 4 rfl) ?_
          refine va_get (D := (dC, dI)) (ci := 12) (v := .ref (ρ h0 2)) (C := RX12) (T := TX12) (N := 53) hx hb hts hfX12 hown hK hP q29 eq29 rfl 2 (by decide) (hts (.fieldLink RX12 7 "ColdShipsModel" "row" "[I") wa_148) (fun _ h9 => h9) rfl dX12_gaugedBy_103 ?_
          refine lv_iload hx hb dX12_gaugedBy_106 (lv_at hl 3 rfl) ?_
          refine lv_bipush (v := 31) hx hb dX12_gaugedBy_108 (by decide) ?_
          refine lv_iadd hx hb dX12_gaugedBy_110 ?_
          refine lv_topi (fun z62 ez62 => ?_)
          have iz62 : z62.toInt = r34.toInt + 31 := zi_add ez62 rfl rfl (by omega) (by omega)
          refine va_iald hx hb hK hP q32 0 eq32 rfl (vp_in_iff.mpr ⟨by omega, by omega⟩) dX12_gaugedBy_111 ?_
          refine lv_topi (fun z63 ez63 => ?_)
          refine lv_imul hx hb dX12_gaugedBy_112 ?_
          refine lv_topi (fun z64 ez64 => ?_)
          refine lv_isub hx hb dX12_gaugedBy_113 ?_
          refine lv_topi (fun z65 ez65 => ?_)
          refine pz_calll (va_runV (As := [.int r34, .int z65]) (rest := []) ⟨hx, hb, hml, hown, hts⟩ (t_X12_tonsBy l dC dI _ κ τ ν ρ L f hG hT h0 r34 z65 x b z33.toInt ht_h0 (by omega) (by omega) (by omega) (by rw [hf_o26, mo_i1]; exact hI) (by first | (simp only [hf_o26, mo_i1]; omega) | (simp only [hf_o26, mo_i1]; trivial) | (simp only [hf_o26, mo_i1]; done) | omega)) (cwV 2 hts gX12_gaugedBy_X12_tonsBy rfl rfl rfl ⟨rfl, pd_X12_tonsBy⟩ ⟨Nat.le_of_ble_eq_true rfl, Nat.le_of_ble_eq_true rfl⟩) ⟨pz_blind, va_recv hK hP (ci := 12) (q0 := q29) rfl eq29, pz_pre hP hK hD hN⟩ rfl rfl hl.1 rfl (lv_room (Nat.le_of_ble_eq_true rfl)) dX12_gaugedBy_114 ⟨Nat.le_of_ble_eq_true rfl, Nat.le_of_ble_eq_true rfl⟩) (fun r66 hw67 => ?_)
          obtain ⟨hw67r, hw67p⟩ := hw67
          refine lv_lstore (lv' := [(5, .long r66), (8, .int z46), (7, .int w36), (4, .int r34), (0, .ref h0), (1, .int v), (2, .int u), (3, .int a)]) hx hb dX12_gaugedBy_117 hl (by decide) rfl (fun ls hl => ?_)
          obtain ⟨z68, ez68⟩ : ∃ y : Int32, y = w36 + 1 := ⟨_, rfl⟩
          refine lv_iinc (v := z68) (lv' := [(7, .int z68), (5, .long r66), (8, .int z46), (4, .int r34), (0, .ref h0), (1, .int v), (2, .int u), (3, .int a)]) hx hb dX12_gaugedBy_119 hl (k := 2) rfl (by rw [ez68]; rfl) (by decide) rfl (fun ls hl => ?_)
          have iz68 : z68.toInt = w36.toInt + 1 := zi_add ez68 rfl rfl (by omega) (by omega)
          refine lv_goto (tgt := 22) hx hb dX12_gaugedBy_122 (by decide) ?_
          exact ih38 _ _ _ _ (by rw [hn39]; omega) ⟨z68, r66, rfl, (by omega), rfl, rfl, lv_sub hl [0, 1, 3, 4, 5, 6, 7] rfl⟩
set_option maxHeartbeats 4000000 in
set_option maxRecDepth 100000 in
theorem t_X12_gauged (l : Launch) (dC : Nat → ClassId) (dI : Nat → Nat → Nat) (sz : Nat) (κ : Nat → ClassId) (τ ν : Nat → Nat) (ρ : Nat → Nat → Nat) (L : List Nat) (f : Nat → va_E) (hG : tp_G τ ν ρ L) (hT : tp_T (mo_O κ) κ τ ν ρ f) (h0 : Nat) (v : Int32) (u : Int32) (a : Int32) (ht_h0 : τ h0 = 13) (hJ : mo_RI (-1) 0 (mo_R (mo_i (f (ρ h0 2))))) : Met l yX12_gauged wqX12_gauged ({ frames := 4, cells := 0, slots := 0, locals := 1200 }) (va_Pc [.ref h0, .int v, .int u, .int a] (pz_B dC dI (tp_K κ) (va_pl L f) sz)) (va_Ql (fun (r : Int64) (f1 : Nat → va_E) => tp_T (mo_O κ) κ τ ν ρ f1 ∧ tp_F τ [13] f f1 ∧ True ∧ True) (fun (f1 : Nat → va_E) (t : State) => pz_E dC dI (tp_K κ) (va_A (va_pl L f) sz) (va_pl L f1) t) (va_A (va_pl L f) sz)) 0 0 (va_A (va_pl L f) sz) := by
  refine Met.ofW (cc := cX12_gauged) (maxL := 11) (ret := some .long) (by decide) rfl ?_
  intro p e s m args below meth c s₁ B hml hv
  obtain ⟨rfl, hsz, hP, hK, hD0, hN⟩ := hv
  have hx := B.exec
  have hb := B.bytes
  have hr := B.returns
  have hts := fun (w : Cond) (h : w ∈ WALL) => atoms_spec (ws := wqX12_gauged) B.pre w (List.mem_cons_of_mem _ h)
  have hown : s.vm.findClass RX12 = some m.cls := findClass_of_methodNamed B.named
  have hlocks := B.notSynchronized
  subst hsz
  have hD := hD0.self (sz := s.heap.size)
  generalize hAe : va_A (va_pl L f) s.heap.size = A at hD ⊢
  have hA : ∀ q : Nat, s.heap.size ≤ q → A q := fun q h => by rw [← hAe]; exact Or.inr h
  have hS : va_S A s.heap s.heap [] := va_S.rf
  have hR : tp_F τ [13] f f := tp_F.rf
  have hl := lv_entry ([.ref h0, .int v, .int u, .int a]) (n := 11) (Nat.le_of_ble_eq_true rfl)
  rw [lg_entry_eq]
  generalize (lg_sl ([.ref h0, .int v, .int u, .int a]) ++ List.replicate (11 - (lg_sl ([.ref h0, .int v, .int u, .int a])).length) Slot.unset).toArray = ls at hl ⊢
  have hl : lv_has ls 11 [(0, .ref h0), (1, .int v), (2, .int u), (3, .int a)] := hl
  refine tgk_13 hG ht_h0 (fun y1 y2 y3 y4 y5 y6 y7 y8 y9 y10 y11 y12 y13 y14 y15 y16 y17 y18 y19 y20 y21 y22 y23 y24 y25 => ?_)
  refine tpk_32 hT y1 (fun g27 hf_o26 => ?_)
  have hI : mo_RI (-1) 0 (mo_R g27) := by have q9 := hJ; rw [hf_o26, mo_i1] at q9; exact q9
  refine lv_aload_n hx hb dX12_gauged_0 rfl (lv_at hl 0 rfl) ?_
  refine lv_iconst (v := 0) hx hb dX12_gauged_1 (by decide) ?_
  refine tpk_13 hT ht_h0 (fun o28_x0 o28_x1 o28_x7 o28_x9 o28_x10 o28_x11 o28_x12 o28_x13 o28_x14 o28_x15 o28_x16 o28_x17 o28_x18 o28_x19 o28_x20 o28_x22 o28_x25 o28_x28 o28_x29 o28_x32 o28_x33 o28_x34 o28_x35 o28_x36 o28_x37 o28_x38 o28_x47 o28_x48 hf_o28 ro28_0 ro28_1 ro28_2 ro28_3 ro28_4 ro28_5 ro28_6 ro28_7 ro28_8 ro28_9 ro28_10 ro28_11 ro28_12 ro28_13 => ?_)
  refine tpk_pos (tp_in hG ht_h0 (by decide)) hf_o28 (fun q29 eq29 => ?_)
  refine va_put (D := (dC, dI)) (ci := 12) (v := .int 0) (ty := .int) (C := RX12) (T := TX12) (N := 53) hx hb hts hfX12 tyX12 tyX12_ok nmX12 hown hK hP hD hS q29 eq29 rfl 0 (by decide) (hts (.fieldLink RX12 91 "ColdShipsModel" "thrown" "I") wa_209) (fun _ h9 => h9) rfl (tyX12_ok 0 (by decide)) rfl rfl (Nat.le_of_ble_eq_true rfl) dX12_gauged_2 (tp_k (.inr (12, [.int 0, .int o28_x1, .ref (ρ h0 2), .ref (ρ h0 3), .ref (ρ h0 4), .ref (ρ h0 5), .ref (ρ h0 6), .int o28_x7, .ref (ρ h0 8), .int o28_x9, .int o28_x10, .int o28_x11, .int o28_x12, .long o28_x13, .int o28_x14, .int o28_x15, .int o28_x16, .int o28_x17, .int o28_x18, .int o28_x19, .int o28_x20, .ref (ρ h0 21), .int o28_x22, .ref (ρ h0 23), .ref (ρ h0 24), .int o28_x25, .ref (ρ h0 26), .ref (ρ h0 27), .int o28_x28, .int o28_x29, .ref (ρ h0 30), .ref (ρ h0 31), .int o28_x32, .long o28_x33, .long o28_x34, .long o28_x35, .int o28_x36, .int o28_x37, .int o28_x38, .ref (ρ h0 39), .ref (ρ h0 40), .ref (ρ h0 41), .ref (ρ h0 42), .ref (ρ h0 43), .ref (ρ h0 44), .ref (ρ h0 45), .ref (ρ h0 46), .int o28_x47, .int o28_x48, .ref (ρ h0 49), .ref (ρ h0 50), .ref (ρ h0 51), .ref (ρ h0 52)])) hD (tp_in hG ht_h0 (by decide)) eq29 (fun f30 H locs hP hD hS g32 k31 => ?_))
  have hT := hT.up ht_h0 g32 k31 ⟨_, _, _, _, _, _, _, _, _, _, _, _, _, _, _, _, _, _, _, _, _, _, _, _, _, _, _, _, rfl, ro28_0, ro28_1, ro28_2, ro28_3, ro28_4, ro28_5, ro28_6, ro28_7, ro28_8, ro28_9, ro28_10, ro28_11, ro28_12, ro28_13⟩
  have hR := hR.up ht_h0 (by decide) k31
  refine lv_aload_n hx hb dX12_gauged_5 rfl (lv_at hl 0 rfl) ?_
  refine lv_iload_n hx hb dX12_gauged_6 rfl (lv_at hl 1 rfl) ?_
  have hf_33 : f30 (ρ h0 2) = .inl (κ 0, 12967, .inl g27) := (k31 _ (tp_ne y1 ht_h0 (by decide))).trans hf_o26
  refine tpk_pos (tp_in hG ht_h0 (by decide)) g32 (fun q34 eq34 => ?_)
  refine pz_calli (va_runV (As := [.int v]) (rest := []) ⟨hx, hb, hml, hown, hts⟩ (t_X12_isLanding l dC dI _ κ τ ν ρ L f30 hG hT h0 v (-1) 0 ht_h0 (by omega) (by rw [hf_33, mo_i1]; exact hI)) (cwV 1 hts gX12_gauged_X12_isLanding rfl rfl rfl ⟨rfl, pd_X12_isLanding⟩ ⟨Nat.le_of_ble_eq_true rfl, Nat.le_of_ble_eq_true rfl⟩) ⟨pz_blind, va_recv hK hP (ci := 12) (q0 := q34) rfl eq34, pz_pre hP hK hD hN⟩ rfl rfl hl.1 rfl (lv_room (Nat.le_of_ble_eq_true rfl)) dX12_gauged_7 ⟨Nat.le_of_ble_eq_true rfl, Nat.le_of_ble_eq_true rfl⟩) (fun r35 hw36 => ?_)
  obtain ⟨hw36r, hw36p⟩ := hw36
  have := hI.k5
  rw [hf_33, mo_i1] at hw36p
  refine lv_if_eq (tgt := 32) hx hb dX12_gauged_10 (by decide) (fun c37 => ?_) (fun c37 => ?_)
  · have ic37 : r35.toInt = 0 := zi_eq rfl rfl c37
    refine lv_ldc2 (own := RX12) (v := (-2000000000000000)) hx hb hown (hts (.constantLong RX12 466 (-2000000000000000)) wa_1189) dX12_gauged_32 ?_
    exact W.lret (v := (-2000000000000000)) hx hb hr (fun t ht hW => ⟨⟨(-2000000000000000), f30, rfl, ⟨hT, hR, trivial, trivial⟩, by rw [ht]; exact hP, va_K.moved hW.alike hK, hD⟩, hS.F ht⟩) hS.2.2 dX12_gauged_35
  · have ic37 : r35.toInt ≠ 0 := zi_eqf rfl rfl c37
    replace ic37 : 1 ≤ r35.toInt := by omega
    have p38 : 0 ≤ v.toInt ∧ v.toInt < mo_R g27 5 := (tp_cond.yes hw36p) (by omega)
    refine lv_iload_n hx hb dX12_gauged_13 rfl (lv_at hl 2 rfl) ?_
    refine pz_calli (va_runS (As := [.int u]) (rest := []) ⟨hx, hb, hml, hown, hts⟩ (t_X12_isHour l dC dI _ u (u.toInt) rfl) (va_cwS 1 hts gX12_gauged_X12_isHour rfl rfl rfl pd_X12_isHour ⟨Nat.le_of_ble_eq_true rfl, Nat.le_of_ble_eq_true rfl⟩) ⟨pz_blind, pz_pre pz_P0 (hK.sub (tys' := []) [] rfl) (pz_D0 (A := fun _ => True)) hN⟩ rfl rfl hl.1 rfl (lv_room (Nat.le_of_ble_eq_true rfl)) dX12_gauged_14 ⟨Nat.le_of_ble_eq_true rfl, Nat.le_of_ble_eq_true rfl⟩) (fun r39 hw40 => ?_)
    obtain ⟨hw40r, hw40p⟩ := hw40
    refine lv_if_eq (tgt := 32) hx hb dX12_gauged_17 (by decide) (fun c41 => ?_) (fun c41 => ?_)
    · have ic41 : r39.toInt = 0 := zi_eq rfl rfl c41
      refine lv_ldc2 (own := RX12) (v := (-2000000000000000)) hx hb hown (hts (.constantLong RX12 466 (-2000000000000000)) wa_1189) dX12_gauged_32 ?_
      exact W.lret (v := (-2000000000000000)) hx hb hr (fun t ht hW => ⟨⟨(-2000000000000000), f30, rfl, ⟨hT, hR, trivial, trivial⟩, by rw [ht]; exact hP, va_K.moved hW.alike hK, hD⟩, hS.F ht⟩) hS.2.2 dX12_gauged_35
    · have ic41 : r39.toInt ≠ 0 := zi_eqf rfl rfl c41
      replace ic41 : 1 ≤ r39.toInt := by omega
      have p42 : 0 ≤ (u.toInt) ∧ (u.toInt) ≤ 2399 := (tp_cond.yes hw40p) (by omega)
      refine lv_iload_n hx hb dX12_gauged_20 rfl (lv_at hl 3 rfl) ?_
      refine lv_i2l hx hb dX12_gauged_21 rfl ?_
      refine lv_lconst (v := 0) hx hb dX12_gauged_22 (by decide) ?_
      refine lv_ldc2 (own := RX12) (v := 3) hx hb hown (hts (.constantLong RX12 152 (3)) wa_391) dX12_gauged_23 ?_
      refine pz_calli (va_runS (As := [.long a.toInt64, .long 0, .long 3]) (rest := []) ⟨hx, hb, hml, hown, hts⟩ (t_X12_in l dC dI _ a.toInt64 (0) (3) (a.toInt) (0) (3) (Int32.toInt_toInt64 a) rfl rfl) (va_cwS 3 hts gX12_gauged_X12_in rfl rfl rfl pd_X12_in ⟨Nat.le_of_ble_eq_true rfl, Nat.le_of_ble_eq_true rfl⟩) ⟨pz_blind, pz_pre pz_P0 (hK.sub (tys' := []) [] rfl) (pz_D0 (A := fun _ => True)) hN⟩ rfl rfl hl.1 rfl (lv_room (Nat.le_of_ble_eq_true rfl)) dX12_gauged_26 ⟨Nat.le_of_ble_eq_true rfl, Nat.le_of_ble_eq_true rfl⟩) (fun r43 hw44 => ?_)
      obtain ⟨hw44r, hw44p⟩ := hw44
      refine lv_if_ne (tgt := 36) hx hb dX12_gauged_29 (by decide) (fun c45 => ?_) (fun c45 => ?_)
      · have ic45 : r43.toInt ≠ 0 := zi_ne rfl rfl c45
        replace ic45 : 1 ≤ r43.toInt := by omega
        have p46 : (0) ≤ (a.toInt) ∧ (a.toInt) ≤ (3) := (tp_cond.yes hw44p) (by omega)
        refine lv_aload_n hx hb dX12_gauged_36 rfl (lv_at hl 0 rfl) ?_
        refine lv_iload_n hx hb dX12_gauged_37 rfl (lv_at hl 1 rfl) ?_
        refine lv_iconst (v := 0) hx hb dX12_gauged_38 (by decide) ?_
        refine lv_iload_n hx hb dX12_gauged_39 rfl (lv_at hl 2 rfl) ?_
        refine pz_calll (va_runV (As := [.int v, .int 0, .int u]) (rest := []) ⟨hx, hb, hml, hown, hts⟩ (t_X12_gaugedBy l dC dI _ κ τ ν ρ L f30 hG hT h0 v (0) u (-1) 0 ht_h0 (by first | omega | (have : (0 : Int32).toInt = 0 := rfl; omega)) (by rw [hf_33, mo_i1]; exact hI) (by first | (simp only [hf_33, hf_o26, mo_i1]; omega) | (simp only [hf_33, hf_o26, mo_i1]; trivial) | (simp only [hf_33, hf_o26, mo_i1]; done) | omega)) (cwV 3 hts gX12_gauged_X12_gaugedBy rfl rfl rfl ⟨rfl, pd_X12_gaugedBy⟩ ⟨Nat.le_of_ble_eq_true rfl, Nat.le_of_ble_eq_true rfl⟩) ⟨pz_blind, va_recv hK hP (ci := 12) (q0 := q34) rfl eq34, pz_pre hP hK hD hN⟩ rfl rfl hl.1 rfl (lv_room (Nat.le_of_ble_eq_true rfl)) dX12_gauged_40 ⟨Nat.le_of_ble_eq_true rfl, Nat.le_of_ble_eq_true rfl⟩) (fun r47 hw48 => ?_)
        obtain ⟨hw48r, hw48p⟩ := hw48
        refine lv_lstore (lv' := [(4, .long r47), (0, .ref h0), (1, .int v), (2, .int u), (3, .int a)]) hx hb dX12_gauged_43 hl (by decide) rfl (fun ls hl => ?_)
        refine lv_aload_n hx hb dX12_gauged_45 rfl (lv_at hl 1 rfl) ?_
        refine lv_iload_n hx hb dX12_gauged_46 rfl (lv_at hl 2 rfl) ?_
        refine lv_iconst (v := 1) hx hb dX12_gauged_47 (by decide) ?_
        refine lv_iload_n hx hb dX12_gauged_48 rfl (lv_at hl 3 rfl) ?_
        refine pz_calll (va_runV (As := [.int v, .int 1, .int u]) (rest := []) ⟨hx, hb, hml, hown, hts⟩ (t_X12_gaugedBy l dC dI _ κ τ ν ρ L f30 hG hT h0 v (1) u (-1) 0 ht_h0 (by first | omega | (have : (1 : Int32).toInt = 1 := rfl; omega)) (by rw [hf_33, mo_i1]; exact hI) (by first | (simp only [hf_33, hf_o26, mo_i1]; omega) | (simp only [hf_33, hf_o26, mo_i1]; trivial) | (simp only [hf_33, hf_o26, mo_i1]; done) | omega)) (cwV 3 hts gX12_gauged_X12_gaugedBy rfl rfl rfl ⟨rfl, pd_X12_gaugedBy⟩ ⟨Nat.le_of_ble_eq_true rfl, Nat.le_of_ble_eq_true rfl⟩) ⟨pz_blind, va_recv hK hP (ci := 12) (q0 := q34) rfl eq34, pz_pre hP hK hD hN⟩ rfl rfl hl.1 rfl (lv_room (Nat.le_of_ble_eq_true rfl)) dX12_gauged_49 ⟨Nat.le_of_ble_eq_true rfl, Nat.le_of_ble_eq_true rfl⟩) (fun r49 hw50 => ?_)
        obtain ⟨hw50r, hw50p⟩ := hw50
        refine lv_lstore (lv' := [(6, .long r49), (4, .long r47), (0, .ref h0), (1, .int v), (2, .int u), (3, .int a)]) hx hb dX12_gauged_52 hl (by decide) rfl (fun ls hl => ?_)
        refine lv_iload_n hx hb dX12_gauged_54 rfl (lv_at hl 5 rfl) ?_
        refine lv_iconst (v := 2) hx hb dX12_gauged_55 (by decide) ?_
        refine lv_icmp_ge (tgt := 71) hx hb dX12_gauged_56 (by decide) (fun c51 => ?_) (fun c51 => ?_)
        · have ic51 : a.toInt ≥ 2 := zi_ge rfl rfl c51
          refine lv_lload hx hb dX12_gauged_71 (lv_at hl 1 rfl) ?_
          refine lv_ldc2 (own := RX12) (v := (-2000000000000000)) hx hb hown (hts (.constantLong RX12 466 (-2000000000000000)) wa_1189) dX12_gauged_73 ?_
          refine W.lcmp hx hb dX12_gauged_76 ?_
          refine lv_if_eq (tgt := 89) hx hb dX12_gauged_77 (by decide) (fun c52 => ?_) (fun c52 => ?_)
          · have ic52 : r47.toInt = (-2000000000000000) := zl_eq rfl rfl c52
            refine lv_ldc2 (own := RX12) (v := (-2000000000000000)) hx hb hown (hts (.constantLong RX12 466 (-2000000000000000)) wa_1189) dX12_gauged_89 ?_
            exact W.lret (v := (-2000000000000000)) hx hb hr (fun t ht hW => ⟨⟨(-2000000000000000), f30, rfl, ⟨hT, hR, trivial, trivial⟩, by rw [ht]; exact hP, va_K.moved hW.alike hK, hD⟩, hS.F ht⟩) hS.2.2 dX12_gauged_92
          · have ic52 : r47.toInt ≠ (-2000000000000000) := zl_eqf rfl rfl c52
            refine lv_lload hx hb dX12_gauged_80 (lv_at hl 0 rfl) ?_
            refine lv_ldc2 (own := RX12) (v := (-2000000000000000)) hx hb hown (hts (.constantLong RX12 466 (-2000000000000000)) wa_1189) dX12_gauged_82 ?_
            refine W.lcmp hx hb dX12_gauged_85 ?_
            refine lv_if_ne (tgt := 93) hx hb dX12_gauged_86 (by decide) (fun c53 => ?_) (fun c53 => ?_)
            · have ic53 : r49.toInt ≠ (-2000000000000000) := zl_ne rfl rfl c53
              refine lv_iload_n hx hb dX12_gauged_93 rfl (lv_at hl 3 rfl) ?_
              refine pz_calli (va_runS (As := [.int v]) (rest := []) ⟨hx, hb, hml, hown, hts⟩ (t_X12_landingAt l dC dI _ v (v.toInt) (by omega) rfl) (va_cwS 1 hts gX12_gauged_X12_landingAt rfl rfl rfl pd_X12_landingAt ⟨Nat.le_of_ble_eq_true rfl, Nat.le_of_ble_eq_true rfl⟩) ⟨pz_blind, pz_pre pz_P0 (hK.sub (tys' := []) [] rfl) (pz_D0 (A := fun _ => True)) hN⟩ rfl rfl hl.1 rfl (lv_room (Nat.le_of_ble_eq_true rfl)) dX12_gauged_94 ⟨Nat.le_of_ble_eq_true rfl, Nat.le_of_ble_eq_true rfl⟩) (fun r54 hw55 => ?_)
              obtain ⟨hw55r, hw55p⟩ := hw55
              refine lv_istore (lv' := [(8, .int r54), (6, .long r49), (4, .long r47), (0, .ref h0), (1, .int v), (2, .int u), (3, .int a)]) hx hb dX12_gauged_97 hl (by decide) rfl (fun ls hl => ?_)
              refine lv_lload hx hb dX12_gauged_99 (lv_at hl 2 rfl) ?_
              refine lv_lload hx hb dX12_gauged_101 (lv_at hl 1 rfl) ?_
              refine lv_lsub hx hb dX12_gauged_103 ?_
              refine lv_topl (fun z56 ez56 => ?_)
              refine lv_lstore (lv' := [(9, .long z56), (8, .int r54), (6, .long r49), (4, .long r47), (0, .ref h0), (1, .int v), (2, .int u), (3, .int a)]) hx hb dX12_gauged_104 hl (by decide) rfl (fun ls hl => ?_)
              refine lv_iload_n hx hb dX12_gauged_106 rfl (lv_at hl 7 rfl) ?_
              refine lv_iconst (v := 2) hx hb dX12_gauged_107 (by decide) ?_
              refine lv_icmp_ne (tgt := 116) hx hb dX12_gauged_108 (by decide) (fun c57 => ?_) (fun c57 => ?_)
              · have ic57 : a.toInt ≠ 2 := zi_ne rfl rfl c57
                replace ic57 : 3 ≤ a.toInt := by omega
                refine lv_aload_n hx hb dX12_gauged_116 rfl (lv_at hl 4 rfl) ?_
                refine lv_iload hx hb dX12_gauged_117 (lv_at hl 1 rfl) ?_
                refine pz_calli (va_runV (As := [.int r54]) (rest := []) ⟨hx, hb, hml, hown, hts⟩ (t_X12_billed l dC dI _ κ τ ν ρ L f30 hG hT h0 r54 (-1) 0 v.toInt ht_h0 (by omega) (by omega) (by omega) (by rw [hf_33, mo_i1]; exact hI)) (cwV 1 hts gX12_gauged_X12_billed rfl rfl rfl ⟨rfl, pd_X12_billed⟩ ⟨Nat.le_of_ble_eq_true rfl, Nat.le_of_ble_eq_true rfl⟩) ⟨pz_blind, va_recv hK hP (ci := 12) (q0 := q34) rfl eq34, pz_pre hP hK hD hN⟩ rfl rfl hl.1 rfl (lv_room (Nat.le_of_ble_eq_true rfl)) dX12_gauged_119 ⟨Nat.le_of_ble_eq_true rfl, Nat.le_of_ble_eq_true rfl⟩) (fun r58 hw59 => ?_)
                obtain ⟨hw59r, hw59p⟩ := hw59
                refine lv_i2l hx hb dX12_gauged_122 rfl ?_
                refine lv_lload hx hb dX12_gauged_123 (lv_at hl 0 rfl) ?_
                refine lv_lsub hx hb dX12_gauged_125 ?_
                refine lv_topl (fun z60 ez60 => ?_)
                refine lv_aload_n hx hb dX12_gauged_126 rfl (lv_at hl 4 rfl) ?_
                refine lv_aload_n hx hb dX12_gauged_127 rfl (lv_at hl 4 rfl) ?_
                refine va_get (D := (dC, dI)) (ci := 12) (v := .ref (ρ h0 2)) (C := RX12) (T := TX12) (N := 53) hx hb hts hfX12 hown hK hP q34 eq34 rfl 2 (by decide) (hts (.fieldLink RX12 7 "ColdShipsModel" "row" "[I") wa_148) (fun _ h9 => h9) rfl dX12_gauged_128 ?_
                refine lv_iload hx hb dX12_gauged_131 (lv_at hl 1 rfl) ?_
                refine lv_iconst (v := 3) hx hb dX12_gauged_133 (by decide) ?_
                refine lv_iadd hx hb dX12_gauged_134 ?_
                refine lv_topi (fun z61 ez61 => ?_)
                have iz61 : z61.toInt = r54.toInt + 3 := zi_add ez61 rfl rfl (by omega) (by omega)
                refine tpk_pos (tp_in hG y1 (by decide)) hf_33 (fun q62 eq62 => ?_)
                refine va_iald hx hb hK hP q62 0 eq62 rfl (vp_in_iff.mpr ⟨by omega, by omega⟩) dX12_gauged_135 ?_
                refine lv_topi (fun z63 ez63 => ?_)
                refine lv_bipush (v := 24) hx hb dX12_gauged_136 (by decide) ?_
                refine lv_idiv hx hb dX12_gauged_138 (by decide) ?_
                refine lv_topi (fun z64 ez64 => ?_)
                refine lv_iload_n hx hb dX12_gauged_139 rfl (lv_at hl 6 rfl) ?_
                refine pz_calli (va_runV (As := [.int z64, .int u]) (rest := [.long z60]) ⟨hx, hb, hml, hown, hts⟩ (t_X12_priceOf l dC dI _ κ τ ν ρ L f30 hG hT h0 z64 u (-1) 0 ht_h0 (by omega) (by rw [hf_33, mo_i1]; exact hI)) (cwV 2 hts gX12_gauged_X12_priceOf rfl rfl rfl ⟨rfl, pd_X12_priceOf⟩ ⟨Nat.le_of_ble_eq_true rfl, Nat.le_of_ble_eq_true rfl⟩) ⟨pz_blind, va_recv hK hP (ci := 12) (q0 := q34) rfl eq34, pz_pre hP hK hD hN⟩ rfl rfl hl.1 rfl (lv_room (Nat.le_of_ble_eq_true rfl)) dX12_gauged_140 ⟨Nat.le_of_ble_eq_true rfl, Nat.le_of_ble_eq_true rfl⟩) (fun r65 hw66 => ?_)
                obtain ⟨hw66r, hw66p⟩ := hw66
                refine lv_i2l hx hb dX12_gauged_143 rfl ?_
                refine lv_lmul hx hb dX12_gauged_144 ?_
                refine lv_topl (fun z67 ez67 => ?_)
                exact W.lret (v := z67) hx hb hr (fun t ht hW => ⟨⟨z67, f30, rfl, ⟨hT, hR, trivial, trivial⟩, by rw [ht]; exact hP, va_K.moved hW.alike hK, hD⟩, hS.F ht⟩) hS.2.2 dX12_gauged_145
              · have ic57 : a.toInt = 2 := zi_nef rfl rfl c57
                refine lv_lload hx hb dX12_gauged_111 (lv_at hl 0 rfl) ?_
                refine lv_goto (tgt := 145) hx hb dX12_gauged_113 (by decide) ?_
                exact W.lret (v := z56) hx hb hr (fun t ht hW => ⟨⟨z56, f30, rfl, ⟨hT, hR, trivial, trivial⟩, by rw [ht]; exact hP, va_K.moved hW.alike hK, hD⟩, hS.F ht⟩) hS.2.2 dX12_gauged_145
            · have ic53 : r49.toInt = (-2000000000000000) := zl_nef rfl rfl c53
              refine lv_ldc2 (own := RX12) (v := (-2000000000000000)) hx hb hown (hts (.constantLong RX12 466 (-2000000000000000)) wa_1189) dX12_gauged_89 ?_
              exact W.lret (v := (-2000000000000000)) hx hb hr (fun t ht hW => ⟨⟨(-2000000000000000), f30, rfl, ⟨hT, hR, trivial, trivial⟩, by rw [ht]; exact hP, va_K.moved hW.alike hK, hD⟩, hS.F ht⟩) hS.2.2 dX12_gauged_92
        · have ic51 : a.toInt < 2 := zi_gef rfl rfl c51
          refine lv_iload_n hx hb dX12_gauged_59 rfl (lv_at hl 5 rfl) ?_
          refine lv_if_ne (tgt := 68) hx hb dX12_gauged_60 (by decide) (fun c68 => ?_) (fun c68 => ?_)
          · have ic68 : a.toInt ≠ 0 := zi_ne rfl rfl c68
            replace ic68 : 1 ≤ a.toInt := by omega
            refine lv_lload hx hb dX12_gauged_68 (lv_at hl 0 rfl) ?_
            exact W.lret (v := r49) hx hb hr (fun t ht hW => ⟨⟨r49, f30, rfl, ⟨hT, hR, trivial, trivial⟩, by rw [ht]; exact hP, va_K.moved hW.alike hK, hD⟩, hS.F ht⟩) hS.2.2 dX12_gauged_70
          · have ic68 : a.toInt = 0 := zi_nef rfl rfl c68
            refine lv_lload hx hb dX12_gauged_63 (lv_at hl 1 rfl) ?_
            refine lv_goto (tgt := 70) hx hb dX12_gauged_65 (by decide) ?_
            exact W.lret (v := r47) hx hb hr (fun t ht hW => ⟨⟨r47, f30, rfl, ⟨hT, hR, trivial, trivial⟩, by rw [ht]; exact hP, va_K.moved hW.alike hK, hD⟩, hS.F ht⟩) hS.2.2 dX12_gauged_70
      · have ic45 : r43.toInt = 0 := zi_nef rfl rfl c45
        refine lv_ldc2 (own := RX12) (v := (-2000000000000000)) hx hb hown (hts (.constantLong RX12 466 (-2000000000000000)) wa_1189) dX12_gauged_32 ?_
        exact W.lret (v := (-2000000000000000)) hx hb hr (fun t ht hW => ⟨⟨(-2000000000000000), f30, rfl, ⟨hT, hR, trivial, trivial⟩, by rw [ht]; exact hP, va_K.moved hW.alike hK, hD⟩, hS.F ht⟩) hS.2.2 dX12_gauged_35
set_option maxHeartbeats 4000000 in
set_option maxRecDepth 100000 in
theorem t_X12_image (l : Launch) (dC : Nat → ClassId) (dI : Nat → Nat → Nat) (sz : Nat) (κ : Nat → ClassId) (τ ν : Nat → Nat) (ρ : Nat → Nat → Nat) (L : List Nat) (f : Nat → va_E) (hG : tp_G τ ν ρ L) (hT : tp_T (mo_O κ) κ τ ν ρ f) (h0 : Nat) (v : Int32) (ht_h0 : τ h0 = 13) (hJ : mo_RI (-1) 0 (mo_R (mo_i (f (ρ h0 2))))) (hIM : mo_IM (mo_R (mo_i (f (ρ h0 3))))) : Met l yX12_image wqX12_image ({ frames := 3, cells := 0, slots := 0, locals := 800 }) (va_Pc [.ref h0, .int v] (pz_B dC dI (tp_K κ) (va_pl L f) sz)) (va_Qi (fun (r : Int32) (f1 : Nat → va_E) => tp_T (mo_O κ) κ τ ν ρ f1 ∧ tp_F τ [13, 33, 34] f f1 ∧ True ∧ mo_IM (mo_R (mo_i (f1 (ρ h0 3)))) ∧ (tp_pick r (0 ≤ v.toInt ∧ v.toInt ≤ 1) 0 (-1))) (fun (f1 : Nat → va_E) (t : State) => pz_E dC dI (tp_K κ) (va_A (va_pl L f) sz) (va_pl L f1) t) (va_A (va_pl L f) sz)) 0 0 (va_A (va_pl L f) sz) := by
  refine Met.ofW (cc := cX12_image) (maxL := 3) (ret := some .int) (by decide) rfl ?_
  intro p e s m args below meth c s₁ B hml hv
  obtain ⟨rfl, hsz, hP, hK, hD0, hN⟩ := hv
  have hx := B.exec
  have hb := B.bytes
  have hr := B.returns
  have hts := fun (w : Cond) (h : w ∈ WALL) => atoms_spec (ws := wqX12_image) B.pre w (List.mem_cons_of_mem _ h)
  have hown : s.vm.findClass RX12 = some m.cls := findClass_of_methodNamed B.named
  have hlocks := B.notSynchronized
  subst hsz
  have hD := hD0.self (sz := s.heap.size)
  generalize hAe : va_A (va_pl L f) s.heap.size = A at hD ⊢
  have hA : ∀ q : Nat, s.heap.size ≤ q → A q := fun q h => by rw [← hAe]; exact Or.inr h
  have hS : va_S A s.heap s.heap [] := va_S.rf
  have hR : tp_F τ [13, 33, 34] f f := tp_F.rf
  have hl := lv_entry ([.ref h0, .int v]) (n := 3) (Nat.le_of_ble_eq_true rfl)
  rw [lg_entry_eq]
  generalize (lg_sl ([.ref h0, .int v]) ++ List.replicate (3 - (lg_sl ([.ref h0, .int v])).length) Slot.unset).toArray = ls at hl ⊢
  have hl : lv_has ls 3 [(0, .ref h0), (1, .int v)] := hl
  refine tgk_13 hG ht_h0 (fun y1 y2 y3 y4 y5 y6 y7 y8 y9 y10 y11 y12 y13 y14 y15 y16 y17 y18 y19 y20 y21 y22 y23 y24 y25 => ?_)
  refine tpk_32 hT y1 (fun g27 hf_o26 => ?_)
  have hI : mo_RI (-1) 0 (mo_R g27) := by have q9 := hJ; rw [hf_o26, mo_i1] at q9; exact q9
  refine tpk_33 hT y2 (fun g29 hf_o28 => ?_)
  have tf30 : mo_hd (mo_i (f (ρ h0 3)) = g29) := tfa_i hf_o28
  replace hIM : mo_IM (mo_R g29) := by have q9 := hIM; first | (simp only [(mo_un tf30), mo_i1, mo_l1] at q9; exact q9) | (rw [(mo_un tf30)] at q9; exact q9)
  refine lv_aload_n hx hb dX12_image_0 rfl (lv_at hl 0 rfl) ?_
  refine lv_iconst (v := 0) hx hb dX12_image_1 (by decide) ?_
  refine tpk_13 hT ht_h0 (fun o31_x0 o31_x1 o31_x7 o31_x9 o31_x10 o31_x11 o31_x12 o31_x13 o31_x14 o31_x15 o31_x16 o31_x17 o31_x18 o31_x19 o31_x20 o31_x22 o31_x25 o31_x28 o31_x29 o31_x32 o31_x33 o31_x34 o31_x35 o31_x36 o31_x37 o31_x38 o31_x47 o31_x48 hf_o31 ro31_0 ro31_1 ro31_2 ro31_3 ro31_4 ro31_5 ro31_6 ro31_7 ro31_8 ro31_9 ro31_10 ro31_11 ro31_12 ro31_13 => ?_)
  refine tpk_pos (tp_in hG ht_h0 (by decide)) hf_o31 (fun q32 eq32 => ?_)
  refine va_put (D := (dC, dI)) (ci := 12) (v := .int 0) (ty := .int) (C := RX12) (T := TX12) (N := 53) hx hb hts hfX12 tyX12 tyX12_ok nmX12 hown hK hP hD hS q32 eq32 rfl 0 (by decide) (hts (.fieldLink RX12 91 "ColdShipsModel" "thrown" "I") wa_209) (fun _ h9 => h9) rfl (tyX12_ok 0 (by decide)) rfl rfl (Nat.le_of_ble_eq_true rfl) dX12_image_2 (tp_k (.inr (12, [.int 0, .int o31_x1, .ref (ρ h0 2), .ref (ρ h0 3), .ref (ρ h0 4), .ref (ρ h0 5), .ref (ρ h0 6), .int o31_x7, .ref (ρ h0 8), .int o31_x9, .int o31_x10, .int o31_x11, .int o31_x12, .long o31_x13, .int o31_x14, .int o31_x15, .int o31_x16, .int o31_x17, .int o31_x18, .int o31_x19, .int o31_x20, .ref (ρ h0 21), .int o31_x22, .ref (ρ h0 23), .ref (ρ h0 24), .int o31_x25, .ref (ρ h0 26), .ref (ρ h0 27), .int o31_x28, .int o31_x29, .ref (ρ h0 30), .ref (ρ h0 31), .int o31_x32, .long o31_x33, .long o31_x34, .long o31_x35, .int o31_x36, .int o31_x37, .int o31_x38, .ref (ρ h0 39), .ref (ρ h0 40), .ref (ρ h0 41), .ref (ρ h0 42), .ref (ρ h0 43), .ref (ρ h0 44), .ref (ρ h0 45), .ref (ρ h0 46), .int o31_x47, .int o31_x48, .ref (ρ h0 49), .ref (ρ h0 50), .ref (ρ h0 51), .ref (ρ h0 52)])) hD (tp_in hG ht_h0 (by decide)) eq32 (fun f33 H locs hP hD hS g35 k34 => ?_))
  have hT := hT.up ht_h0 g35 k34 ⟨_, _, _, _, _, _, _, _, _, _, _, _, _, _, _, _, _, _, _, _, _, _, _, _, _, _, _, _, rfl, ro31_0, ro31_1, ro31_2, ro31_3, ro31_4, ro31_5, ro31_6, ro31_7, ro31_8, ro31_9, ro31_10, ro31_11, ro31_12, ro31_13⟩
  have hR := hR.up ht_h0 (by decide) k34
  refine lv_iload_n hx hb dX12_image_5 rfl (lv_at hl 1 rfl) ?_
  refine lv_i2l hx hb dX12_image_6 rfl ?_
  refine lv_lconst (v := 0) hx hb dX12_image_7 (by decide) ?_
  refine lv_lconst (v := 1) hx hb dX12_image_8 (by decide) ?_
  have hf_36 : f33 (ρ h0 2) = .inl (κ 0, 12967, .inl g27) := (k34 _ (tp_ne y1 ht_h0 (by decide))).trans hf_o26
  refine pz_calli (va_runS (As := [.long v.toInt64, .long 0, .long 1]) (rest := []) ⟨hx, hb, hml, hown, hts⟩ (t_X12_in l dC dI _ v.toInt64 (0) (1) (v.toInt) (0) (1) (Int32.toInt_toInt64 v) rfl rfl) (va_cwS 3 hts gX12_image_X12_in rfl rfl rfl pd_X12_in ⟨Nat.le_of_ble_eq_true rfl, Nat.le_of_ble_eq_true rfl⟩) ⟨pz_blind, pz_pre pz_P0 (hK.sub (tys' := []) [] rfl) (pz_D0 (A := fun _ => True)) hN⟩ rfl rfl hl.1 rfl (lv_room (Nat.le_of_ble_eq_true rfl)) dX12_image_9 ⟨Nat.le_of_ble_eq_true rfl, Nat.le_of_ble_eq_true rfl⟩) (fun r37 hw38 => ?_)
  obtain ⟨hw38r, hw38p⟩ := hw38
  refine lv_if_ne (tgt := 21) hx hb dX12_image_12 (by decide) (fun c39 => ?_) (fun c39 => ?_)
  · have ic39 : r37.toInt ≠ 0 := zi_ne rfl rfl c39
    replace ic39 : 1 ≤ r37.toInt := by omega
    have p40 : (0) ≤ (v.toInt) ∧ (v.toInt) ≤ (1) := (tp_cond.yes hw38p) (by omega)
    refine lv_iconst (v := 0) hx hb dX12_image_21 (by decide) ?_
    refine lv_istore_n (lv' := [(2, .int 0), (0, .ref h0), (1, .int v)]) hx hb dX12_image_22 rfl hl (by decide) rfl (fun ls hl => ?_)
    have hf_43 : f33 (ρ h0 3) = .inl (κ 0, 25934, .inl g29) := (k34 _ (tp_ne y2 ht_h0 (by decide))).trans hf_o28
    have tf44 : mo_hd (mo_i (f33 (ρ h0 3)) = g29) := tfa_i hf_43
    refine pz_loop (fun n0 H locs ls => ∃ f45 : Nat → va_E, ∃ w41 : Int32, n0 = (12967 - (w41.toInt)).toNat ∧ tp_T (mo_O κ) κ τ ν ρ f45 ∧ tp_F τ [13, 33, 34] f f45 ∧ f45 (ρ h0 2) = .inl (κ 0, 12967, .inl g27) ∧ ((mo_CP (mo_R g29) (mo_R g27) (mo_R (mo_i (f45 (ρ h0 3)))) (12967 * v.toInt) (w41.toInt))) ∧ (0 ≤ w41.toInt ∧ w41.toInt ≤ 12967) ∧ va_P (dC, dI) vwCl (va_pl L f45) H ∧ va_D A (va_pl L f45) ∧ va_S A s.heap H locs ∧ lv_has ls 3 [(2, .int w41), (0, .ref h0), (1, .int v)]) ?_ _ _ _ _ ⟨f33, 0, rfl, hT, hR, hf_36, (by first | (simp only [(mo_un tf44), mo_i1, mo_l1]; exact (show mo_CP (mo_R g29) (mo_R g27) (mo_R g29) (12967 * v.toInt) (0 : Int32).toInt from mo_CP.rf (by decide))) | (rw [(mo_un tf44)]; exact (show mo_CP (mo_R g29) (mo_R g27) (mo_R g29) (12967 * v.toInt) (0 : Int32).toInt from mo_CP.rf (by decide)))), (by have : (0 : Int32).toInt = 0 := rfl; omega), hP, hD, hS, lv_sub hl [0, 1, 2] rfl⟩
    intro n0 H locs ls hI ih47
    refine Exists.elim hI (fun f45 hE90 => Exists.elim hE90 (fun w41 hE91 => tn_10 hE91 (fun hn48 hT hR hk42k jf49 rw41 hP hD hS hl => ?_)))
    clear hE91 hE90 hI
    refine tpk_33 hT y2 (fun g51 hf_o50 => ?_)
    have tf52 : mo_hd (mo_i (f45 (ρ h0 3)) = g51) := tfa_i hf_o50
    replace jf49 : mo_CP (mo_R g29) (mo_R g27) (mo_R g51) (12967 * v.toInt) (w41.toInt) := by have q9 := jf49; first | (simp only [(mo_un tf52), mo_i1, mo_l1] at q9; exact q9) | (rw [(mo_un tf52)] at q9; exact q9)
    refine lv_iload_n hx hb dX12_image_23 rfl (lv_at hl 0 rfl) ?_
    refine lv_sipush (v := 12967) hx hb dX12_image_24 (by decide) ?_
    refine lv_icmp_ge (tgt := 54) hx hb dX12_image_27 (by decide) (fun c53 => ?_) (fun c53 => ?_)
    · have ic53 : w41.toInt ≥ 12967 := zi_ge rfl rfl c53
      refine lv_aload_n hx hb dX12_image_54 rfl (lv_at hl 1 rfl) ?_
      refine tpk_13 hT ht_h0 (fun o54_x0 o54_x1 o54_x7 o54_x9 o54_x10 o54_x11 o54_x12 o54_x13 o54_x14 o54_x15 o54_x16 o54_x17 o54_x18 o54_x19 o54_x20 o54_x22 o54_x25 o54_x28 o54_x29 o54_x32 o54_x33 o54_x34 o54_x35 o54_x36 o54_x37 o54_x38 o54_x47 o54_x48 hf_o54 ro54_0 ro54_1 ro54_2 ro54_3 ro54_4 ro54_5 ro54_6 ro54_7 ro54_8 ro54_9 ro54_10 ro54_11 ro54_12 ro54_13 => ?_)
      refine tpk_pos (tp_in hG ht_h0 (by decide)) hf_o54 (fun q55 eq55 => ?_)
      refine va_get (D := (dC, dI)) (ci := 12) (v := .ref (ρ h0 4)) (C := RX12) (T := TX12) (N := 53) hx hb hts hfX12 hown hK hP q55 eq55 rfl 4 (by decide) (hts (.fieldLink RX12 16 "ColdShipsModel" "isKept" "[Z") wa_151) (fun _ h9 => h9) rfl dX12_image_55 ?_
      refine lv_iload_n hx hb dX12_image_58 rfl (lv_at hl 2 rfl) ?_
      refine lv_iconst (v := 1) hx hb dX12_image_59 (by decide) ?_
      refine tpk_34 hT y3 (fun g57 hf_o56 => ?_)
      refine tpk_pos (tp_in hG y3 (by decide)) hf_o56 (fun q58 eq58 => ?_)
      refine va_zast hx hb hK hP hD hS q58 3 eq58 rfl (vp_in_iff.mpr ⟨by omega, by omega⟩) dX12_image_60 (tp_k (.inl (κ 3, 2, .inl (upd g57 v.toNatClampNeg (vp_nar .boolean (1 : Int32))))) hD (tp_in hG y3 (by decide)) eq58 (fun f59 H locs hP hD hS g61 k60 => ?_))
      have hT := hT.up y3 g61 k60 tp_o34
      have hR := hR.up y3 (by decide) k60
      generalize (upd g57 v.toNatClampNeg (vp_nar .boolean (1 : Int32))) = g62 at g61
      refine lv_aload_n hx hb dX12_image_61 rfl (lv_at hl 1 rfl) ?_
      refine lv_iconst (v := 0) hx hb dX12_image_62 (by decide) ?_
      have hf_63 : f59 (ρ h0 2) = .inl (κ 0, 12967, .inl g27) := (k60 _ (tp_ne y1 y3 (by decide))).trans hk42k
      have hf_64 : f59 h0 = .inr (12, [.int o54_x0, .int o54_x1, .ref (ρ h0 2), .ref (ρ h0 3), .ref (ρ h0 4), .ref (ρ h0 5), .ref (ρ h0 6), .int o54_x7, .ref (ρ h0 8), .int o54_x9, .int o54_x10, .int o54_x11, .int o54_x12, .long o54_x13, .int o54_x14, .int o54_x15, .int o54_x16, .int o54_x17, .int o54_x18, .int o54_x19, .int o54_x20, .ref (ρ h0 21), .int o54_x22, .ref (ρ h0 23), .ref (ρ h0 24), .int o54_x25, .ref (ρ h0 26), .ref (ρ h0 27), .int o54_x28, .int o54_x29, .ref (ρ h0 30), .ref (ρ h0 31), .int o54_x32, .long o54_x33, .long o54_x34, .long o54_x35, .int o54_x36, .int o54_x37, .int o54_x38, .ref (ρ h0 39), .ref (ρ h0 40), .ref (ρ h0 41), .ref (ρ h0 42), .ref (ρ h0 43), .ref (ρ h0 44), .ref (ρ h0 45), .ref (ρ h0 46), .int o54_x47, .int o54_x48, .ref (ρ h0 49), .ref (ρ h0 50), .ref (ρ h0 51), .ref (ρ h0 52)]) := (k60 _ (tp_ne ht_h0 y3 (by decide))).trans hf_o54
      refine tpk_pos (tp_in hG ht_h0 (by decide)) hf_64 (fun q65 eq65 => ?_)
      have hFc := tp_fr hD hS hA
      refine va_calli (va_runV (As := [.int 0]) (rest := []) ⟨hx, hb, hml, hown, hts⟩ (t_X12_told l dC dI _ κ τ ν ρ L f59 hG hT h0 (0) ht_h0) (cwV 1 hts gX12_image_X12_told rfl rfl rfl ⟨rfl, pd_X12_told⟩ ⟨Nat.le_of_ble_eq_true rfl, Nat.le_of_ble_eq_true rfl⟩) ⟨pz_blind, va_recv hK hP (ci := 12) (q0 := q65) rfl eq65, pz_pre hP hK hD hN⟩ rfl rfl hl.1 rfl (lv_room (Nat.le_of_ble_eq_true rfl)) dX12_image_63 ⟨Nat.le_of_ble_eq_true rfl, Nat.le_of_ble_eq_true rfl⟩) hS (fun q _ h => hFc q h) hFc (fun r66 f68 t H1 locs ht hvm hw67 hB hz1 hk1 hS => ?_)
      refine tn_4 hw67 (fun hT hF69 hw67r hw67p => ?_); clear hw67
      have hR := hR.then hF69 (by decide)
      have hP := hB.1; rw [ht] at hP; have hD := tp_ad f68 hD; clear hB hFc hz1 hk1; subst ht; generalize t.heap = H at hP hS ⊢
      have hw67pq : r66.toInt = 0 := by rw [hw67p]; rfl
      have hf_70 : f59 (ρ h0 3) = .inl (κ 0, 25934, .inl g51) := (k60 _ (tp_ne y2 y3 (by decide))).trans hf_o50
      have hf_71 : f68 (ρ h0 3) = .inl (κ 0, 25934, .inl g51) := (hF69 _ (by rw [y2]; decide)).trans hf_70
      have tf72 : mo_hd (mo_i (f68 (ρ h0 3)) = g51) := tfa_i hf_71
      exact W.iret (v := r66) hx hb hr (fun t ht hW => ⟨⟨r66, f68, rfl, ⟨hT, hR, trivial, (by first | (simp only [(mo_un tf72), mo_i1, mo_l1]; exact (show mo_IM (mo_R g51) ∧ (tp_pick r66 (0 ≤ v.toInt ∧ v.toInt ≤ 1) 0 (-1)) from ⟨hIM.put hI jf49 (by omega), ⟨fun q => by first | exact hw67p | (exfalso; omega), fun q => by first | exact hw67p | (exfalso; omega)⟩⟩)) | (rw [(mo_un tf72)]; exact (show mo_IM (mo_R g51) ∧ (tp_pick r66 (0 ≤ v.toInt ∧ v.toInt ≤ 1) 0 (-1)) from ⟨hIM.put hI jf49 (by omega), ⟨fun q => by first | exact hw67p | (exfalso; omega), fun q => by first | exact hw67p | (exfalso; omega)⟩⟩)))⟩, by rw [ht]; exact hP, va_K.moved hW.alike hK, hD⟩, hS.F ht⟩) hS.2.2 dX12_image_66
    · have ic53 : w41.toInt < 12967 := zi_gef rfl rfl c53
      refine lv_aload_n hx hb dX12_image_30 rfl (lv_at hl 1 rfl) ?_
      refine tpk_13 hT ht_h0 (fun o73_x0 o73_x1 o73_x7 o73_x9 o73_x10 o73_x11 o73_x12 o73_x13 o73_x14 o73_x15 o73_x16 o73_x17 o73_x18 o73_x19 o73_x20 o73_x22 o73_x25 o73_x28 o73_x29 o73_x32 o73_x33 o73_x34 o73_x35 o73_x36 o73_x37 o73_x38 o73_x47 o73_x48 hf_o73 ro73_0 ro73_1 ro73_2 ro73_3 ro73_4 ro73_5 ro73_6 ro73_7 ro73_8 ro73_9 ro73_10 ro73_11 ro73_12 ro73_13 => ?_)
      refine tpk_pos (tp_in hG ht_h0 (by decide)) hf_o73 (fun q74 eq74 => ?_)
      refine va_get (D := (dC, dI)) (ci := 12) (v := .ref (ρ h0 3)) (C := RX12) (T := TX12) (N := 53) hx hb hts hfX12 hown hK hP q74 eq74 rfl 3 (by decide) (hts (.fieldLink RX12 13 "ColdShipsModel" "images" "[I") wa_149) (fun _ h9 => h9) rfl dX12_image_31 ?_
      refine lv_sipush (v := 12967) hx hb dX12_image_34 (by decide) ?_
      refine lv_iload_n hx hb dX12_image_37 rfl (lv_at hl 2 rfl) ?_
      refine lv_imul hx hb dX12_image_38 ?_
      refine lv_topi (fun z75 ez75 => ?_)
      have iz75 : z75.toInt = 12967 * v.toInt := zi_mul ez75 rfl rfl (by omega) (by omega)
      refine lv_iload_n hx hb dX12_image_39 rfl (lv_at hl 0 rfl) ?_
      refine lv_iadd hx hb dX12_image_40 ?_
      refine lv_topi (fun z76 ez76 => ?_)
      have iz76 : z76.toInt = z75.toInt + w41.toInt := zi_add ez76 rfl rfl (by omega) (by omega)
      refine lv_aload_n hx hb dX12_image_41 rfl (lv_at hl 1 rfl) ?_
      refine va_get (D := (dC, dI)) (ci := 12) (v := .ref (ρ h0 2)) (C := RX12) (T := TX12) (N := 53) hx hb hts hfX12 hown hK hP q74 eq74 rfl 2 (by decide) (hts (.fieldLink RX12 7 "ColdShipsModel" "row" "[I") wa_148) (fun _ h9 => h9) rfl dX12_image_42 ?_
      refine lv_iload_n hx hb dX12_image_45 rfl (lv_at hl 0 rfl) ?_
      refine tpk_pos (tp_in hG y1 (by decide)) hk42k (fun q77 eq77 => ?_)
      refine va_iald hx hb hK hP q77 0 eq77 rfl (vp_in_iff.mpr ⟨by omega, by omega⟩) dX12_image_46 ?_
      refine lv_topi (fun z78 ez78 => ?_)
      have jz78 : z78.toInt = mo_R g27 (0 + w41.toInt) := mo_rd ez78 (by omega)
      refine tpk_pos (tp_in hG y2 (by decide)) hf_o50 (fun q79 eq79 => ?_)
      refine va_iast hx hb hK hP hD hS q79 0 eq79 rfl (vp_in_iff.mpr ⟨by omega, by omega⟩) dX12_image_47 (tp_k (.inl (κ 0, 25934, .inl (upd g51 z76.toNatClampNeg z78))) hD (tp_in hG y2 (by decide)) eq79 (fun f80 H locs hP hD hS g82 k81 => ?_))
      have hT := hT.up y2 g82 k81 tp_o33
      have hR := hR.up y2 (by decide) k81
      have hU84 : mo_U (mo_R g51) (mo_R (upd g51 z76.toNatClampNeg z78)) (12967 * v.toInt + w41.toInt) (z78.toInt) := mo_up (by omega) (rfl : z78.toInt = _) (by omega)
      generalize (upd g51 z76.toNatClampNeg z78) = g83 at g82 hU84
      obtain ⟨z85, ez85⟩ : ∃ y : Int32, y = w41 + 1 := ⟨_, rfl⟩
      refine lv_iinc (v := z85) (lv' := [(2, .int z85), (0, .ref h0), (1, .int v)]) hx hb dX12_image_48 hl (k := 0) rfl (by rw [ez85]; rfl) (by decide) rfl (fun ls hl => ?_)
      have iz85 : z85.toInt = w41.toInt + 1 := zi_add ez85 rfl rfl (by omega) (by omega)
      refine lv_goto (tgt := 23) hx hb dX12_image_51 (by decide) ?_
      have tf86 : mo_hd (mo_i (f80 (ρ h0 3)) = g83) := tfa_i g82
      have hf_87 : f80 (ρ h0 2) = .inl (κ 0, 12967, .inl g27) := (k81 _ (tp_ne y1 y2 (by decide))).trans hk42k
      exact ih47 _ _ _ _ (by rw [hn48]; omega) ⟨f80, z85, rfl, hT, hR, hf_87, (by first | (simp only [(mo_un tf86), mo_i1, mo_l1]; exact (show mo_CP (mo_R g29) (mo_R g27) (mo_R g83) (12967 * v.toInt) (z85.toInt) from mo_CP.up jf49 hU84 (by omega) (by rw [show (w41.toInt : Int) = 0 + w41.toInt by omega]; omega) (by omega) _ (by omega))) | (rw [(mo_un tf86)]; exact (show mo_CP (mo_R g29) (mo_R g27) (mo_R g83) (12967 * v.toInt) (z85.toInt) from mo_CP.up jf49 hU84 (by omega) (by rw [show (w41.toInt : Int) = 0 + w41.toInt by omega]; omega) (by omega) _ (by omega)))), (by omega), hP, hD, hS, lv_sub hl [0, 1, 2] rfl⟩
  · have ic39 : r37.toInt = 0 := zi_nef rfl rfl c39
    have p88 : ¬ ((0) ≤ (v.toInt) ∧ (v.toInt) ≤ (1)) := (tp_cond.no hw38p) (by omega)
    refine lv_aload_n hx hb dX12_image_15 rfl (lv_at hl 0 rfl) ?_
    refine lv_iconst (v := (-1)) hx hb dX12_image_16 (by decide) ?_
    refine tpk_pos (tp_in hG ht_h0 (by decide)) g35 (fun q89 eq89 => ?_)
    have hFc := tp_fr hD hS hA
    refine va_calli (va_runV (As := [.int (-1)]) (rest := []) ⟨hx, hb, hml, hown, hts⟩ (t_X12_told l dC dI _ κ τ ν ρ L f33 hG hT h0 ((-1)) ht_h0) (cwV 1 hts gX12_image_X12_told rfl rfl rfl ⟨rfl, pd_X12_told⟩ ⟨Nat.le_of_ble_eq_true rfl, Nat.le_of_ble_eq_true rfl⟩) ⟨pz_blind, va_recv hK hP (ci := 12) (q0 := q89) rfl eq89, pz_pre hP hK hD hN⟩ rfl rfl hl.1 rfl (lv_room (Nat.le_of_ble_eq_true rfl)) dX12_image_17 ⟨Nat.le_of_ble_eq_true rfl, Nat.le_of_ble_eq_true rfl⟩) hS (fun q _ h => hFc q h) hFc (fun r90 f92 t H1 locs ht hvm hw91 hB hz1 hk1 hS => ?_)
    refine tn_4 hw91 (fun hT hF93 hw91r hw91p => ?_); clear hw91
    have hR := hR.then hF93 (by decide)
    have hP := hB.1; rw [ht] at hP; have hD := tp_ad f92 hD; clear hB hFc hz1 hk1; subst ht; generalize t.heap = H at hP hS ⊢
    have hw91pq : r90.toInt = (-1) := by rw [hw91p]; rfl
    have hf_94 : f33 (ρ h0 3) = .inl (κ 0, 25934, .inl g29) := (k34 _ (tp_ne y2 ht_h0 (by decide))).trans hf_o28
    have hf_95 : f92 (ρ h0 3) = .inl (κ 0, 25934, .inl g29) := (hF93 _ (by rw [y2]; decide)).trans hf_94
    have tf96 : mo_hd (mo_i (f92 (ρ h0 3)) = g29) := tfa_i hf_95
    exact W.iret (v := r90) hx hb hr (fun t ht hW => ⟨⟨r90, f92, rfl, ⟨hT, hR, trivial, (by first | (simp only [(mo_un tf96), mo_i1, mo_l1]; exact (show mo_IM (mo_R g29) ∧ (tp_pick r90 (0 ≤ v.toInt ∧ v.toInt ≤ 1) 0 (-1)) from ⟨hIM, ⟨fun q => by first | exact hw91p | (exfalso; omega), fun q => by first | exact hw91p | (exfalso; omega)⟩⟩)) | (rw [(mo_un tf96)]; exact (show mo_IM (mo_R g29) ∧ (tp_pick r90 (0 ≤ v.toInt ∧ v.toInt ≤ 1) 0 (-1)) from ⟨hIM, ⟨fun q => by first | exact hw91p | (exfalso; omega), fun q => by first | exact hw91p | (exfalso; omega)⟩⟩)))⟩, by rw [ht]; exact hP, va_K.moved hW.alike hK, hD⟩, hS.F ht⟩) hS.2.2 dX12_image_20

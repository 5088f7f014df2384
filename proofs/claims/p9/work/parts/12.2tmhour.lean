set_option maxHeartbeats 4000000 in
set_option maxRecDepth 100000 in
theorem t_X12_mayGo (l : Launch) (dC : Nat → ClassId) (dI : Nat → Nat → Nat) (sz : Nat) (κ : Nat → ClassId) (Θ : Nat → Option Int) (τ ν : Nat → Nat) (ρ : Nat → Nat → Nat) (L : List Nat) (f : Nat → va_E) (hG : tp_G τ ν ρ L) (hT : tp_T (mo_O κ Θ) κ τ ν ρ f) (h0 : Nat) (a : Int32) (us : Int32) (u : Int32) (x : Int) (b : Int) (qs : Int) (ht_h0 : τ h0 = 13) (hr_u : 0 ≤ u.toInt ∧ u.toInt ≤ 2399) (hL_us : us.toInt = 547 + 84 * qs) (hq_us : 0 ≤ qs ∧ qs ≤ 5) (hbb : 0 ≤ b ∧ b ≤ 1000) (hJ : mo_RI x b (mo_R (mo_i (f (ρ h0 2))))) (hn1 : qs < (mo_R (mo_i (f (ρ h0 2)))) (1)) : Met l yX12_mayGo wqX12_mayGo ({ frames := 4, cells := 0, slots := 0, locals := 1200 }) (va_Pc [.ref h0, .int a, .int us, .int u] (pz_B dC dI (tp_K κ) (va_pl L f) sz)) (vp_Si (fun r => (0 ≤ r.toInt ∧ r.toInt ≤ 1) ∧ True)) 0 0 (fun _ => False) := by
  refine Met.ofW (cc := cX12_mayGo) (maxL := 8) (ret := some .boolean) (by decide) rfl ?_
  intro p e s m args below meth c s₁ B hml hv
  obtain ⟨rfl, hsz, hP, hK, hD0, hN⟩ := hv
  have hx := B.exec
  have hb := B.bytes
  have hr := B.returns
  have hts := fun (w : Cond) (h : w ∈ WALL) => atoms_spec (ws := wqX12_mayGo) B.pre w (List.mem_cons_of_mem _ h)
  have hown : s.vm.findClass RX12 = some m.cls := findClass_of_methodNamed B.named
  have hlocks := B.notSynchronized
  subst hsz
  have hD := hD0
  have hS : va_S (fun _ => True) s.heap s.heap [] := va_S.rf
  have hl := lv_entry ([.ref h0, .int a, .int us, .int u]) (n := 8) (Nat.le_of_ble_eq_true rfl)
  rw [lg_entry_eq]
  generalize (lg_sl ([.ref h0, .int a, .int us, .int u]) ++ List.replicate (8 - (lg_sl ([.ref h0, .int a, .int us, .int u])).length) Slot.unset).toArray = ls at hl ⊢
  have hl : lv_has ls 8 [(0, .ref h0), (1, .int a), (2, .int us), (3, .int u)] := hl
  refine tgk_13 hG ht_h0 (fun y1 y2 y3 y4 y5 y6 y7 y8 y9 y10 y11 y12 y13 y14 y15 y16 y17 y18 y19 y20 y21 y22 y23 y24 y25 => ?_)
  refine tpk_32 hT y1 (fun g27 hf_o26 => ?_)
  have hI : mo_RI x b (mo_R g27) := by have q9 := hJ; rw [hf_o26, mo_i1] at q9; exact q9
  rw [hf_o26, mo_i1] at hn1
  obtain ⟨n1, en1⟩ : ∃ n : Int, n = mo_R g27 (1) := ⟨_, rfl⟩
  have kn1 := hI.k1
  obtain ⟨n11, en11⟩ : ∃ n : Int, n = mo_R g27 (11) := ⟨_, rfl⟩
  have kn11 := hI.k11
  refine lv_aload_n hx hb dX12_mayGo_0 rfl (lv_at hl 0 rfl) ?_
  refine tpk_13 hT ht_h0 (fun o28_x0 o28_x1 o28_x7 o28_x9 o28_x10 o28_x11 o28_x12 o28_x13 o28_x14 o28_x15 o28_x16 o28_x17 o28_x18 o28_x19 o28_x20 o28_x22 o28_x25 o28_x28 o28_x29 o28_x32 o28_x33 o28_x34 o28_x35 o28_x36 o28_x37 o28_x38 o28_x47 o28_x48 hf_o28 ro28_0 ro28_1 ro28_2 ro28_3 ro28_4 ro28_5 ro28_6 ro28_7 ro28_8 ro28_9 ro28_10 ro28_11 ro28_12 ro28_13 ro28_14 => ?_)
  refine tpk_pos (tp_in hG ht_h0 (by decide)) hf_o28 (fun q29 eq29 => ?_)
  refine va_get (D := (dC, dI)) (ci := 12) (v := .ref (ρ h0 2)) (C := RX12) (T := TX12) (N := 53) hx hb hts hfX12 hown hK hP q29 eq29 rfl 2 (by decide) (hts (.fieldLink RX12 7 "ColdShipsModel" "row" "[I") wa_148) (fun _ h9 => h9) rfl dX12_mayGo_1 ?_
  refine lv_iload_n hx hb dX12_mayGo_4 rfl (lv_at hl 2 rfl) ?_
  refine lv_iconst (v := 0) hx hb dX12_mayGo_5 (by decide) ?_
  refine lv_iadd hx hb dX12_mayGo_6 ?_
  refine lv_topi (fun z30 ez30 => ?_)
  have iz30 : z30.toInt = us.toInt + 0 := zi_add ez30 rfl rfl (by omega) (by omega)
  refine tpk_pos (tp_in hG y1 (by decide)) hf_o26 (fun q31 eq31 => ?_)
  refine va_iald hx hb hK hP q31 0 eq31 rfl (vp_in_iff.mpr ⟨by omega, by omega⟩) dX12_mayGo_7 ?_
  refine lv_topi (fun z32 ez32 => ?_)
  have jz32 : z32.toInt = mo_R g27 (547 + 84 * qs + 0) := mo_rd ez32 (by omega)
  have kz32 := hI.SA (s := qs) (by omega) (by omega)
  refine lv_istore (lv' := [(4, .int z32), (0, .ref h0), (1, .int a), (2, .int us), (3, .int u)]) hx hb dX12_mayGo_8 hl (by decide) rfl (fun ls hl => ?_)
  refine lv_iconst (v := 0) hx hb dX12_mayGo_10 (by decide) ?_
  refine lv_istore (lv' := [(5, .int 0), (4, .int z32), (0, .ref h0), (1, .int a), (2, .int us), (3, .int u)]) hx hb dX12_mayGo_11 hl (by decide) rfl (fun ls hl => ?_)
  refine lv_iconst (v := 0) hx hb dX12_mayGo_13 (by decide) ?_
  refine lv_istore (lv' := [(6, .int 0), (5, .int 0), (4, .int z32), (0, .ref h0), (1, .int a), (2, .int us), (3, .int u)]) hx hb dX12_mayGo_14 hl (by decide) rfl (fun ls hl => ?_)
  refine pz_loop (fun n0 H locs ls => ∃ w33 : Int32, ∃ w34 : Int32, n0 = (60 - (w33.toInt)).toNat ∧ (0 ≤ w33.toInt ∧ w33.toInt ≤ 60) ∧ (0 ≤ w34.toInt ∧ w34.toInt ≤ 1) ∧ H = s.heap ∧ locs = [] ∧ lv_has ls 8 [(6, .int w33), (5, .int w34), (4, .int z32), (0, .ref h0), (1, .int a), (2, .int us), (3, .int u)]) ?_ _ _ _ _ ⟨0, 0, rfl, (by have : (0 : Int32).toInt = 0 := rfl; have : (0 : Int32).toInt = 0 := rfl; omega), (by have : (0 : Int32).toInt = 0 := rfl; have : (0 : Int32).toInt = 0 := rfl; omega), rfl, rfl, lv_sub hl [0, 1, 2, 3, 4, 5, 6] rfl⟩
  intro n0 H locs ls hI ih35
  refine Exists.elim hI (fun w33 hE90 => Exists.elim hE90 (fun w34 hE91 => tn_6 hE91 (fun hn36 rw33 rw34 e93 e94 hl => ?_)))
  clear hE91 hE90 hI; subst e93; subst e94
  refine lv_iload hx hb dX12_mayGo_16 (lv_at hl 0 rfl) ?_
  refine lv_aload_n hx hb dX12_mayGo_18 rfl (lv_at hl 3 rfl) ?_
  refine va_get (D := (dC, dI)) (ci := 12) (v := .ref (ρ h0 2)) (C := RX12) (T := TX12) (N := 53) hx hb hts hfX12 hown hK hP q29 eq29 rfl 2 (by decide) (hts (.fieldLink RX12 7 "ColdShipsModel" "row" "[I") wa_148) (fun _ h9 => h9) rfl dX12_mayGo_19 ?_
  refine lv_iconst (v := 2) hx hb dX12_mayGo_22 (by decide) ?_
  refine va_iald hx hb hK hP q31 0 eq31 rfl (vp_in_iff.mpr ⟨by decide, by decide⟩) dX12_mayGo_23 ?_
  refine lv_topi (fun z37 ez37 => ?_)
  have jz37 : z37.toInt = mo_R g27 (2) := mo_rd ez37 (show (2 : Int32).toInt = (2) from by decide)
  have kz37 := hI.k2
  refine lv_icmp_ge (tgt := 108) hx hb dX12_mayGo_24 (by decide) (fun c38 => ?_) (fun c38 => ?_)
  · have ic38 : w33.toInt ≥ z37.toInt := zi_ge rfl rfl c38
    refine lv_aload_n hx hb dX12_mayGo_108 rfl (lv_at hl 3 rfl) ?_
    refine va_get (D := (dC, dI)) (ci := 12) (v := .ref (ρ h0 2)) (C := RX12) (T := TX12) (N := 53) hx hb hts hfX12 hown hK hP q29 eq29 rfl 2 (by decide) (hts (.fieldLink RX12 7 "ColdShipsModel" "row" "[I") wa_148) (fun _ h9 => h9) rfl dX12_mayGo_109 ?_
    refine lv_iload_n hx hb dX12_mayGo_112 rfl (lv_at hl 5 rfl) ?_
    refine lv_iconst (v := 1) hx hb dX12_mayGo_113 (by decide) ?_
    refine lv_iadd hx hb dX12_mayGo_114 ?_
    refine lv_topi (fun z39 ez39 => ?_)
    have iz39 : z39.toInt = us.toInt + 1 := zi_add ez39 rfl rfl (by omega) (by omega)
    refine va_iald hx hb hK hP q31 0 eq31 rfl (vp_in_iff.mpr ⟨by omega, by omega⟩) dX12_mayGo_115 ?_
    refine lv_topi (fun z40 ez40 => ?_)
    refine lv_if_ne (tgt := 171) hx hb dX12_mayGo_116 (by decide) (fun c41 => ?_) (fun c41 => ?_)
    · have ic41 : z40.toInt ≠ 0 := zi_ne rfl rfl c41
      refine lv_iconst (v := 0) hx hb dX12_mayGo_171 (by decide) ?_
      exact W.zret (v := 0) hx hb hr rfl (fun t ht hW => ⟨0, rfl, ⟨(by first | decide | omega), trivial⟩, ht⟩) (fun _ h => by cases h) dX12_mayGo_172
    · have ic41 : z40.toInt = 0 := zi_nef rfl rfl c41
      refine lv_iload hx hb dX12_mayGo_119 (lv_at hl 1 rfl) ?_
      refine lv_if_eq (tgt := 171) hx hb dX12_mayGo_121 (by decide) (fun c42 => ?_) (fun c42 => ?_)
      · have ic42 : w34.toInt = 0 := zi_eq rfl rfl c42
        refine lv_iconst (v := 0) hx hb dX12_mayGo_171 (by decide) ?_
        exact W.zret (v := 0) hx hb hr rfl (fun t ht hW => ⟨0, rfl, ⟨(by first | decide | omega), trivial⟩, ht⟩) (fun _ h => by cases h) dX12_mayGo_172
      · have ic42 : w34.toInt ≠ 0 := zi_eqf rfl rfl c42
        replace ic42 : 1 ≤ w34.toInt := by omega
        refine lv_aload_n hx hb dX12_mayGo_124 rfl (lv_at hl 3 rfl) ?_
        refine lv_iload hx hb dX12_mayGo_125 (lv_at hl 2 rfl) ?_
        refine lv_iload_n hx hb dX12_mayGo_127 rfl (lv_at hl 6 rfl) ?_
        refine pz_calli (va_runV (As := [.int z32, .int u]) (rest := []) ⟨hx, hb, hml, hown, hts⟩ (t_X12_isBroken l dC dI _ κ Θ τ ν ρ L f hG hT h0 z32 u x b ht_h0 (by omega) (by rw [hf_o26, mo_i1]; exact hI)) (cwV 2 hts gX12_mayGo_X12_isBroken rfl rfl rfl ⟨rfl, pd_X12_isBroken⟩ ⟨Nat.le_of_ble_eq_true rfl, Nat.le_of_ble_eq_true rfl⟩) ⟨pz_blind, va_recv hK hP (ci := 12) (q0 := q29) rfl eq29, pz_pre hP hK hD hN⟩ rfl rfl hl.1 rfl (lv_room (Nat.le_of_ble_eq_true rfl)) dX12_mayGo_128 ⟨Nat.le_of_ble_eq_true rfl, Nat.le_of_ble_eq_true rfl⟩) (fun r43 hw44 => ?_)
        obtain ⟨hw44r, hw44p⟩ := hw44
        refine lv_if_ne (tgt := 171) hx hb dX12_mayGo_131 (by decide) (fun c45 => ?_) (fun c45 => ?_)
        · have ic45 : r43.toInt ≠ 0 := zi_ne rfl rfl c45
          replace ic45 : 1 ≤ r43.toInt := by omega
          refine lv_iconst (v := 0) hx hb dX12_mayGo_171 (by decide) ?_
          exact W.zret (v := 0) hx hb hr rfl (fun t ht hW => ⟨0, rfl, ⟨(by first | decide | omega), trivial⟩, ht⟩) (fun _ h => by cases h) dX12_mayGo_172
        · have ic45 : r43.toInt = 0 := zi_nef rfl rfl c45
          refine lv_aload_n hx hb dX12_mayGo_134 rfl (lv_at hl 3 rfl) ?_
          refine va_get (D := (dC, dI)) (ci := 12) (v := .ref (ρ h0 2)) (C := RX12) (T := TX12) (N := 53) hx hb hts hfX12 hown hK hP q29 eq29 rfl 2 (by decide) (hts (.fieldLink RX12 7 "ColdShipsModel" "row" "[I") wa_148) (fun _ h9 => h9) rfl dX12_mayGo_135 ?_
          refine lv_iload hx hb dX12_mayGo_138 (lv_at hl 2 rfl) ?_
          refine pz_calli (va_runS (As := [.int z32]) (rest := [.ref (ρ h0 2)]) ⟨hx, hb, hml, hown, hts⟩ (t_X12_terminalAt l dC dI _ z32 (z32.toInt) (by omega) rfl) (va_cwS 1 hts gX12_mayGo_X12_terminalAt rfl rfl rfl pd_X12_terminalAt ⟨Nat.le_of_ble_eq_true rfl, Nat.le_of_ble_eq_true rfl⟩) ⟨pz_blind, pz_pre pz_P0 (hK.sub (tys' := []) [] rfl) (pz_D0 (A := fun _ => True)) hN⟩ rfl rfl hl.1 rfl (lv_room (Nat.le_of_ble_eq_true rfl)) dX12_mayGo_140 ⟨Nat.le_of_ble_eq_true rfl, Nat.le_of_ble_eq_true rfl⟩) (fun r46 hw47 => ?_)
          obtain ⟨hw47r, hw47p⟩ := hw47
          refine lv_iconst (v := 3) hx hb dX12_mayGo_143 (by decide) ?_
          refine lv_iadd hx hb dX12_mayGo_144 ?_
          refine lv_topi (fun z48 ez48 => ?_)
          have iz48 : z48.toInt = r46.toInt + 3 := zi_add ez48 rfl rfl (by omega) (by omega)
          refine va_iald hx hb hK hP q31 0 eq31 rfl (vp_in_iff.mpr ⟨by omega, by omega⟩) dX12_mayGo_145 ?_
          refine lv_topi (fun z49 ez49 => ?_)
          refine lv_aload_n hx hb dX12_mayGo_146 rfl (lv_at hl 3 rfl) ?_
          refine va_get (D := (dC, dI)) (ci := 12) (v := .ref (ρ h0 2)) (C := RX12) (T := TX12) (N := 53) hx hb hts hfX12 hown hK hP q29 eq29 rfl 2 (by decide) (hts (.fieldLink RX12 7 "ColdShipsModel" "row" "[I") wa_148) (fun _ h9 => h9) rfl dX12_mayGo_147 ?_
          refine lv_bipush (v := 122) hx hb dX12_mayGo_150 (by decide) ?_
          refine lv_iload_n hx hb dX12_mayGo_152 rfl (lv_at hl 6 rfl) ?_
          refine lv_bipush (v := 25) hx hb dX12_mayGo_153 (by decide) ?_
          refine lv_irem hx hb dX12_mayGo_155 (by decide) ?_
          refine lv_topi (fun z50 ez50 => ?_)
          have iz50 : z50.toInt = u.toInt % 25 := zi_rem ez50 rfl (show (25 : Int32).toInt = 25 from rfl) (by omega) (by omega)
          refine lv_iadd hx hb dX12_mayGo_156 ?_
          refine lv_topi (fun z51 ez51 => ?_)
          have iz51 : z51.toInt = 122 + z50.toInt := zi_add ez51 rfl rfl (by omega) (by omega)
          refine va_iald hx hb hK hP q31 0 eq31 rfl (vp_in_iff.mpr ⟨by omega, by omega⟩) dX12_mayGo_157 ?_
          refine lv_topi (fun z52 ez52 => ?_)
          refine lv_iadd hx hb dX12_mayGo_158 ?_
          refine lv_topi (fun z53 ez53 => ?_)
          refine lv_aload_n hx hb dX12_mayGo_159 rfl (lv_at hl 3 rfl) ?_
          refine lv_iload_n hx hb dX12_mayGo_160 rfl (lv_at hl 5 rfl) ?_
          refine pz_calli (va_runV (As := [.int us]) (rest := [.int z53]) ⟨hx, hb, hml, hown, hts⟩ (t_X12_draftOf l dC dI _ κ Θ τ ν ρ L f hG hT h0 us x b qs ht_h0 (by omega) (by omega) (by omega) (by rw [hf_o26, mo_i1]; exact hI) (by first | (simp only [hf_o26, mo_i1]; omega) | (simp only [hf_o26, mo_i1]; trivial) | (simp only [hf_o26, mo_i1]; done) | omega)) (cwV 1 hts gX12_mayGo_X12_draftOf rfl rfl rfl ⟨rfl, pd_X12_draftOf⟩ ⟨Nat.le_of_ble_eq_true rfl, Nat.le_of_ble_eq_true rfl⟩) ⟨pz_blind, va_recv hK hP (ci := 12) (q0 := q29) rfl eq29, pz_pre hP hK hD hN⟩ rfl rfl hl.1 rfl (lv_room (Nat.le_of_ble_eq_true rfl)) dX12_mayGo_161 ⟨Nat.le_of_ble_eq_true rfl, Nat.le_of_ble_eq_true rfl⟩) (fun r54 hw55 => ?_)
          obtain ⟨hw55r, hw55p⟩ := hw55
          refine lv_icmp_lt (tgt := 171) hx hb dX12_mayGo_164 (by decide) (fun c56 => ?_) (fun c56 => ?_)
          · have ic56 : z53.toInt < r54.toInt := zi_lt rfl rfl c56
            refine lv_iconst (v := 0) hx hb dX12_mayGo_171 (by decide) ?_
            exact W.zret (v := 0) hx hb hr rfl (fun t ht hW => ⟨0, rfl, ⟨(by first | decide | omega), trivial⟩, ht⟩) (fun _ h => by cases h) dX12_mayGo_172
          · have ic56 : z53.toInt ≥ r54.toInt := zi_ltf rfl rfl c56
            refine lv_iconst (v := 1) hx hb dX12_mayGo_167 (by decide) ?_
            refine lv_goto (tgt := 172) hx hb dX12_mayGo_168 (by decide) ?_
            exact W.zret (v := 1) hx hb hr rfl (fun t ht hW => ⟨1, rfl, ⟨(by first | decide | omega), trivial⟩, ht⟩) (fun _ h => by cases h) dX12_mayGo_172
  · have ic38 : w33.toInt < z37.toInt := zi_gef rfl rfl c38
    refine lv_sipush (v := 247) hx hb dX12_mayGo_27 (by decide) ?_
    refine lv_iconst (v := 4) hx hb dX12_mayGo_30 (by decide) ?_
    refine lv_iload hx hb dX12_mayGo_31 (lv_at hl 0 rfl) ?_
    refine lv_imul hx hb dX12_mayGo_33 ?_
    refine lv_topi (fun z57 ez57 => ?_)
    have iz57 : z57.toInt = 4 * w33.toInt := zi_mul ez57 rfl rfl (by omega) (by omega)
    refine lv_iadd hx hb dX12_mayGo_34 ?_
    refine lv_topi (fun z58 ez58 => ?_)
    have iz58 : z58.toInt = 247 + z57.toInt := zi_add ez58 rfl rfl (by omega) (by omega)
    refine lv_istore (lv' := [(7, .int z58), (6, .int w33), (5, .int w34), (4, .int z32), (0, .ref h0), (1, .int a), (2, .int us), (3, .int u)]) hx hb dX12_mayGo_35 hl (by decide) rfl (fun ls hl => ?_)
    refine lv_iload hx hb dX12_mayGo_37 (lv_at hl 2 rfl) ?_
    refine lv_if_ne (tgt := 95) hx hb dX12_mayGo_39 (by decide) (fun c59 => ?_) (fun c59 => ?_)
    · have ic59 : w34.toInt ≠ 0 := zi_ne rfl rfl c59
      replace ic59 : 1 ≤ w34.toInt := by omega
      refine lv_iconst (v := 1) hx hb dX12_mayGo_95 (by decide) ?_
      refine lv_goto (tgt := 100) hx hb dX12_mayGo_96 (by decide) ?_
      refine lv_istore (lv' := [(5, .int 1), (7, .int z58), (6, .int w33), (4, .int z32), (0, .ref h0), (1, .int a), (2, .int us), (3, .int u)]) hx hb dX12_mayGo_100 hl (by decide) rfl (fun ls hl => ?_)
      obtain ⟨z60, ez60⟩ : ∃ y : Int32, y = w33 + 1 := ⟨_, rfl⟩
      refine lv_iinc (v := z60) (lv' := [(6, .int z60), (5, .int 1), (7, .int z58), (4, .int z32), (0, .ref h0), (1, .int a), (2, .int us), (3, .int u)]) hx hb dX12_mayGo_102 hl (k := 2) rfl (by rw [ez60]; rfl) (by decide) rfl (fun ls hl => ?_)
      have iz60 : z60.toInt = w33.toInt + 1 := zi_add ez60 rfl rfl (by omega) (by omega)
      refine lv_goto (tgt := 16) hx hb dX12_mayGo_105 (by decide) ?_
      exact ih35 _ _ _ _ (by rw [hn36]; omega) ⟨z60, 1, rfl, (by have : (1 : Int32).toInt = 1 := rfl; omega), (by have : (1 : Int32).toInt = 1 := rfl; omega), rfl, rfl, lv_sub hl [0, 1, 3, 4, 5, 6, 7] rfl⟩
    · have ic59 : w34.toInt = 0 := zi_nef rfl rfl c59
      refine lv_aload_n hx hb dX12_mayGo_42 rfl (lv_at hl 4 rfl) ?_
      refine va_get (D := (dC, dI)) (ci := 12) (v := .ref (ρ h0 2)) (C := RX12) (T := TX12) (N := 53) hx hb hts hfX12 hown hK hP q29 eq29 rfl 2 (by decide) (hts (.fieldLink RX12 7 "ColdShipsModel" "row" "[I") wa_148) (fun _ h9 => h9) rfl dX12_mayGo_43 ?_
      refine lv_iload hx hb dX12_mayGo_46 (lv_at hl 0 rfl) ?_
      refine va_iald hx hb hK hP q31 0 eq31 rfl (vp_in_iff.mpr ⟨by omega, by omega⟩) dX12_mayGo_48 ?_
      refine lv_topi (fun z61 ez61 => ?_)
      refine lv_iload hx hb dX12_mayGo_49 (lv_at hl 3 rfl) ?_
      refine lv_icmp_ne (tgt := 99) hx hb dX12_mayGo_51 (by decide) (fun c62 => ?_) (fun c62 => ?_)
      · have ic62 : z61.toInt ≠ z32.toInt := zi_ne rfl rfl c62
        refine lv_iconst (v := 0) hx hb dX12_mayGo_99 (by decide) ?_
        refine lv_istore (lv' := [(5, .int 0), (7, .int z58), (6, .int w33), (4, .int z32), (0, .ref h0), (1, .int a), (2, .int us), (3, .int u)]) hx hb dX12_mayGo_100 hl (by decide) rfl (fun ls hl => ?_)
        obtain ⟨z63, ez63⟩ : ∃ y : Int32, y = w33 + 1 := ⟨_, rfl⟩
        refine lv_iinc (v := z63) (lv' := [(6, .int z63), (5, .int 0), (7, .int z58), (4, .int z32), (0, .ref h0), (1, .int a), (2, .int us), (3, .int u)]) hx hb dX12_mayGo_102 hl (k := 2) rfl (by rw [ez63]; rfl) (by decide) rfl (fun ls hl => ?_)
        have iz63 : z63.toInt = w33.toInt + 1 := zi_add ez63 rfl rfl (by omega) (by omega)
        refine lv_goto (tgt := 16) hx hb dX12_mayGo_105 (by decide) ?_
        exact ih35 _ _ _ _ (by rw [hn36]; omega) ⟨z63, 0, rfl, (by have : (0 : Int32).toInt = 0 := rfl; omega), (by have : (0 : Int32).toInt = 0 := rfl; omega), rfl, rfl, lv_sub hl [0, 1, 3, 4, 5, 6, 7] rfl⟩
      · have ic62 : z61.toInt = z32.toInt := zi_nef rfl rfl c62
        refine lv_aload_n hx hb dX12_mayGo_54 rfl (lv_at hl 4 rfl) ?_
        refine va_get (D := (dC, dI)) (ci := 12) (v := .ref (ρ h0 2)) (C := RX12) (T := TX12) (N := 53) hx hb hts hfX12 hown hK hP q29 eq29 rfl 2 (by decide) (hts (.fieldLink RX12 7 "ColdShipsModel" "row" "[I") wa_148) (fun _ h9 => h9) rfl dX12_mayGo_55 ?_
        refine lv_iload hx hb dX12_mayGo_58 (lv_at hl 0 rfl) ?_
        refine lv_iconst (v := 1) hx hb dX12_mayGo_60 (by decide) ?_
        refine lv_iadd hx hb dX12_mayGo_61 ?_
        refine lv_topi (fun z64 ez64 => ?_)
        have iz64 : z64.toInt = z58.toInt + 1 := zi_add ez64 rfl rfl (by omega) (by omega)
        refine va_iald hx hb hK hP q31 0 eq31 rfl (vp_in_iff.mpr ⟨by omega, by omega⟩) dX12_mayGo_62 ?_
        refine lv_topi (fun z65 ez65 => ?_)
        refine lv_iload_n hx hb dX12_mayGo_63 rfl (lv_at hl 5 rfl) ?_
        refine lv_icmp_ne (tgt := 99) hx hb dX12_mayGo_64 (by decide) (fun c66 => ?_) (fun c66 => ?_)
        · have ic66 : z65.toInt ≠ a.toInt := zi_ne rfl rfl c66
          refine lv_iconst (v := 0) hx hb dX12_mayGo_99 (by decide) ?_
          refine lv_istore (lv' := [(5, .int 0), (7, .int z58), (6, .int w33), (4, .int z32), (0, .ref h0), (1, .int a), (2, .int us), (3, .int u)]) hx hb dX12_mayGo_100 hl (by decide) rfl (fun ls hl => ?_)
          obtain ⟨z67, ez67⟩ : ∃ y : Int32, y = w33 + 1 := ⟨_, rfl⟩
          refine lv_iinc (v := z67) (lv' := [(6, .int z67), (5, .int 0), (7, .int z58), (4, .int z32), (0, .ref h0), (1, .int a), (2, .int us), (3, .int u)]) hx hb dX12_mayGo_102 hl (k := 2) rfl (by rw [ez67]; rfl) (by decide) rfl (fun ls hl => ?_)
          have iz67 : z67.toInt = w33.toInt + 1 := zi_add ez67 rfl rfl (by omega) (by omega)
          refine lv_goto (tgt := 16) hx hb dX12_mayGo_105 (by decide) ?_
          exact ih35 _ _ _ _ (by rw [hn36]; omega) ⟨z67, 0, rfl, (by have : (0 : Int32).toInt = 0 := rfl; omega), (by have : (0 : Int32).toInt = 0 := rfl; omega), rfl, rfl, lv_sub hl [0, 1, 3, 4, 5, 6, 7] rfl⟩
        · have ic66 : z65.toInt = a.toInt := zi_nef rfl rfl c66
          refine lv_iload_n hx hb dX12_mayGo_67 rfl (lv_at hl 7 rfl) ?_
          refine lv_i2l hx hb dX12_mayGo_68 rfl ?_
          refine lv_aload_n hx hb dX12_mayGo_69 rfl (lv_at hl 4 rfl) ?_
          refine va_get (D := (dC, dI)) (ci := 12) (v := .ref (ρ h0 2)) (C := RX12) (T := TX12) (N := 53) hx hb hts hfX12 hown hK hP q29 eq29 rfl 2 (by decide) (hts (.fieldLink RX12 7 "ColdShipsModel" "row" "[I") wa_148) (fun _ h9 => h9) rfl dX12_mayGo_70 ?_
          refine lv_iload hx hb dX12_mayGo_73 (lv_at hl 0 rfl) ?_
          refine lv_iconst (v := 2) hx hb dX12_mayGo_75 (by decide) ?_
          refine lv_iadd hx hb dX12_mayGo_76 ?_
          refine lv_topi (fun z68 ez68 => ?_)
          have iz68 : z68.toInt = z58.toInt + 2 := zi_add ez68 rfl rfl (by omega) (by omega)
          refine va_iald hx hb hK hP q31 0 eq31 rfl (vp_in_iff.mpr ⟨by omega, by omega⟩) dX12_mayGo_77 ?_
          refine lv_topi (fun z69 ez69 => ?_)
          refine lv_i2l hx hb dX12_mayGo_78 rfl ?_
          refine lv_aload_n hx hb dX12_mayGo_79 rfl (lv_at hl 4 rfl) ?_
          refine va_get (D := (dC, dI)) (ci := 12) (v := .ref (ρ h0 2)) (C := RX12) (T := TX12) (N := 53) hx hb hts hfX12 hown hK hP q29 eq29 rfl 2 (by decide) (hts (.fieldLink RX12 7 "ColdShipsModel" "row" "[I") wa_148) (fun _ h9 => h9) rfl dX12_mayGo_80 ?_
          refine lv_iload hx hb dX12_mayGo_83 (lv_at hl 0 rfl) ?_
          refine lv_iconst (v := 3) hx hb dX12_mayGo_85 (by decide) ?_
          refine lv_iadd hx hb dX12_mayGo_86 ?_
          refine lv_topi (fun z70 ez70 => ?_)
          have iz70 : z70.toInt = z58.toInt + 3 := zi_add ez70 rfl rfl (by omega) (by omega)
          refine va_iald hx hb hK hP q31 0 eq31 rfl (vp_in_iff.mpr ⟨by omega, by omega⟩) dX12_mayGo_87 ?_
          refine lv_topi (fun z71 ez71 => ?_)
          refine lv_i2l hx hb dX12_mayGo_88 rfl ?_
          refine pz_calli (va_runS (As := [.long u.toInt64, .long z69.toInt64, .long z71.toInt64]) (rest := []) ⟨hx, hb, hml, hown, hts⟩ (t_X12_in l dC dI _ u.toInt64 z69.toInt64 z71.toInt64 (u.toInt) (z69.toInt) (z71.toInt) (Int32.toInt_toInt64 u) (Int32.toInt_toInt64 z69) (Int32.toInt_toInt64 z71)) (va_cwS 3 hts gX12_mayGo_X12_in rfl rfl rfl pd_X12_in ⟨Nat.le_of_ble_eq_true rfl, Nat.le_of_ble_eq_true rfl⟩) ⟨pz_blind, pz_pre pz_P0 (hK.sub (tys' := []) [] rfl) (pz_D0 (A := fun _ => True)) hN⟩ rfl rfl hl.1 rfl (lv_room (Nat.le_of_ble_eq_true rfl)) dX12_mayGo_89 ⟨Nat.le_of_ble_eq_true rfl, Nat.le_of_ble_eq_true rfl⟩) (fun r72 hw73 => ?_)
          obtain ⟨hw73r, hw73p⟩ := hw73
          refine lv_if_eq (tgt := 99) hx hb dX12_mayGo_92 (by decide) (fun c74 => ?_) (fun c74 => ?_)
          · have ic74 : r72.toInt = 0 := zi_eq rfl rfl c74
            clear hw73r ic74
            refine lv_iconst (v := 0) hx hb dX12_mayGo_99 (by decide) ?_
            refine lv_istore (lv' := [(5, .int 0), (7, .int z58), (6, .int w33), (4, .int z32), (0, .ref h0), (1, .int a), (2, .int us), (3, .int u)]) hx hb dX12_mayGo_100 hl (by decide) rfl (fun ls hl => ?_)
            obtain ⟨z75, ez75⟩ : ∃ y : Int32, y = w33 + 1 := ⟨_, rfl⟩
            refine lv_iinc (v := z75) (lv' := [(6, .int z75), (5, .int 0), (7, .int z58), (4, .int z32), (0, .ref h0), (1, .int a), (2, .int us), (3, .int u)]) hx hb dX12_mayGo_102 hl (k := 2) rfl (by rw [ez75]; rfl) (by decide) rfl (fun ls hl => ?_)
            have iz75 : z75.toInt = w33.toInt + 1 := zi_add ez75 rfl rfl (by omega) (by omega)
            refine lv_goto (tgt := 16) hx hb dX12_mayGo_105 (by decide) ?_
            exact ih35 _ _ _ _ (by rw [hn36]; omega) ⟨z75, 0, rfl, (by have : (0 : Int32).toInt = 0 := rfl; omega), (by have : (0 : Int32).toInt = 0 := rfl; omega), rfl, rfl, lv_sub hl [0, 1, 3, 4, 5, 6, 7] rfl⟩
          · have ic74 : r72.toInt ≠ 0 := zi_eqf rfl rfl c74
            replace ic74 : 1 ≤ r72.toInt := by omega
            have p76 : (z69.toInt) ≤ (u.toInt) ∧ (u.toInt) ≤ (z71.toInt) := (tp_cond.yes hw73p) (by omega)
            clear hw73r ic74
            refine lv_iconst (v := 1) hx hb dX12_mayGo_95 (by decide) ?_
            refine lv_goto (tgt := 100) hx hb dX12_mayGo_96 (by decide) ?_
            refine lv_istore (lv' := [(5, .int 1), (7, .int z58), (6, .int w33), (4, .int z32), (0, .ref h0), (1, .int a), (2, .int us), (3, .int u)]) hx hb dX12_mayGo_100 hl (by decide) rfl (fun ls hl => ?_)
            obtain ⟨z77, ez77⟩ : ∃ y : Int32, y = w33 + 1 := ⟨_, rfl⟩
            refine lv_iinc (v := z77) (lv' := [(6, .int z77), (5, .int 1), (7, .int z58), (4, .int z32), (0, .ref h0), (1, .int a), (2, .int us), (3, .int u)]) hx hb dX12_mayGo_102 hl (k := 2) rfl (by rw [ez77]; rfl) (by decide) rfl (fun ls hl => ?_)
            have iz77 : z77.toInt = w33.toInt + 1 := zi_add ez77 rfl rfl (by omega) (by omega)
            refine lv_goto (tgt := 16) hx hb dX12_mayGo_105 (by decide) ?_
            exact ih35 _ _ _ _ (by rw [hn36]; omega) ⟨z77, 1, rfl, (by have : (1 : Int32).toInt = 1 := rfl; omega), (by have : (1 : Int32).toInt = 1 := rfl; omega), rfl, rfl, lv_sub hl [0, 1, 3, 4, 5, 6, 7] rfl⟩
set_option maxHeartbeats 4000000 in
set_option maxRecDepth 100000 in
theorem t_X12_toLoad (l : Launch) (dC : Nat → ClassId) (dI : Nat → Nat → Nat) (sz : Nat) (κ : Nat → ClassId) (Θ : Nat → Option Int) (τ ν : Nat → Nat) (ρ : Nat → Nat → Nat) (L : List Nat) (f : Nat → va_E) (hG : tp_G τ ν ρ L) (hT : tp_T (mo_O κ Θ) κ τ ν ρ f) (h0 : Nat) (us : Int32) (x : Int) (b : Int) (qs : Int) (ht_h0 : τ h0 = 13) (hL_us : us.toInt = 547 + 84 * qs) (hq_us : 0 ≤ qs ∧ qs ≤ 5) (hbb : 0 ≤ b ∧ b ≤ 1000) (hJ : mo_RI x b (mo_R (mo_i (f (ρ h0 2))))) (hn1 : qs < (mo_R (mo_i (f (ρ h0 2)))) (1)) : Met l yX12_toLoad wqX12_toLoad ({ frames := 3, cells := 0, slots := 0, locals := 800 }) (va_Pc [.ref h0, .int us] (pz_B dC dI (tp_K κ) (va_pl L f) sz)) (vp_Si (fun r => True ∧ r.toInt ≤ (mo_R (mo_i (f (ρ h0 2)))) (547 + 84 * qs + 7) - (mo_R (mo_i (f (ρ h0 2)))) (547 + 84 * qs + 4))) 0 0 (fun _ => False) := by
  refine Met.ofW (cc := cX12_toLoad) (maxL := 4) (ret := some .int) (by decide) rfl ?_
  intro p e s m args below meth c s₁ B hml hv
  obtain ⟨rfl, hsz, hP, hK, hD0, hN⟩ := hv
  have hx := B.exec
  have hb := B.bytes
  have hr := B.returns
  have hts := fun (w : Cond) (h : w ∈ WALL) => atoms_spec (ws := wqX12_toLoad) B.pre w (List.mem_cons_of_mem _ h)
  have hown : s.vm.findClass RX12 = some m.cls := findClass_of_methodNamed B.named
  have hlocks := B.notSynchronized
  subst hsz
  have hD := hD0
  have hS : va_S (fun _ => True) s.heap s.heap [] := va_S.rf
  have hl := lv_entry ([.ref h0, .int us]) (n := 4) (Nat.le_of_ble_eq_true rfl)
  rw [lg_entry_eq]
  generalize (lg_sl ([.ref h0, .int us]) ++ List.replicate (4 - (lg_sl ([.ref h0, .int us])).length) Slot.unset).toArray = ls at hl ⊢
  have hl : lv_has ls 4 [(0, .ref h0), (1, .int us)] := hl
  refine tgk_13 hG ht_h0 (fun y1 y2 y3 y4 y5 y6 y7 y8 y9 y10 y11 y12 y13 y14 y15 y16 y17 y18 y19 y20 y21 y22 y23 y24 y25 => ?_)
  refine tpk_32 hT y1 (fun g27 hf_o26 => ?_)
  have hI : mo_RI x b (mo_R g27) := by have q9 := hJ; rw [hf_o26, mo_i1] at q9; exact q9
  rw [hf_o26, mo_i1] at hn1
  obtain ⟨n1, en1⟩ : ∃ n : Int, n = mo_R g27 (1) := ⟨_, rfl⟩
  have kn1 := hI.k1
  obtain ⟨n11, en11⟩ : ∃ n : Int, n = mo_R g27 (11) := ⟨_, rfl⟩
  have kn11 := hI.k11
  refine lv_aload_n hx hb dX12_toLoad_0 rfl (lv_at hl 0 rfl) ?_
  refine tpk_13 hT ht_h0 (fun o28_x0 o28_x1 o28_x7 o28_x9 o28_x10 o28_x11 o28_x12 o28_x13 o28_x14 o28_x15 o28_x16 o28_x17 o28_x18 o28_x19 o28_x20 o28_x22 o28_x25 o28_x28 o28_x29 o28_x32 o28_x33 o28_x34 o28_x35 o28_x36 o28_x37 o28_x38 o28_x47 o28_x48 hf_o28 ro28_0 ro28_1 ro28_2 ro28_3 ro28_4 ro28_5 ro28_6 ro28_7 ro28_8 ro28_9 ro28_10 ro28_11 ro28_12 ro28_13 ro28_14 => ?_)
  refine tpk_pos (tp_in hG ht_h0 (by decide)) hf_o28 (fun q29 eq29 => ?_)
  refine va_get (D := (dC, dI)) (ci := 12) (v := .ref (ρ h0 2)) (C := RX12) (T := TX12) (N := 53) hx hb hts hfX12 hown hK hP q29 eq29 rfl 2 (by decide) (hts (.fieldLink RX12 7 "ColdShipsModel" "row" "[I") wa_148) (fun _ h9 => h9) rfl dX12_toLoad_1 ?_
  refine lv_iload_n hx hb dX12_toLoad_4 rfl (lv_at hl 1 rfl) ?_
  refine lv_iconst (v := 0) hx hb dX12_toLoad_5 (by decide) ?_
  refine lv_iadd hx hb dX12_toLoad_6 ?_
  refine lv_topi (fun z30 ez30 => ?_)
  have iz30 : z30.toInt = us.toInt + 0 := zi_add ez30 rfl rfl (by omega) (by omega)
  refine tpk_pos (tp_in hG y1 (by decide)) hf_o26 (fun q31 eq31 => ?_)
  refine va_iald hx hb hK hP q31 0 eq31 rfl (vp_in_iff.mpr ⟨by omega, by omega⟩) dX12_toLoad_7 ?_
  refine lv_topi (fun z32 ez32 => ?_)
  have jz32 : z32.toInt = mo_R g27 (547 + 84 * qs + 0) := mo_rd ez32 (by omega)
  have kz32 := hI.SA (s := qs) (by omega) (by omega)
  refine pz_calli (va_runS (As := [.int z32]) (rest := []) ⟨hx, hb, hml, hown, hts⟩ (t_X12_terminalAt l dC dI _ z32 (z32.toInt) (by omega) rfl) (va_cwS 1 hts gX12_toLoad_X12_terminalAt rfl rfl rfl pd_X12_terminalAt ⟨Nat.le_of_ble_eq_true rfl, Nat.le_of_ble_eq_true rfl⟩) ⟨pz_blind, pz_pre pz_P0 (hK.sub (tys' := []) [] rfl) (pz_D0 (A := fun _ => True)) hN⟩ rfl rfl hl.1 rfl (lv_room (Nat.le_of_ble_eq_true rfl)) dX12_toLoad_8 ⟨Nat.le_of_ble_eq_true rfl, Nat.le_of_ble_eq_true rfl⟩) (fun r33 hw34 => ?_)
  obtain ⟨hw34r, hw34p⟩ := hw34
  refine lv_istore_n (lv' := [(2, .int r33), (0, .ref h0), (1, .int us)]) hx hb dX12_toLoad_11 rfl hl (by decide) rfl (fun ls hl => ?_)
  refine lv_aload_n hx hb dX12_toLoad_12 rfl (lv_at hl 1 rfl) ?_
  refine va_get (D := (dC, dI)) (ci := 12) (v := .ref (ρ h0 2)) (C := RX12) (T := TX12) (N := 53) hx hb hts hfX12 hown hK hP q29 eq29 rfl 2 (by decide) (hts (.fieldLink RX12 7 "ColdShipsModel" "row" "[I") wa_148) (fun _ h9 => h9) rfl dX12_toLoad_13 ?_
  refine lv_iload_n hx hb dX12_toLoad_16 rfl (lv_at hl 0 rfl) ?_
  refine lv_iconst (v := 2) hx hb dX12_toLoad_17 (by decide) ?_
  refine lv_iadd hx hb dX12_toLoad_18 ?_
  refine lv_topi (fun z35 ez35 => ?_)
  have iz35 : z35.toInt = r33.toInt + 2 := zi_add ez35 rfl rfl (by omega) (by omega)
  refine va_iald hx hb hK hP q31 0 eq31 rfl (vp_in_iff.mpr ⟨by omega, by omega⟩) dX12_toLoad_19 ?_
  refine lv_topi (fun z36 ez36 => ?_)
  refine lv_istore_n (lv' := [(3, .int z36), (2, .int r33), (0, .ref h0), (1, .int us)]) hx hb dX12_toLoad_20 rfl hl (by decide) rfl (fun ls hl => ?_)
  refine lv_aload_n hx hb dX12_toLoad_21 rfl (lv_at hl 2 rfl) ?_
  refine va_get (D := (dC, dI)) (ci := 12) (v := .ref (ρ h0 2)) (C := RX12) (T := TX12) (N := 53) hx hb hts hfX12 hown hK hP q29 eq29 rfl 2 (by decide) (hts (.fieldLink RX12 7 "ColdShipsModel" "row" "[I") wa_148) (fun _ h9 => h9) rfl dX12_toLoad_22 ?_
  refine lv_iload_n hx hb dX12_toLoad_25 rfl (lv_at hl 3 rfl) ?_
  refine lv_bipush (v := 6) hx hb dX12_toLoad_26 (by decide) ?_
  refine lv_iadd hx hb dX12_toLoad_28 ?_
  refine lv_topi (fun z37 ez37 => ?_)
  have iz37 : z37.toInt = us.toInt + 6 := zi_add ez37 rfl rfl (by omega) (by omega)
  refine va_iald hx hb hK hP q31 0 eq31 rfl (vp_in_iff.mpr ⟨by omega, by omega⟩) dX12_toLoad_29 ?_
  refine lv_topi (fun z38 ez38 => ?_)
  refine lv_sipush (v := 200) hx hb dX12_toLoad_30 (by decide) ?_
  refine tp_join 49 (fun H locs ls stk => ∃ w39 : Int32, stk = [] ∧ H = s.heap ∧ locs = [] ∧ lv_has ls 4 [(3, .int w39), (2, .int r33), (0, .ref h0), (1, .int us)]) ?_ (fun hj40 => ?_)
  · intro H locs ls stk hI
    refine Exists.elim hI (fun w39 hE90 => tn_4 hE90 (fun e90 e91 e92 hl => ?_))
    clear hE90 hI; subst e90; subst e91; subst e92
    refine lv_iload_n hx hb dX12_toLoad_49 rfl (lv_at hl 0 rfl) ?_
    refine lv_aload_n hx hb dX12_toLoad_50 rfl (lv_at hl 2 rfl) ?_
    refine va_get (D := (dC, dI)) (ci := 12) (v := .ref (ρ h0 2)) (C := RX12) (T := TX12) (N := 53) hx hb hts hfX12 hown hK hP q29 eq29 rfl 2 (by decide) (hts (.fieldLink RX12 7 "ColdShipsModel" "row" "[I") wa_148) (fun _ h9 => h9) rfl dX12_toLoad_51 ?_
    refine lv_iload_n hx hb dX12_toLoad_54 rfl (lv_at hl 3 rfl) ?_
    refine lv_bipush (v := 11) hx hb dX12_toLoad_55 (by decide) ?_
    refine lv_iadd hx hb dX12_toLoad_57 ?_
    refine lv_topi (fun z41 ez41 => ?_)
    have iz41 : z41.toInt = us.toInt + 11 := zi_add ez41 rfl rfl (by omega) (by omega)
    refine va_iald hx hb hK hP q31 0 eq31 rfl (vp_in_iff.mpr ⟨by omega, by omega⟩) dX12_toLoad_58 ?_
    refine lv_topi (fun z42 ez42 => ?_)
    refine pz_calli (va_runS (As := [.int w39, .int z42]) (rest := []) ⟨hx, hb, hml, hown, hts⟩ (t_X12_lesser l dC dI _ w39 z42 (w39.toInt) (z42.toInt) rfl rfl) (va_cwS 2 hts gX12_toLoad_X12_lesser rfl rfl rfl pd_X12_lesser ⟨Nat.le_of_ble_eq_true rfl, Nat.le_of_ble_eq_true rfl⟩) ⟨pz_blind, pz_pre pz_P0 (hK.sub (tys' := []) [] rfl) (pz_D0 (A := fun _ => True)) hN⟩ rfl rfl hl.1 rfl (lv_room (Nat.le_of_ble_eq_true rfl)) dX12_toLoad_59 ⟨Nat.le_of_ble_eq_true rfl, Nat.le_of_ble_eq_true rfl⟩) (fun r43 hw44 => ?_)
    obtain ⟨hw44r, hw44p⟩ := hw44
    refine lv_aload_n hx hb dX12_toLoad_62 rfl (lv_at hl 2 rfl) ?_
    refine va_get (D := (dC, dI)) (ci := 12) (v := .ref (ρ h0 2)) (C := RX12) (T := TX12) (N := 53) hx hb hts hfX12 hown hK hP q29 eq29 rfl 2 (by decide) (hts (.fieldLink RX12 7 "ColdShipsModel" "row" "[I") wa_148) (fun _ h9 => h9) rfl dX12_toLoad_63 ?_
    refine lv_iload_n hx hb dX12_toLoad_66 rfl (lv_at hl 1 rfl) ?_
    refine va_iald hx hb hK hP q31 0 eq31 rfl (vp_in_iff.mpr ⟨by omega, by omega⟩) dX12_toLoad_67 ?_
    refine lv_topi (fun z45 ez45 => ?_)
    refine lv_aload_n hx hb dX12_toLoad_68 rfl (lv_at hl 2 rfl) ?_
    refine lv_iload_n hx hb dX12_toLoad_69 rfl (lv_at hl 3 rfl) ?_
    refine pz_calli (va_runV (As := [.int us]) (rest := [.int z45, .int r43]) ⟨hx, hb, hml, hown, hts⟩ (t_X12_topOf l dC dI _ κ Θ τ ν ρ L f hG hT h0 us x b qs ht_h0 (by omega) (by omega) (by omega) (by rw [hf_o26, mo_i1]; exact hI) (by first | (simp only [hf_o26, mo_i1]; omega) | (simp only [hf_o26, mo_i1]; trivial) | (simp only [hf_o26, mo_i1]; done) | omega)) (cwV 1 hts gX12_toLoad_X12_topOf rfl rfl rfl ⟨rfl, pd_X12_topOf⟩ ⟨Nat.le_of_ble_eq_true rfl, Nat.le_of_ble_eq_true rfl⟩) ⟨pz_blind, va_recv hK hP (ci := 12) (q0 := q29) rfl eq29, pz_pre hP hK hD hN⟩ rfl rfl hl.1 rfl (lv_room (Nat.le_of_ble_eq_true rfl)) dX12_toLoad_70 ⟨Nat.le_of_ble_eq_true rfl, Nat.le_of_ble_eq_true rfl⟩) (fun r46 hw47 => ?_)
    obtain ⟨hw47r, hw47p⟩ := hw47
    rw [hf_o26, mo_i1] at hw47p
    refine lv_aload_n hx hb dX12_toLoad_73 rfl (lv_at hl 2 rfl) ?_
    refine va_get (D := (dC, dI)) (ci := 12) (v := .ref (ρ h0 2)) (C := RX12) (T := TX12) (N := 53) hx hb hts hfX12 hown hK hP q29 eq29 rfl 2 (by decide) (hts (.fieldLink RX12 7 "ColdShipsModel" "row" "[I") wa_148) (fun _ h9 => h9) rfl dX12_toLoad_74 ?_
    refine lv_iload_n hx hb dX12_toLoad_77 rfl (lv_at hl 3 rfl) ?_
    refine lv_iconst (v := 4) hx hb dX12_toLoad_78 (by decide) ?_
    refine lv_iadd hx hb dX12_toLoad_79 ?_
    refine lv_topi (fun z48 ez48 => ?_)
    have iz48 : z48.toInt = us.toInt + 4 := zi_add ez48 rfl rfl (by omega) (by omega)
    refine va_iald hx hb hK hP q31 0 eq31 rfl (vp_in_iff.mpr ⟨by omega, by omega⟩) dX12_toLoad_80 ?_
    refine lv_topi (fun z49 ez49 => ?_)
    have := hI.GC (s := qs) (by omega) (by omega)
    have jz49 : z49.toInt = mo_R g27 (547 + 84 * qs + 4) := mo_rd ez49 (by omega)
    have kz49 := hI.GG (s := qs) (by omega) (by omega)
    refine lv_isub hx hb dX12_toLoad_81 ?_
    refine lv_topi (fun z50 ez50 => ?_)
    have iz50 : z50.toInt = r46.toInt - z49.toInt := zi_sub ez50 rfl rfl (by omega) (by omega)
    refine pz_calli (va_runS (As := [.int z45, .int z50]) (rest := [.int r43]) ⟨hx, hb, hml, hown, hts⟩ (t_X12_lesser l dC dI _ z45 z50 (z45.toInt) (z50.toInt) rfl rfl) (va_cwS 2 hts gX12_toLoad_X12_lesser rfl rfl rfl pd_X12_lesser ⟨Nat.le_of_ble_eq_true rfl, Nat.le_of_ble_eq_true rfl⟩) ⟨pz_blind, pz_pre pz_P0 (hK.sub (tys' := []) [] rfl) (pz_D0 (A := fun _ => True)) hN⟩ rfl rfl hl.1 rfl (lv_room (Nat.le_of_ble_eq_true rfl)) dX12_toLoad_82 ⟨Nat.le_of_ble_eq_true rfl, Nat.le_of_ble_eq_true rfl⟩) (fun r51 hw52 => ?_)
    obtain ⟨hw52r, hw52p⟩ := hw52
    refine pz_calli (va_runS (As := [.int r43, .int r51]) (rest := []) ⟨hx, hb, hml, hown, hts⟩ (t_X12_lesser l dC dI _ r43 r51 (r43.toInt) (r51.toInt) rfl rfl) (va_cwS 2 hts gX12_toLoad_X12_lesser rfl rfl rfl pd_X12_lesser ⟨Nat.le_of_ble_eq_true rfl, Nat.le_of_ble_eq_true rfl⟩) ⟨pz_blind, pz_pre pz_P0 (hK.sub (tys' := []) [] rfl) (pz_D0 (A := fun _ => True)) hN⟩ rfl rfl hl.1 rfl (lv_room (Nat.le_of_ble_eq_true rfl)) dX12_toLoad_85 ⟨Nat.le_of_ble_eq_true rfl, Nat.le_of_ble_eq_true rfl⟩) (fun r53 hw54 => ?_)
    obtain ⟨hw54r, hw54p⟩ := hw54
    exact W.iret (v := r53) hx hb hr (fun t ht hW => ⟨r53, rfl, ⟨trivial, (by first | (simp only [hf_o26, mo_i1]; omega) | (simp only [hf_o26, mo_i1]; trivial) | (simp only [hf_o26, mo_i1]; done) | omega)⟩, ht⟩) (fun _ h => by cases h) dX12_toLoad_88
  · refine lv_icmp_le (tgt := 49) hx hb dX12_toLoad_33 (by decide) (fun c55 => ?_) (fun c55 => ?_)
    · have ic55 : z38.toInt ≤ 200 := zi_le rfl rfl c55
      exact hj40 _ _ _ _ ⟨z36, rfl, rfl, rfl, lv_sub hl [0, 1, 2, 3] rfl⟩
    · have ic55 : z38.toInt > 200 := zi_lef rfl rfl c55
      refine lv_iload_n hx hb dX12_toLoad_36 rfl (lv_at hl 0 rfl) ?_
      refine lv_iconst (v := 4) hx hb dX12_toLoad_37 (by decide) ?_
      refine lv_icmp_ge (tgt := 45) hx hb dX12_toLoad_38 (by decide) (fun c56 => ?_) (fun c56 => ?_)
      · have ic56 : z36.toInt ≥ 4 := zi_ge rfl rfl c56
        refine lv_iload_n hx hb dX12_toLoad_45 rfl (lv_at hl 0 rfl) ?_
        refine lv_iconst (v := 4) hx hb dX12_toLoad_46 (by decide) ?_
        refine lv_idiv hx hb dX12_toLoad_47 (by decide) ?_
        refine lv_topi (fun z57 ez57 => ?_)
        have iz57 : z57.toInt = z36.toInt / 4 := zi_div ez57 rfl (show (4 : Int32).toInt = 4 from rfl) (by omega) (by omega)
        refine lv_istore_n (lv' := [(3, .int z57), (2, .int r33), (0, .ref h0), (1, .int us)]) hx hb dX12_toLoad_48 rfl hl (by decide) rfl (fun ls hl => ?_)
        exact hj40 _ _ _ _ ⟨z57, rfl, rfl, rfl, lv_sub hl [0, 1, 2, 3] rfl⟩
      · have ic56 : z36.toInt < 4 := zi_gef rfl rfl c56
        refine lv_iconst (v := 1) hx hb dX12_toLoad_41 (by decide) ?_
        refine lv_goto (tgt := 48) hx hb dX12_toLoad_42 (by decide) ?_
        refine lv_istore_n (lv' := [(3, .int 1), (2, .int r33), (0, .ref h0), (1, .int us)]) hx hb dX12_toLoad_48 rfl hl (by decide) rfl (fun ls hl => ?_)
        exact hj40 _ _ _ _ ⟨1, rfl, rfl, rfl, lv_sub hl [0, 1, 2, 3] rfl⟩
set_option maxHeartbeats 4000000 in
set_option maxRecDepth 100000 in
theorem t_X12_toLand (l : Launch) (dC : Nat → ClassId) (dI : Nat → Nat → Nat) (sz : Nat) (κ : Nat → ClassId) (Θ : Nat → Option Int) (τ ν : Nat → Nat) (ρ : Nat → Nat → Nat) (L : List Nat) (f : Nat → va_E) (hG : tp_G τ ν ρ L) (hT : tp_T (mo_O κ Θ) κ τ ν ρ f) (h0 : Nat) (us : Int32) (x : Int) (b : Int) (qs : Int) (ht_h0 : τ h0 = 13) (hL_us : us.toInt = 547 + 84 * qs) (hq_us : 0 ≤ qs ∧ qs ≤ 5) (hbb : 0 ≤ b ∧ b ≤ 1000) (hJ : mo_RI x b (mo_R (mo_i (f (ρ h0 2))))) (hn1 : qs < (mo_R (mo_i (f (ρ h0 2)))) (1)) : Met l yX12_toLand wqX12_toLand ({ frames := 3, cells := 0, slots := 0, locals := 800 }) (va_Pc [.ref h0, .int us] (pz_B dC dI (tp_K κ) (va_pl L f) sz)) (vp_Si (fun r => True ∧ r.toInt ≤ (mo_R (mo_i (f (ρ h0 2)))) (547 + 84 * qs + 4))) 0 0 (fun _ => False) := by
  refine Met.ofW (cc := cX12_toLand) (maxL := 3) (ret := some .int) (by decide) rfl ?_
  intro p e s m args below meth c s₁ B hml hv
  obtain ⟨rfl, hsz, hP, hK, hD0, hN⟩ := hv
  have hx := B.exec
  have hb := B.bytes
  have hr := B.returns
  have hts := fun (w : Cond) (h : w ∈ WALL) => atoms_spec (ws := wqX12_toLand) B.pre w (List.mem_cons_of_mem _ h)
  have hown : s.vm.findClass RX12 = some m.cls := findClass_of_methodNamed B.named
  have hlocks := B.notSynchronized
  subst hsz
  have hD := hD0
  have hS : va_S (fun _ => True) s.heap s.heap [] := va_S.rf
  have hl := lv_entry ([.ref h0, .int us]) (n := 3) (Nat.le_of_ble_eq_true rfl)
  rw [lg_entry_eq]
  generalize (lg_sl ([.ref h0, .int us]) ++ List.replicate (3 - (lg_sl ([.ref h0, .int us])).length) Slot.unset).toArray = ls at hl ⊢
  have hl : lv_has ls 3 [(0, .ref h0), (1, .int us)] := hl
  refine tgk_13 hG ht_h0 (fun y1 y2 y3 y4 y5 y6 y7 y8 y9 y10 y11 y12 y13 y14 y15 y16 y17 y18 y19 y20 y21 y22 y23 y24 y25 => ?_)
  refine tpk_32 hT y1 (fun g27 hf_o26 => ?_)
  have hI : mo_RI x b (mo_R g27) := by have q9 := hJ; rw [hf_o26, mo_i1] at q9; exact q9
  rw [hf_o26, mo_i1] at hn1
  obtain ⟨n1, en1⟩ : ∃ n : Int, n = mo_R g27 (1) := ⟨_, rfl⟩
  have kn1 := hI.k1
  obtain ⟨n11, en11⟩ : ∃ n : Int, n = mo_R g27 (11) := ⟨_, rfl⟩
  have kn11 := hI.k11
  refine lv_aload_n hx hb dX12_toLand_0 rfl (lv_at hl 0 rfl) ?_
  refine tpk_13 hT ht_h0 (fun o28_x0 o28_x1 o28_x7 o28_x9 o28_x10 o28_x11 o28_x12 o28_x13 o28_x14 o28_x15 o28_x16 o28_x17 o28_x18 o28_x19 o28_x20 o28_x22 o28_x25 o28_x28 o28_x29 o28_x32 o28_x33 o28_x34 o28_x35 o28_x36 o28_x37 o28_x38 o28_x47 o28_x48 hf_o28 ro28_0 ro28_1 ro28_2 ro28_3 ro28_4 ro28_5 ro28_6 ro28_7 ro28_8 ro28_9 ro28_10 ro28_11 ro28_12 ro28_13 ro28_14 => ?_)
  refine tpk_pos (tp_in hG ht_h0 (by decide)) hf_o28 (fun q29 eq29 => ?_)
  refine va_get (D := (dC, dI)) (ci := 12) (v := .ref (ρ h0 2)) (C := RX12) (T := TX12) (N := 53) hx hb hts hfX12 hown hK hP q29 eq29 rfl 2 (by decide) (hts (.fieldLink RX12 7 "ColdShipsModel" "row" "[I") wa_148) (fun _ h9 => h9) rfl dX12_toLand_1 ?_
  refine lv_iload_n hx hb dX12_toLand_4 rfl (lv_at hl 1 rfl) ?_
  refine lv_iconst (v := 0) hx hb dX12_toLand_5 (by decide) ?_
  refine lv_iadd hx hb dX12_toLand_6 ?_
  refine lv_topi (fun z30 ez30 => ?_)
  have iz30 : z30.toInt = us.toInt + 0 := zi_add ez30 rfl rfl (by omega) (by omega)
  refine tpk_pos (tp_in hG y1 (by decide)) hf_o26 (fun q31 eq31 => ?_)
  refine va_iald hx hb hK hP q31 0 eq31 rfl (vp_in_iff.mpr ⟨by omega, by omega⟩) dX12_toLand_7 ?_
  refine lv_topi (fun z32 ez32 => ?_)
  have jz32 : z32.toInt = mo_R g27 (547 + 84 * qs + 0) := mo_rd ez32 (by omega)
  have kz32 := hI.SA (s := qs) (by omega) (by omega)
  refine pz_calli (va_runS (As := [.int z32]) (rest := []) ⟨hx, hb, hml, hown, hts⟩ (t_X12_terminalAt l dC dI _ z32 (z32.toInt) (by omega) rfl) (va_cwS 1 hts gX12_toLand_X12_terminalAt rfl rfl rfl pd_X12_terminalAt ⟨Nat.le_of_ble_eq_true rfl, Nat.le_of_ble_eq_true rfl⟩) ⟨pz_blind, pz_pre pz_P0 (hK.sub (tys' := []) [] rfl) (pz_D0 (A := fun _ => True)) hN⟩ rfl rfl hl.1 rfl (lv_room (Nat.le_of_ble_eq_true rfl)) dX12_toLand_8 ⟨Nat.le_of_ble_eq_true rfl, Nat.le_of_ble_eq_true rfl⟩) (fun r33 hw34 => ?_)
  obtain ⟨hw34r, hw34p⟩ := hw34
  refine lv_istore_n (lv' := [(2, .int r33), (0, .ref h0), (1, .int us)]) hx hb dX12_toLand_11 rfl hl (by decide) rfl (fun ls hl => ?_)
  refine lv_aload_n hx hb dX12_toLand_12 rfl (lv_at hl 1 rfl) ?_
  refine va_get (D := (dC, dI)) (ci := 12) (v := .ref (ρ h0 2)) (C := RX12) (T := TX12) (N := 53) hx hb hts hfX12 hown hK hP q29 eq29 rfl 2 (by decide) (hts (.fieldLink RX12 7 "ColdShipsModel" "row" "[I") wa_148) (fun _ h9 => h9) rfl dX12_toLand_13 ?_
  refine lv_iload_n hx hb dX12_toLand_16 rfl (lv_at hl 0 rfl) ?_
  refine lv_iconst (v := 2) hx hb dX12_toLand_17 (by decide) ?_
  refine lv_iadd hx hb dX12_toLand_18 ?_
  refine lv_topi (fun z35 ez35 => ?_)
  have iz35 : z35.toInt = r33.toInt + 2 := zi_add ez35 rfl rfl (by omega) (by omega)
  refine va_iald hx hb hK hP q31 0 eq31 rfl (vp_in_iff.mpr ⟨by omega, by omega⟩) dX12_toLand_19 ?_
  refine lv_topi (fun z36 ez36 => ?_)
  refine lv_aload_n hx hb dX12_toLand_20 rfl (lv_at hl 1 rfl) ?_
  refine va_get (D := (dC, dI)) (ci := 12) (v := .ref (ρ h0 2)) (C := RX12) (T := TX12) (N := 53) hx hb hts hfX12 hown hK hP q29 eq29 rfl 2 (by decide) (hts (.fieldLink RX12 7 "ColdShipsModel" "row" "[I") wa_148) (fun _ h9 => h9) rfl dX12_toLand_21 ?_
  refine lv_iload_n hx hb dX12_toLand_24 rfl (lv_at hl 2 rfl) ?_
  refine lv_bipush (v := 11) hx hb dX12_toLand_25 (by decide) ?_
  refine lv_iadd hx hb dX12_toLand_27 ?_
  refine lv_topi (fun z37 ez37 => ?_)
  have iz37 : z37.toInt = us.toInt + 11 := zi_add ez37 rfl rfl (by omega) (by omega)
  refine va_iald hx hb hK hP q31 0 eq31 rfl (vp_in_iff.mpr ⟨by omega, by omega⟩) dX12_toLand_28 ?_
  refine lv_topi (fun z38 ez38 => ?_)
  refine pz_calli (va_runS (As := [.int z36, .int z38]) (rest := []) ⟨hx, hb, hml, hown, hts⟩ (t_X12_lesser l dC dI _ z36 z38 (z36.toInt) (z38.toInt) rfl rfl) (va_cwS 2 hts gX12_toLand_X12_lesser rfl rfl rfl pd_X12_lesser ⟨Nat.le_of_ble_eq_true rfl, Nat.le_of_ble_eq_true rfl⟩) ⟨pz_blind, pz_pre pz_P0 (hK.sub (tys' := []) [] rfl) (pz_D0 (A := fun _ => True)) hN⟩ rfl rfl hl.1 rfl (lv_room (Nat.le_of_ble_eq_true rfl)) dX12_toLand_29 ⟨Nat.le_of_ble_eq_true rfl, Nat.le_of_ble_eq_true rfl⟩) (fun r39 hw40 => ?_)
  obtain ⟨hw40r, hw40p⟩ := hw40
  refine lv_aload_n hx hb dX12_toLand_32 rfl (lv_at hl 1 rfl) ?_
  refine va_get (D := (dC, dI)) (ci := 12) (v := .ref (ρ h0 2)) (C := RX12) (T := TX12) (N := 53) hx hb hts hfX12 hown hK hP q29 eq29 rfl 2 (by decide) (hts (.fieldLink RX12 7 "ColdShipsModel" "row" "[I") wa_148) (fun _ h9 => h9) rfl dX12_toLand_33 ?_
  refine lv_iload_n hx hb dX12_toLand_36 rfl (lv_at hl 2 rfl) ?_
  refine lv_iconst (v := 4) hx hb dX12_toLand_37 (by decide) ?_
  refine lv_iadd hx hb dX12_toLand_38 ?_
  refine lv_topi (fun z41 ez41 => ?_)
  have iz41 : z41.toInt = us.toInt + 4 := zi_add ez41 rfl rfl (by omega) (by omega)
  refine va_iald hx hb hK hP q31 0 eq31 rfl (vp_in_iff.mpr ⟨by omega, by omega⟩) dX12_toLand_39 ?_
  refine lv_topi (fun z42 ez42 => ?_)
  have := hI.GC (s := qs) (by omega) (by omega)
  have jz42 : z42.toInt = mo_R g27 (547 + 84 * qs + 4) := mo_rd ez42 (by omega)
  have kz42 := hI.GG (s := qs) (by omega) (by omega)
  refine lv_aload_n hx hb dX12_toLand_40 rfl (lv_at hl 1 rfl) ?_
  refine lv_iload_n hx hb dX12_toLand_41 rfl (lv_at hl 2 rfl) ?_
  refine pz_calli (va_runV (As := [.int us]) (rest := [.int z42, .int r39]) ⟨hx, hb, hml, hown, hts⟩ (t_X12_heelOf l dC dI _ κ Θ τ ν ρ L f hG hT h0 us x b qs ht_h0 (by omega) (by omega) (by omega) (by rw [hf_o26, mo_i1]; exact hI) (by first | (simp only [hf_o26, mo_i1]; omega) | (simp only [hf_o26, mo_i1]; trivial) | (simp only [hf_o26, mo_i1]; done) | omega)) (cwV 1 hts gX12_toLand_X12_heelOf rfl rfl rfl ⟨rfl, pd_X12_heelOf⟩ ⟨Nat.le_of_ble_eq_true rfl, Nat.le_of_ble_eq_true rfl⟩) ⟨pz_blind, va_recv hK hP (ci := 12) (q0 := q29) rfl eq29, pz_pre hP hK hD hN⟩ rfl rfl hl.1 rfl (lv_room (Nat.le_of_ble_eq_true rfl)) dX12_toLand_42 ⟨Nat.le_of_ble_eq_true rfl, Nat.le_of_ble_eq_true rfl⟩) (fun r43 hw44 => ?_)
  obtain ⟨hw44r, hw44p⟩ := hw44
  refine lv_isub hx hb dX12_toLand_45 ?_
  refine lv_topi (fun z45 ez45 => ?_)
  have iz45 : z45.toInt = z42.toInt - r43.toInt := zi_sub ez45 rfl rfl (by omega) (by omega)
  refine lv_aload_n hx hb dX12_toLand_46 rfl (lv_at hl 1 rfl) ?_
  refine va_get (D := (dC, dI)) (ci := 12) (v := .ref (ρ h0 2)) (C := RX12) (T := TX12) (N := 53) hx hb hts hfX12 hown hK hP q29 eq29 rfl 2 (by decide) (hts (.fieldLink RX12 7 "ColdShipsModel" "row" "[I") wa_148) (fun _ h9 => h9) rfl dX12_toLand_47 ?_
  refine lv_iload_n hx hb dX12_toLand_50 rfl (lv_at hl 0 rfl) ?_
  refine lv_iconst (v := 1) hx hb dX12_toLand_51 (by decide) ?_
  refine lv_iadd hx hb dX12_toLand_52 ?_
  refine lv_topi (fun z46 ez46 => ?_)
  have iz46 : z46.toInt = r33.toInt + 1 := zi_add ez46 rfl rfl (by omega) (by omega)
  refine va_iald hx hb hK hP q31 0 eq31 rfl (vp_in_iff.mpr ⟨by omega, by omega⟩) dX12_toLand_53 ?_
  refine lv_topi (fun z47 ez47 => ?_)
  refine lv_aload_n hx hb dX12_toLand_54 rfl (lv_at hl 1 rfl) ?_
  refine va_get (D := (dC, dI)) (ci := 12) (v := .ref (ρ h0 2)) (C := RX12) (T := TX12) (N := 53) hx hb hts hfX12 hown hK hP q29 eq29 rfl 2 (by decide) (hts (.fieldLink RX12 7 "ColdShipsModel" "row" "[I") wa_148) (fun _ h9 => h9) rfl dX12_toLand_55 ?_
  refine lv_iload_n hx hb dX12_toLand_58 rfl (lv_at hl 0 rfl) ?_
  refine va_iald hx hb hK hP q31 0 eq31 rfl (vp_in_iff.mpr ⟨by omega, by omega⟩) dX12_toLand_59 ?_
  refine lv_topi (fun z48 ez48 => ?_)
  refine lv_isub hx hb dX12_toLand_60 ?_
  refine lv_topi (fun z49 ez49 => ?_)
  refine pz_calli (va_runS (As := [.int z45, .int z49]) (rest := [.int r39]) ⟨hx, hb, hml, hown, hts⟩ (t_X12_lesser l dC dI _ z45 z49 (z45.toInt) (z49.toInt) rfl rfl) (va_cwS 2 hts gX12_toLand_X12_lesser rfl rfl rfl pd_X12_lesser ⟨Nat.le_of_ble_eq_true rfl, Nat.le_of_ble_eq_true rfl⟩) ⟨pz_blind, pz_pre pz_P0 (hK.sub (tys' := []) [] rfl) (pz_D0 (A := fun _ => True)) hN⟩ rfl rfl hl.1 rfl (lv_room (Nat.le_of_ble_eq_true rfl)) dX12_toLand_61 ⟨Nat.le_of_ble_eq_true rfl, Nat.le_of_ble_eq_true rfl⟩) (fun r50 hw51 => ?_)
  obtain ⟨hw51r, hw51p⟩ := hw51
  refine pz_calli (va_runS (As := [.int r39, .int r50]) (rest := []) ⟨hx, hb, hml, hown, hts⟩ (t_X12_lesser l dC dI _ r39 r50 (r39.toInt) (r50.toInt) rfl rfl) (va_cwS 2 hts gX12_toLand_X12_lesser rfl rfl rfl pd_X12_lesser ⟨Nat.le_of_ble_eq_true rfl, Nat.le_of_ble_eq_true rfl⟩) ⟨pz_blind, pz_pre pz_P0 (hK.sub (tys' := []) [] rfl) (pz_D0 (A := fun _ => True)) hN⟩ rfl rfl hl.1 rfl (lv_room (Nat.le_of_ble_eq_true rfl)) dX12_toLand_64 ⟨Nat.le_of_ble_eq_true rfl, Nat.le_of_ble_eq_true rfl⟩) (fun r52 hw53 => ?_)
  obtain ⟨hw53r, hw53p⟩ := hw53
  exact W.iret (v := r52) hx hb hr (fun t ht hW => ⟨r52, rfl, ⟨trivial, (by first | (simp only [hf_o26, mo_i1]; omega) | (simp only [hf_o26, mo_i1]; trivial) | (simp only [hf_o26, mo_i1]; done) | omega)⟩, ht⟩) (fun _ h => by cases h) dX12_toLand_67
set_option maxHeartbeats 4000000 in
set_option maxRecDepth 100000 in
theorem t_X12_load (l : Launch) (dC : Nat → ClassId) (dI : Nat → Nat → Nat) (sz : Nat) (κ : Nat → ClassId) (Θ : Nat → Option Int) (τ ν : Nat → Nat) (ρ : Nat → Nat → Nat) (L : List Nat) (f : Nat → va_E) (hG : tp_G τ ν ρ L) (hT : tp_T (mo_O κ Θ) κ τ ν ρ f) (h0 : Nat) (us : Int32) (v : Int32) (x : Int) (b : Int) (qs : Int) (ht_h0 : τ h0 = 13) (hL_us : us.toInt = 547 + 84 * qs) (hq_us : 0 ≤ qs ∧ qs ≤ 5) (hbb : 0 ≤ b ∧ b ≤ 1000) (hJ : mo_RI x b (mo_R (mo_i (f (ρ h0 2))))) (hv : 1 ≤ v.toInt ∧ v.toInt ≤ (mo_R (mo_i (f (ρ h0 2)))) (547 + 84 * qs + 7) - (mo_R (mo_i (f (ρ h0 2)))) (547 + 84 * qs + 4)) (hn1 : qs < (mo_R (mo_i (f (ρ h0 2)))) (1)) : Met l yX12_load wqX12_load ({ frames := 3, cells := 0, slots := 0, locals := 800 }) (va_Pc [.ref h0, .int us, .int v] (pz_B dC dI (tp_K κ) (va_pl L f) sz)) (va_Qv (fun (f1 : Nat → va_E) => tp_T (mo_O κ Θ) κ τ ν ρ f1 ∧ tp_F τ [32] f f1 ∧ mo_RI x b (mo_R (mo_i (f1 (ρ h0 2)))) ∧ mo_KN (fun k => False) (mo_R (mo_i (f (ρ h0 2)))) (mo_R (mo_i (f1 (ρ h0 2)))) ∧ (mo_R (mo_i (f1 (ρ h0 2)))) (1) = (mo_R (mo_i (f (ρ h0 2)))) (1) ∧ (mo_R (mo_i (f1 (ρ h0 2)))) (11) = (mo_R (mo_i (f (ρ h0 2)))) (11) ∧ (mo_R (mo_i (f1 (ρ h0 2)))) (547 + 84 * qs + 10) = (mo_R (mo_i (f (ρ h0 2)))) (547 + 84 * qs + 10)) (fun (f1 : Nat → va_E) (t : State) => pz_E dC dI (tp_K κ) (va_A (va_pl L f) sz) (va_pl L f1) t) (va_A (va_pl L f) sz)) 0 0 (va_A (va_pl L f) sz) := by
  refine Met.ofW (cc := cX12_load) (maxL := 3) (ret := none) (by decide) rfl ?_
  intro p e s m args below meth c s₁ B hml hv
  obtain ⟨rfl, hsz, hP, hK, hD0, hN⟩ := hv
  have hx := B.exec
  have hb := B.bytes
  have hr := B.returns
  have hts := fun (w : Cond) (h : w ∈ WALL) => atoms_spec (ws := wqX12_load) B.pre w (List.mem_cons_of_mem _ h)
  have hown : s.vm.findClass RX12 = some m.cls := findClass_of_methodNamed B.named
  have hlocks := B.notSynchronized
  subst hsz
  have hD := hD0.self (sz := s.heap.size)
  generalize hAe : va_A (va_pl L f) s.heap.size = A at hD ⊢
  have hA : ∀ q : Nat, s.heap.size ≤ q → A q := fun q h => by rw [← hAe]; exact Or.inr h
  have hS : va_S A s.heap s.heap [] := va_S.rf
  have hR : tp_F τ [32] f f := tp_F.rf
  have hl := lv_entry ([.ref h0, .int us, .int v]) (n := 3) (Nat.le_of_ble_eq_true rfl)
  rw [lg_entry_eq]
  generalize (lg_sl ([.ref h0, .int us, .int v]) ++ List.replicate (3 - (lg_sl ([.ref h0, .int us, .int v])).length) Slot.unset).toArray = ls at hl ⊢
  have hl : lv_has ls 3 [(0, .ref h0), (1, .int us), (2, .int v)] := hl
  refine tgk_13 hG ht_h0 (fun y1 y2 y3 y4 y5 y6 y7 y8 y9 y10 y11 y12 y13 y14 y15 y16 y17 y18 y19 y20 y21 y22 y23 y24 y25 => ?_)
  refine tpk_32 hT y1 (fun g27 hf_o26 => ?_)
  have hI : mo_RI x b (mo_R g27) := by have q9 := hJ; rw [hf_o26, mo_i1] at q9; exact q9
  rw [hf_o26, mo_i1] at hv
  rw [hf_o26, mo_i1] at hn1
  obtain ⟨n1, en1⟩ : ∃ n : Int, n = mo_R g27 (1) := ⟨_, rfl⟩
  have kn1 := hI.k1
  obtain ⟨n11, en11⟩ : ∃ n : Int, n = mo_R g27 (11) := ⟨_, rfl⟩
  have kn11 := hI.k11
  obtain ⟨ns10, ens10⟩ : ∃ n : Int, n = mo_R g27 (547 + 84 * qs + 10) := ⟨_, rfl⟩
  obtain ⟨ns4, ens4⟩ : ∃ n : Int, n = mo_R g27 (547 + 84 * qs + 4) := ⟨_, rfl⟩
  obtain ⟨ns7, ens7⟩ : ∃ n : Int, n = mo_R g27 (547 + 84 * qs + 7) := ⟨_, rfl⟩
  have hKN : mo_KN (fun k => False) (mo_R g27) (mo_R g27) := mo_KN.rf
  refine lv_aload_n hx hb dX12_load_0 rfl (lv_at hl 0 rfl) ?_
  refine tpk_13 hT ht_h0 (fun o28_x0 o28_x1 o28_x7 o28_x9 o28_x10 o28_x11 o28_x12 o28_x13 o28_x14 o28_x15 o28_x16 o28_x17 o28_x18 o28_x19 o28_x20 o28_x22 o28_x25 o28_x28 o28_x29 o28_x32 o28_x33 o28_x34 o28_x35 o28_x36 o28_x37 o28_x38 o28_x47 o28_x48 hf_o28 ro28_0 ro28_1 ro28_2 ro28_3 ro28_4 ro28_5 ro28_6 ro28_7 ro28_8 ro28_9 ro28_10 ro28_11 ro28_12 ro28_13 ro28_14 => ?_)
  refine tpk_pos (tp_in hG ht_h0 (by decide)) hf_o28 (fun q29 eq29 => ?_)
  refine va_get (D := (dC, dI)) (ci := 12) (v := .ref (ρ h0 2)) (C := RX12) (T := TX12) (N := 53) hx hb hts hfX12 hown hK hP q29 eq29 rfl 2 (by decide) (hts (.fieldLink RX12 7 "ColdShipsModel" "row" "[I") wa_148) (fun _ h9 => h9) rfl dX12_load_1 ?_
  refine lv_aload_n hx hb dX12_load_4 rfl (lv_at hl 0 rfl) ?_
  refine va_get (D := (dC, dI)) (ci := 12) (v := .ref (ρ h0 2)) (C := RX12) (T := TX12) (N := 53) hx hb hts hfX12 hown hK hP q29 eq29 rfl 2 (by decide) (hts (.fieldLink RX12 7 "ColdShipsModel" "row" "[I") wa_148) (fun _ h9 => h9) rfl dX12_load_5 ?_
  refine lv_iload_n hx hb dX12_load_8 rfl (lv_at hl 1 rfl) ?_
  refine lv_iconst (v := 0) hx hb dX12_load_9 (by decide) ?_
  refine lv_iadd hx hb dX12_load_10 ?_
  refine lv_topi (fun z30 ez30 => ?_)
  have iz30 : z30.toInt = us.toInt + 0 := zi_add ez30 rfl rfl (by omega) (by omega)
  refine tpk_pos (tp_in hG y1 (by decide)) hf_o26 (fun q31 eq31 => ?_)
  refine va_iald hx hb hK hP q31 0 eq31 rfl (vp_in_iff.mpr ⟨by omega, by omega⟩) dX12_load_11 ?_
  refine lv_topi (fun z32 ez32 => ?_)
  have jz32 : z32.toInt = mo_R g27 (547 + 84 * qs + 0) := mo_rd ez32 (by omega)
  have kz32 := hI.SA (s := qs) (by omega) (by omega)
  refine pz_calli (va_runS (As := [.int z32]) (rest := [.ref (ρ h0 2)]) ⟨hx, hb, hml, hown, hts⟩ (t_X12_terminalAt l dC dI _ z32 (z32.toInt) (by omega) rfl) (va_cwS 1 hts gX12_load_X12_terminalAt rfl rfl rfl pd_X12_terminalAt ⟨Nat.le_of_ble_eq_true rfl, Nat.le_of_ble_eq_true rfl⟩) ⟨pz_blind, pz_pre pz_P0 (hK.sub (tys' := []) [] rfl) (pz_D0 (A := fun _ => True)) hN⟩ rfl rfl hl.1 rfl (lv_room (Nat.le_of_ble_eq_true rfl)) dX12_load_12 ⟨Nat.le_of_ble_eq_true rfl, Nat.le_of_ble_eq_true rfl⟩) (fun r33 hw34 => ?_)
  obtain ⟨hw34r, hw34p⟩ := hw34
  refine lv_dup2_11 hx hb dX12_load_15 rfl rfl ?_
  refine va_iald hx hb hK hP q31 0 eq31 rfl (vp_in_iff.mpr ⟨by omega, by omega⟩) dX12_load_16 ?_
  refine lv_topi (fun z35 ez35 => ?_)
  refine lv_iload_n hx hb dX12_load_17 rfl (lv_at hl 2 rfl) ?_
  refine lv_isub hx hb dX12_load_18 ?_
  refine lv_topi (fun z36 ez36 => ?_)
  refine va_iast hx hb hK hP hD hS q31 0 eq31 rfl (vp_in_iff.mpr ⟨by omega, by omega⟩) dX12_load_19 (tp_k (.inl (κ 0, 12967, .inl (upd g27 r33.toNatClampNeg z36))) hD (tp_in hG y1 (by decide)) eq31 (fun f37 H locs hP hD hS g39 k38 => ?_))
  have hT := hT.up y1 g39 k38 tp_o32
  have hR := hR.up y1 (by decide) k38
  have hU : mo_U (mo_R g27) (mo_R (upd g27 r33.toNatClampNeg z36)) (20 + 5 * z32.toInt + 0) (z36.toInt) := mo_up (by omega) (rfl : z36.toInt = _) (by omega)
  generalize (upd g27 r33.toNatClampNeg z36) = g40 at g39 hU
  have hI := mo_w_term hI hU z32.toInt 0 (by omega) (by omega) (by omega)
  have hKN := hKN.up hU (Or.inl (by omega))
  have pn41 : mo_R g40 (1) = n1 := (hU.ne (by omega) (by omega)).trans en1.symm
  have pn42 : mo_R g40 (11) = n11 := (hU.ne (by omega) (by omega)).trans en11.symm
  have pn43 : mo_R g40 (547 + 84 * qs + 10) = ns10 := (hU.ne (by omega) (by omega)).trans ens10.symm
  have pn44 : mo_R g40 (547 + 84 * qs + 4) = ns4 := (hU.ne (by omega) (by omega)).trans ens4.symm
  have pn45 : mo_R g40 (547 + 84 * qs + 7) = ns7 := (hU.ne (by omega) (by omega)).trans ens7.symm
  refine lv_aload_n hx hb dX12_load_20 rfl (lv_at hl 0 rfl) ?_
  have hf_46 : f37 h0 = .inr (12, [.int o28_x0, .int o28_x1, .ref (ρ h0 2), .ref (ρ h0 3), .ref (ρ h0 4), .ref (ρ h0 5), .ref (ρ h0 6), .int o28_x7, .ref (ρ h0 8), .int o28_x9, .int o28_x10, .int o28_x11, .int o28_x12, .long o28_x13, .int o28_x14, .int o28_x15, .int o28_x16, .int o28_x17, .int o28_x18, .int o28_x19, .int o28_x20, .ref (ρ h0 21), .int o28_x22, .ref (ρ h0 23), .ref (ρ h0 24), .int o28_x25, .ref (ρ h0 26), .ref (ρ h0 27), .int o28_x28, .int o28_x29, .ref (ρ h0 30), .ref (ρ h0 31), .int o28_x32, .long o28_x33, .long o28_x34, .long o28_x35, .int o28_x36, .int o28_x37, .int o28_x38, .ref (ρ h0 39), .ref (ρ h0 40), .ref (ρ h0 41), .ref (ρ h0 42), .ref (ρ h0 43), .ref (ρ h0 44), .ref (ρ h0 45), .ref (ρ h0 46), .int o28_x47, .int o28_x48, .ref (ρ h0 49), .ref (ρ h0 50), .ref (ρ h0 51), .ref (ρ h0 52)]) := (k38 _ (tp_ne ht_h0 y1 (by decide))).trans hf_o28
  refine tpk_pos (tp_in hG ht_h0 (by decide)) hf_46 (fun q47 eq47 => ?_)
  refine va_get (D := (dC, dI)) (ci := 12) (v := .ref (ρ h0 2)) (C := RX12) (T := TX12) (N := 53) hx hb hts hfX12 hown hK hP q47 eq47 rfl 2 (by decide) (hts (.fieldLink RX12 7 "ColdShipsModel" "row" "[I") wa_148) (fun _ h9 => h9) rfl dX12_load_21 ?_
  refine lv_iload_n hx hb dX12_load_24 rfl (lv_at hl 1 rfl) ?_
  refine lv_iconst (v := 4) hx hb dX12_load_25 (by decide) ?_
  refine lv_iadd hx hb dX12_load_26 ?_
  refine lv_topi (fun z48 ez48 => ?_)
  have iz48 : z48.toInt = us.toInt + 4 := zi_add ez48 rfl rfl (by omega) (by omega)
  refine lv_dup2_11 hx hb dX12_load_27 rfl rfl ?_
  refine tpk_pos (tp_in hG y1 (by decide)) g39 (fun q49 eq49 => ?_)
  refine va_iald hx hb hK hP q49 0 eq49 rfl (vp_in_iff.mpr ⟨by omega, by omega⟩) dX12_load_28 ?_
  refine lv_topi (fun z50 ez50 => ?_)
  have := hI.GC (s := qs) (by omega) (by omega)
  have jz50 : z50.toInt = mo_R g40 (547 + 84 * qs + 4) := mo_rd ez50 (by omega)
  have kz50 := hI.GG (s := qs) (by omega) (by omega)
  have vz50 : z50.toInt = ns4 := jz50.trans pn44
  refine lv_iload_n hx hb dX12_load_29 rfl (lv_at hl 2 rfl) ?_
  refine lv_iadd hx hb dX12_load_30 ?_
  refine lv_topi (fun z51 ez51 => ?_)
  have iz51 : z51.toInt = z50.toInt + v.toInt := zi_add ez51 rfl rfl (by omega) (by omega)
  refine va_iast hx hb hK hP hD hS q49 0 eq49 rfl (vp_in_iff.mpr ⟨by omega, by omega⟩) dX12_load_31 (tp_k (.inl (κ 0, 12967, .inl (upd g40 z48.toNatClampNeg z51))) hD (tp_in hG y1 (by decide)) eq49 (fun f52 H locs hP hD hS g54 k53 => ?_))
  have hT := hT.up y1 g54 k53 tp_o32
  have hR := hR.up y1 (by decide) k53
  have hU : mo_U (mo_R g40) (mo_R (upd g40 z48.toNatClampNeg z51)) (547 + 84 * qs + 4) (z51.toInt) := mo_up (by omega) (rfl : z51.toInt = _) (by omega)
  generalize (upd g40 z48.toNatClampNeg z51) = g55 at g54 hU
  have hI := mo_w_GAS hI hU qs (by omega) (by omega) (by omega)
  have hKN := hKN.up hU (Or.inl (by omega))
  have pn56 : mo_R g55 (1) = n1 := (hU.ne (by omega) (by omega)).trans pn41
  have pn57 : mo_R g55 (11) = n11 := (hU.ne (by omega) (by omega)).trans pn42
  have pn58 : mo_R g55 (547 + 84 * qs + 10) = ns10 := (hU.ne (by omega) (by omega)).trans pn43
  have pn59 : mo_R g55 (547 + 84 * qs + 7) = ns7 := (hU.ne (by omega) (by omega)).trans pn45
  have pn60 : mo_R g55 (547 + 84 * qs + 4) = z51.toInt := hU.eq (by omega)
  refine lv_aload_n hx hb dX12_load_32 rfl (lv_at hl 0 rfl) ?_
  have hf_61 : f52 h0 = .inr (12, [.int o28_x0, .int o28_x1, .ref (ρ h0 2), .ref (ρ h0 3), .ref (ρ h0 4), .ref (ρ h0 5), .ref (ρ h0 6), .int o28_x7, .ref (ρ h0 8), .int o28_x9, .int o28_x10, .int o28_x11, .int o28_x12, .long o28_x13, .int o28_x14, .int o28_x15, .int o28_x16, .int o28_x17, .int o28_x18, .int o28_x19, .int o28_x20, .ref (ρ h0 21), .int o28_x22, .ref (ρ h0 23), .ref (ρ h0 24), .int o28_x25, .ref (ρ h0 26), .ref (ρ h0 27), .int o28_x28, .int o28_x29, .ref (ρ h0 30), .ref (ρ h0 31), .int o28_x32, .long o28_x33, .long o28_x34, .long o28_x35, .int o28_x36, .int o28_x37, .int o28_x38, .ref (ρ h0 39), .ref (ρ h0 40), .ref (ρ h0 41), .ref (ρ h0 42), .ref (ρ h0 43), .ref (ρ h0 44), .ref (ρ h0 45), .ref (ρ h0 46), .int o28_x47, .int o28_x48, .ref (ρ h0 49), .ref (ρ h0 50), .ref (ρ h0 51), .ref (ρ h0 52)]) := (k53 _ (tp_ne ht_h0 y1 (by decide))).trans hf_46
  refine tpk_pos (tp_in hG ht_h0 (by decide)) hf_61 (fun q62 eq62 => ?_)
  refine va_get (D := (dC, dI)) (ci := 12) (v := .ref (ρ h0 2)) (C := RX12) (T := TX12) (N := 53) hx hb hts hfX12 hown hK hP q62 eq62 rfl 2 (by decide) (hts (.fieldLink RX12 7 "ColdShipsModel" "row" "[I") wa_148) (fun _ h9 => h9) rfl dX12_load_33 ?_
  refine lv_iload_n hx hb dX12_load_36 rfl (lv_at hl 1 rfl) ?_
  refine lv_bipush (v := 16) hx hb dX12_load_37 (by decide) ?_
  refine lv_iadd hx hb dX12_load_39 ?_
  refine lv_topi (fun z63 ez63 => ?_)
  have iz63 : z63.toInt = us.toInt + 16 := zi_add ez63 rfl rfl (by omega) (by omega)
  refine lv_aload_n hx hb dX12_load_40 rfl (lv_at hl 0 rfl) ?_
  refine va_get (D := (dC, dI)) (ci := 12) (v := .ref (ρ h0 2)) (C := RX12) (T := TX12) (N := 53) hx hb hts hfX12 hown hK hP q62 eq62 rfl 2 (by decide) (hts (.fieldLink RX12 7 "ColdShipsModel" "row" "[I") wa_148) (fun _ h9 => h9) rfl dX12_load_41 ?_
  refine lv_iload_n hx hb dX12_load_44 rfl (lv_at hl 1 rfl) ?_
  refine lv_iconst (v := 0) hx hb dX12_load_45 (by decide) ?_
  refine lv_iadd hx hb dX12_load_46 ?_
  refine lv_topi (fun z64 ez64 => ?_)
  have iz64 : z64.toInt = us.toInt + 0 := zi_add ez64 rfl rfl (by omega) (by omega)
  refine tpk_pos (tp_in hG y1 (by decide)) g54 (fun q65 eq65 => ?_)
  refine va_iald hx hb hK hP q65 0 eq65 rfl (vp_in_iff.mpr ⟨by omega, by omega⟩) dX12_load_47 ?_
  refine lv_topi (fun z66 ez66 => ?_)
  have jz66 : z66.toInt = mo_R g55 (547 + 84 * qs + 0) := mo_rd ez66 (by omega)
  have kz66 := hI.SA (s := qs) (by omega) (by omega)
  refine lv_iadd hx hb dX12_load_48 ?_
  refine lv_topi (fun z67 ez67 => ?_)
  have iz67 : z67.toInt = z63.toInt + z66.toInt := zi_add ez67 rfl rfl (by omega) (by omega)
  refine lv_dup2_11 hx hb dX12_load_49 rfl rfl ?_
  refine va_iald hx hb hK hP q65 0 eq65 rfl (vp_in_iff.mpr ⟨by omega, by omega⟩) dX12_load_50 ?_
  refine lv_topi (fun z68 ez68 => ?_)
  refine lv_iload_n hx hb dX12_load_51 rfl (lv_at hl 2 rfl) ?_
  refine lv_iadd hx hb dX12_load_52 ?_
  refine lv_topi (fun z69 ez69 => ?_)
  refine va_iast hx hb hK hP hD hS q65 0 eq65 rfl (vp_in_iff.mpr ⟨by omega, by omega⟩) dX12_load_53 (tp_k (.inl (κ 0, 12967, .inl (upd g55 z67.toNatClampNeg z69))) hD (tp_in hG y1 (by decide)) eq65 (fun f70 H locs hP hD hS g72 k71 => ?_))
  have hT := hT.up y1 g72 k71 tp_o32
  have hR := hR.up y1 (by decide) k71
  have hU : mo_U (mo_R g55) (mo_R (upd g55 z67.toNatClampNeg z69)) (547 + 84 * qs + 16 + z66.toInt) (z69.toInt) := mo_up (by omega) (rfl : z69.toInt = _) (by omega)
  generalize (upd g55 z67.toNatClampNeg z69) = g73 at g72 hU
  have hI := mo_w_sfree hI hU qs (16 + z66.toInt) (by omega) (by omega) (by omega)
  have hKN := hKN.up hU (Or.inl (by omega))
  have pn74 : mo_R g73 (1) = n1 := (hU.ne (by omega) (by omega)).trans pn56
  have pn75 : mo_R g73 (11) = n11 := (hU.ne (by omega) (by omega)).trans pn57
  have pn76 : mo_R g73 (547 + 84 * qs + 10) = ns10 := (hU.ne (by omega) (by omega)).trans pn58
  have pn77 : mo_R g73 (547 + 84 * qs + 7) = ns7 := (hU.ne (by omega) (by omega)).trans pn59
  have pn78 : mo_R g73 (547 + 84 * qs + 4) = z51.toInt := (hU.ne (by omega) (by omega)).trans pn60
  refine lv_aload_n hx hb dX12_load_54 rfl (lv_at hl 0 rfl) ?_
  have hf_79 : f70 h0 = .inr (12, [.int o28_x0, .int o28_x1, .ref (ρ h0 2), .ref (ρ h0 3), .ref (ρ h0 4), .ref (ρ h0 5), .ref (ρ h0 6), .int o28_x7, .ref (ρ h0 8), .int o28_x9, .int o28_x10, .int o28_x11, .int o28_x12, .long o28_x13, .int o28_x14, .int o28_x15, .int o28_x16, .int o28_x17, .int o28_x18, .int o28_x19, .int o28_x20, .ref (ρ h0 21), .int o28_x22, .ref (ρ h0 23), .ref (ρ h0 24), .int o28_x25, .ref (ρ h0 26), .ref (ρ h0 27), .int o28_x28, .int o28_x29, .ref (ρ h0 30), .ref (ρ h0 31), .int o28_x32, .long o28_x33, .long o28_x34, .long o28_x35, .int o28_x36, .int o28_x37, .int o28_x38, .ref (ρ h0 39), .ref (ρ h0 40), .ref (ρ h0 41), .ref (ρ h0 42), .ref (ρ h0 43), .ref (ρ h0 44), .ref (ρ h0 45), .ref (ρ h0 46), .int o28_x47, .int o28_x48, .ref (ρ h0 49), .ref (ρ h0 50), .ref (ρ h0 51), .ref (ρ h0 52)]) := (k71 _ (tp_ne ht_h0 y1 (by decide))).trans hf_61
  refine tpk_pos (tp_in hG ht_h0 (by decide)) hf_79 (fun q80 eq80 => ?_)
  refine va_get (D := (dC, dI)) (ci := 12) (v := .ref (ρ h0 2)) (C := RX12) (T := TX12) (N := 53) hx hb hts hfX12 hown hK hP q80 eq80 rfl 2 (by decide) (hts (.fieldLink RX12 7 "ColdShipsModel" "row" "[I") wa_148) (fun _ h9 => h9) rfl dX12_load_55 ?_
  refine lv_iload_n hx hb dX12_load_58 rfl (lv_at hl 1 rfl) ?_
  refine lv_bipush (v := 12) hx hb dX12_load_59 (by decide) ?_
  refine lv_iadd hx hb dX12_load_61 ?_
  refine lv_topi (fun z81 ez81 => ?_)
  have iz81 : z81.toInt = us.toInt + 12 := zi_add ez81 rfl rfl (by omega) (by omega)
  refine lv_dup2_11 hx hb dX12_load_62 rfl rfl ?_
  refine tpk_pos (tp_in hG y1 (by decide)) g72 (fun q82 eq82 => ?_)
  refine va_iald hx hb hK hP q82 0 eq82 rfl (vp_in_iff.mpr ⟨by omega, by omega⟩) dX12_load_63 ?_
  refine lv_topi (fun z83 ez83 => ?_)
  refine lv_iload_n hx hb dX12_load_64 rfl (lv_at hl 2 rfl) ?_
  refine lv_iadd hx hb dX12_load_65 ?_
  refine lv_topi (fun z84 ez84 => ?_)
  refine va_iast hx hb hK hP hD hS q82 0 eq82 rfl (vp_in_iff.mpr ⟨by omega, by omega⟩) dX12_load_66 (tp_k (.inl (κ 0, 12967, .inl (upd g73 z81.toNatClampNeg z84))) hD (tp_in hG y1 (by decide)) eq82 (fun f85 H locs hP hD hS g87 k86 => ?_))
  have hT := hT.up y1 g87 k86 tp_o32
  have hR := hR.up y1 (by decide) k86
  have hU : mo_U (mo_R g73) (mo_R (upd g73 z81.toNatClampNeg z84)) (547 + 84 * qs + 12) (z84.toInt) := mo_up (by omega) (rfl : z84.toInt = _) (by omega)
  generalize (upd g73 z81.toNatClampNeg z84) = g88 at g87 hU
  have hI := mo_w_sfree hI hU qs 12 (by omega) (by omega) (by omega)
  have hKN := hKN.up hU (Or.inl (by omega))
  have pn89 : mo_R g88 (1) = n1 := (hU.ne (by omega) (by omega)).trans pn74
  have pn90 : mo_R g88 (11) = n11 := (hU.ne (by omega) (by omega)).trans pn75
  have pn91 : mo_R g88 (547 + 84 * qs + 10) = ns10 := (hU.ne (by omega) (by omega)).trans pn76
  have pn92 : mo_R g88 (547 + 84 * qs + 7) = ns7 := (hU.ne (by omega) (by omega)).trans pn77
  have pn93 : mo_R g88 (547 + 84 * qs + 4) = z51.toInt := (hU.ne (by omega) (by omega)).trans pn78
  exact W.vret hx hb hr (fun t ht hW => ⟨⟨f85, rfl, ⟨hT, hR, ⟨(by rw [g87, mo_i1]; exact hI), (by rw [g87, mo_i1, hf_o26, mo_i1]; exact hKN), (by first | (simp only [g87, hf_o26, mo_i1]; omega) | (simp only [g87, hf_o26, mo_i1]; trivial) | (simp only [g87, hf_o26, mo_i1]; done) | omega)⟩⟩, by rw [ht]; exact hP, va_K.moved hW.alike hK, hD⟩, hS.F ht⟩) hS.2.2 dX12_load_67
set_option maxHeartbeats 4000000 in
set_option maxRecDepth 100000 in
theorem t_X12_land (l : Launch) (dC : Nat → ClassId) (dI : Nat → Nat → Nat) (sz : Nat) (κ : Nat → ClassId) (Θ : Nat → Option Int) (τ ν : Nat → Nat) (ρ : Nat → Nat → Nat) (L : List Nat) (f : Nat → va_E) (hG : tp_G τ ν ρ L) (hT : tp_T (mo_O κ Θ) κ τ ν ρ f) (h0 : Nat) (us : Int32) (v : Int32) (u : Int32) (x : Int) (b : Int) (qs : Int) (ht_h0 : τ h0 = 13) (hr_u : 0 ≤ u.toInt ∧ u.toInt ≤ 2399) (hL_us : us.toInt = 547 + 84 * qs) (hq_us : 0 ≤ qs ∧ qs ≤ 5) (hbb : 0 ≤ b ∧ b ≤ 1000) (hJ : mo_RI x b (mo_R (mo_i (f (ρ h0 2))))) (hv : 0 ≤ v.toInt ∧ v.toInt ≤ (mo_R (mo_i (f (ρ h0 2)))) (547 + 84 * qs + 4)) (hn1 : qs < (mo_R (mo_i (f (ρ h0 2)))) (1)) : Met l yX12_land wqX12_land ({ frames := 3, cells := 0, slots := 0, locals := 800 }) (va_Pc [.ref h0, .int us, .int v, .int u] (pz_B dC dI (tp_K κ) (va_pl L f) sz)) (va_Qv (fun (f1 : Nat → va_E) => tp_T (mo_O κ Θ) κ τ ν ρ f1 ∧ tp_F τ [32, 35, 36] f f1 ∧ mo_RI x b (mo_R (mo_i (f1 (ρ h0 2)))) ∧ mo_KN (fun k => False) (mo_R (mo_i (f (ρ h0 2)))) (mo_R (mo_i (f1 (ρ h0 2)))) ∧ (mo_R (mo_i (f1 (ρ h0 2)))) (1) = (mo_R (mo_i (f (ρ h0 2)))) (1) ∧ (mo_R (mo_i (f1 (ρ h0 2)))) (11) = (mo_R (mo_i (f (ρ h0 2)))) (11) ∧ (mo_R (mo_i (f1 (ρ h0 2)))) (547 + 84 * qs + 10) = (mo_R (mo_i (f (ρ h0 2)))) (547 + 84 * qs + 10)) (fun (f1 : Nat → va_E) (t : State) => pz_E dC dI (tp_K κ) (va_A (va_pl L f) sz) (va_pl L f1) t) (va_A (va_pl L f) sz)) 0 0 (va_A (va_pl L f) sz) := by
  refine Met.ofW (cc := cX12_land) (maxL := 5) (ret := none) (by decide) rfl ?_
  intro p e s m args below meth c s₁ B hml hv
  obtain ⟨rfl, hsz, hP, hK, hD0, hN⟩ := hv
  have hx := B.exec
  have hb := B.bytes
  have hr := B.returns
  have hts := fun (w : Cond) (h : w ∈ WALL) => atoms_spec (ws := wqX12_land) B.pre w (List.mem_cons_of_mem _ h)
  have hown : s.vm.findClass RX12 = some m.cls := findClass_of_methodNamed B.named
  have hlocks := B.notSynchronized
  subst hsz
  have hD := hD0.self (sz := s.heap.size)
  generalize hAe : va_A (va_pl L f) s.heap.size = A at hD ⊢
  have hA : ∀ q : Nat, s.heap.size ≤ q → A q := fun q h => by rw [← hAe]; exact Or.inr h
  have hS : va_S A s.heap s.heap [] := va_S.rf
  have hR : tp_F τ [32, 35, 36] f f := tp_F.rf
  have hl := lv_entry ([.ref h0, .int us, .int v, .int u]) (n := 5) (Nat.le_of_ble_eq_true rfl)
  rw [lg_entry_eq]
  generalize (lg_sl ([.ref h0, .int us, .int v, .int u]) ++ List.replicate (5 - (lg_sl ([.ref h0, .int us, .int v, .int u])).length) Slot.unset).toArray = ls at hl ⊢
  have hl : lv_has ls 5 [(0, .ref h0), (1, .int us), (2, .int v), (3, .int u)] := hl
  refine tgk_13 hG ht_h0 (fun y1 y2 y3 y4 y5 y6 y7 y8 y9 y10 y11 y12 y13 y14 y15 y16 y17 y18 y19 y20 y21 y22 y23 y24 y25 => ?_)
  refine tpk_32 hT y1 (fun g27 hf_o26 => ?_)
  have hI : mo_RI x b (mo_R g27) := by have q9 := hJ; rw [hf_o26, mo_i1] at q9; exact q9
  rw [hf_o26, mo_i1] at hv
  rw [hf_o26, mo_i1] at hn1
  obtain ⟨n1, en1⟩ : ∃ n : Int, n = mo_R g27 (1) := ⟨_, rfl⟩
  have kn1 := hI.k1
  obtain ⟨n11, en11⟩ : ∃ n : Int, n = mo_R g27 (11) := ⟨_, rfl⟩
  have kn11 := hI.k11
  obtain ⟨ns10, ens10⟩ : ∃ n : Int, n = mo_R g27 (547 + 84 * qs + 10) := ⟨_, rfl⟩
  have hKN : mo_KN (fun k => False) (mo_R g27) (mo_R g27) := mo_KN.rf
  refine lv_aload_n hx hb dX12_land_0 rfl (lv_at hl 0 rfl) ?_
  refine lv_iload_n hx hb dX12_land_1 rfl (lv_at hl 1 rfl) ?_
  refine lv_iload_n hx hb dX12_land_2 rfl (lv_at hl 2 rfl) ?_
  refine tpk_13 hT ht_h0 (fun o28_x0 o28_x1 o28_x7 o28_x9 o28_x10 o28_x11 o28_x12 o28_x13 o28_x14 o28_x15 o28_x16 o28_x17 o28_x18 o28_x19 o28_x20 o28_x22 o28_x25 o28_x28 o28_x29 o28_x32 o28_x33 o28_x34 o28_x35 o28_x36 o28_x37 o28_x38 o28_x47 o28_x48 hf_o28 ro28_0 ro28_1 ro28_2 ro28_3 ro28_4 ro28_5 ro28_6 ro28_7 ro28_8 ro28_9 ro28_10 ro28_11 ro28_12 ro28_13 ro28_14 => ?_)
  refine tpk_pos (tp_in hG ht_h0 (by decide)) hf_o28 (fun q29 eq29 => ?_)
  have hFc := tp_fr hD hS hA
  refine va_callv (va_runV (As := [.int us, .int v]) (rest := []) ⟨hx, hb, hml, hown, hts⟩ (t_X12_take l dC dI _ κ Θ τ ν ρ L f hG hT h0 us v x b qs ht_h0 (by omega) (by omega) (by omega) (by rw [hf_o26, mo_i1]; exact hI) (by first | (simp only [hf_o26, mo_i1]; omega) | (simp only [hf_o26, mo_i1]; trivial) | (simp only [hf_o26, mo_i1]; done) | omega) (by first | (simp only [hf_o26, mo_i1]; omega) | (simp only [hf_o26, mo_i1]; trivial) | (simp only [hf_o26, mo_i1]; done) | omega)) (cwV 2 hts gX12_land_X12_take rfl rfl rfl ⟨rfl, pd_X12_take⟩ ⟨Nat.le_of_ble_eq_true rfl, Nat.le_of_ble_eq_true rfl⟩) ⟨pz_blind, va_recv hK hP (ci := 12) (q0 := q29) rfl eq29, pz_pre hP hK hD hN⟩ rfl rfl hl.1 rfl (lv_room (Nat.le_of_ble_eq_true rfl)) dX12_land_3 ⟨Nat.le_of_ble_eq_true rfl, Nat.le_of_ble_eq_true rfl⟩) hS (fun q _ h => hFc q h) hFc (fun f32 t H1 locs ht hvm hw31 hB hz1 hk1 hS => ?_)
  refine tn_3 hw31 (fun hT hF33 hw31p => ?_); clear hw31
  have hR := hR.then hF33 (by decide)
  have hP := hB.1; rw [ht] at hP; have hD := tp_ad f32 hD; clear hB hFc hz1 hk1; subst ht; generalize t.heap = H at hP hS ⊢
  obtain ⟨hJ, hw31pe⟩ := hw31p
  refine tpk_32 hT y1 (fun g35 hf_o34 => ?_)
  have hI : mo_RI x b (mo_R g35) := by have q9 := hJ; rw [hf_o34, mo_i1] at q9; exact q9
  rw [hf_o26, mo_i1] at hw31pe
  rw [hf_o34, mo_i1] at hw31pe
  obtain ⟨hw31pek, hw31peq⟩ := hw31pe
  have hKN := hKN.th hw31pek (fun k q9 => False.elim q9)
  have pn36 : mo_R g35 (1) = n1 := (hw31peq.1).trans en1.symm
  have pn37 : mo_R g35 (11) = n11 := (hw31peq.2.1).trans en11.symm
  have pn38 : mo_R g35 (547 + 84 * qs + 10) = ns10 := (hw31peq.2.2.1).trans ens10.symm
  refine lv_aload_n hx hb dX12_land_6 rfl (lv_at hl 0 rfl) ?_
  have hf_39 : f32 h0 = .inr (12, [.int o28_x0, .int o28_x1, .ref (ρ h0 2), .ref (ρ h0 3), .ref (ρ h0 4), .ref (ρ h0 5), .ref (ρ h0 6), .int o28_x7, .ref (ρ h0 8), .int o28_x9, .int o28_x10, .int o28_x11, .int o28_x12, .long o28_x13, .int o28_x14, .int o28_x15, .int o28_x16, .int o28_x17, .int o28_x18, .int o28_x19, .int o28_x20, .ref (ρ h0 21), .int o28_x22, .ref (ρ h0 23), .ref (ρ h0 24), .int o28_x25, .ref (ρ h0 26), .ref (ρ h0 27), .int o28_x28, .int o28_x29, .ref (ρ h0 30), .ref (ρ h0 31), .int o28_x32, .long o28_x33, .long o28_x34, .long o28_x35, .int o28_x36, .int o28_x37, .int o28_x38, .ref (ρ h0 39), .ref (ρ h0 40), .ref (ρ h0 41), .ref (ρ h0 42), .ref (ρ h0 43), .ref (ρ h0 44), .ref (ρ h0 45), .ref (ρ h0 46), .int o28_x47, .int o28_x48, .ref (ρ h0 49), .ref (ρ h0 50), .ref (ρ h0 51), .ref (ρ h0 52)]) := (hF33 _ (by rw [ht_h0]; decide)).trans hf_o28
  refine tpk_pos (tp_in hG ht_h0 (by decide)) hf_39 (fun q40 eq40 => ?_)
  refine va_get (D := (dC, dI)) (ci := 12) (v := .ref (ρ h0 2)) (C := RX12) (T := TX12) (N := 53) hx hb hts hfX12 hown hK hP q40 eq40 rfl 2 (by decide) (hts (.fieldLink RX12 7 "ColdShipsModel" "row" "[I") wa_148) (fun _ h9 => h9) rfl dX12_land_7 ?_
  refine lv_aload_n hx hb dX12_land_10 rfl (lv_at hl 0 rfl) ?_
  refine va_get (D := (dC, dI)) (ci := 12) (v := .ref (ρ h0 2)) (C := RX12) (T := TX12) (N := 53) hx hb hts hfX12 hown hK hP q40 eq40 rfl 2 (by decide) (hts (.fieldLink RX12 7 "ColdShipsModel" "row" "[I") wa_148) (fun _ h9 => h9) rfl dX12_land_11 ?_
  refine lv_iload_n hx hb dX12_land_14 rfl (lv_at hl 1 rfl) ?_
  refine lv_iconst (v := 0) hx hb dX12_land_15 (by decide) ?_
  refine lv_iadd hx hb dX12_land_16 ?_
  refine lv_topi (fun z41 ez41 => ?_)
  have iz41 : z41.toInt = us.toInt + 0 := zi_add ez41 rfl rfl (by omega) (by omega)
  refine tpk_pos (tp_in hG y1 (by decide)) hf_o34 (fun q42 eq42 => ?_)
  refine va_iald hx hb hK hP q42 0 eq42 rfl (vp_in_iff.mpr ⟨by omega, by omega⟩) dX12_land_17 ?_
  refine lv_topi (fun z43 ez43 => ?_)
  have jz43 : z43.toInt = mo_R g35 (547 + 84 * qs + 0) := mo_rd ez43 (by omega)
  have kz43 := hI.SA (s := qs) (by omega) (by omega)
  refine pz_calli (va_runS (As := [.int z43]) (rest := [.ref (ρ h0 2)]) ⟨hx, hb, hml, hown, hts⟩ (t_X12_terminalAt l dC dI _ z43 (z43.toInt) (by omega) rfl) (va_cwS 1 hts gX12_land_X12_terminalAt rfl rfl rfl pd_X12_terminalAt ⟨Nat.le_of_ble_eq_true rfl, Nat.le_of_ble_eq_true rfl⟩) ⟨pz_blind, pz_pre pz_P0 (hK.sub (tys' := []) [] rfl) (pz_D0 (A := fun _ => True)) hN⟩ rfl rfl hl.1 rfl (lv_room (Nat.le_of_ble_eq_true rfl)) dX12_land_18 ⟨Nat.le_of_ble_eq_true rfl, Nat.le_of_ble_eq_true rfl⟩) (fun r44 hw45 => ?_)
  obtain ⟨hw45r, hw45p⟩ := hw45
  refine lv_dup2_11 hx hb dX12_land_21 rfl rfl ?_
  refine va_iald hx hb hK hP q42 0 eq42 rfl (vp_in_iff.mpr ⟨by omega, by omega⟩) dX12_land_22 ?_
  refine lv_topi (fun z46 ez46 => ?_)
  refine lv_iload_n hx hb dX12_land_23 rfl (lv_at hl 2 rfl) ?_
  refine lv_iadd hx hb dX12_land_24 ?_
  refine lv_topi (fun z47 ez47 => ?_)
  refine va_iast hx hb hK hP hD hS q42 0 eq42 rfl (vp_in_iff.mpr ⟨by omega, by omega⟩) dX12_land_25 (tp_k (.inl (κ 0, 12967, .inl (upd g35 r44.toNatClampNeg z47))) hD (tp_in hG y1 (by decide)) eq42 (fun f48 H locs hP hD hS g50 k49 => ?_))
  have hT := hT.up y1 g50 k49 tp_o32
  have hR := hR.up y1 (by decide) k49
  have hU : mo_U (mo_R g35) (mo_R (upd g35 r44.toNatClampNeg z47)) (20 + 5 * z43.toInt + 0) (z47.toInt) := mo_up (by omega) (rfl : z47.toInt = _) (by omega)
  generalize (upd g35 r44.toNatClampNeg z47) = g51 at g50 hU
  have hI := mo_w_term hI hU z43.toInt 0 (by omega) (by omega) (by omega)
  have hKN := hKN.up hU (Or.inl (by omega))
  have pn52 : mo_R g51 (1) = n1 := (hU.ne (by omega) (by omega)).trans pn36
  have pn53 : mo_R g51 (11) = n11 := (hU.ne (by omega) (by omega)).trans pn37
  have pn54 : mo_R g51 (547 + 84 * qs + 10) = ns10 := (hU.ne (by omega) (by omega)).trans pn38
  refine lv_aload_n hx hb dX12_land_26 rfl (lv_at hl 0 rfl) ?_
  have hf_55 : f48 h0 = .inr (12, [.int o28_x0, .int o28_x1, .ref (ρ h0 2), .ref (ρ h0 3), .ref (ρ h0 4), .ref (ρ h0 5), .ref (ρ h0 6), .int o28_x7, .ref (ρ h0 8), .int o28_x9, .int o28_x10, .int o28_x11, .int o28_x12, .long o28_x13, .int o28_x14, .int o28_x15, .int o28_x16, .int o28_x17, .int o28_x18, .int o28_x19, .int o28_x20, .ref (ρ h0 21), .int o28_x22, .ref (ρ h0 23), .ref (ρ h0 24), .int o28_x25, .ref (ρ h0 26), .ref (ρ h0 27), .int o28_x28, .int o28_x29, .ref (ρ h0 30), .ref (ρ h0 31), .int o28_x32, .long o28_x33, .long o28_x34, .long o28_x35, .int o28_x36, .int o28_x37, .int o28_x38, .ref (ρ h0 39), .ref (ρ h0 40), .ref (ρ h0 41), .ref (ρ h0 42), .ref (ρ h0 43), .ref (ρ h0 44), .ref (ρ h0 45), .ref (ρ h0 46), .int o28_x47, .int o28_x48, .ref (ρ h0 49), .ref (ρ h0 50), .ref (ρ h0 51), .ref (ρ h0 52)]) := (k49 _ (tp_ne ht_h0 y1 (by decide))).trans hf_39
  refine tpk_pos (tp_in hG ht_h0 (by decide)) hf_55 (fun q56 eq56 => ?_)
  refine va_get (D := (dC, dI)) (ci := 12) (v := .ref (ρ h0 2)) (C := RX12) (T := TX12) (N := 53) hx hb hts hfX12 hown hK hP q56 eq56 rfl 2 (by decide) (hts (.fieldLink RX12 7 "ColdShipsModel" "row" "[I") wa_148) (fun _ h9 => h9) rfl dX12_land_27 ?_
  refine lv_iload_n hx hb dX12_land_30 rfl (lv_at hl 1 rfl) ?_
  refine lv_bipush (v := 12) hx hb dX12_land_31 (by decide) ?_
  refine lv_iadd hx hb dX12_land_33 ?_
  refine lv_topi (fun z57 ez57 => ?_)
  have iz57 : z57.toInt = us.toInt + 12 := zi_add ez57 rfl rfl (by omega) (by omega)
  refine lv_iconst (v := 3) hx hb dX12_land_34 (by decide) ?_
  refine lv_iadd hx hb dX12_land_35 ?_
  refine lv_topi (fun z58 ez58 => ?_)
  have iz58 : z58.toInt = z57.toInt + 3 := zi_add ez58 rfl rfl (by omega) (by omega)
  refine lv_dup2_11 hx hb dX12_land_36 rfl rfl ?_
  refine tpk_pos (tp_in hG y1 (by decide)) g50 (fun q59 eq59 => ?_)
  refine va_iald hx hb hK hP q59 0 eq59 rfl (vp_in_iff.mpr ⟨by omega, by omega⟩) dX12_land_37 ?_
  refine lv_topi (fun z60 ez60 => ?_)
  refine lv_iload_n hx hb dX12_land_38 rfl (lv_at hl 2 rfl) ?_
  refine lv_iadd hx hb dX12_land_39 ?_
  refine lv_topi (fun z61 ez61 => ?_)
  refine va_iast hx hb hK hP hD hS q59 0 eq59 rfl (vp_in_iff.mpr ⟨by omega, by omega⟩) dX12_land_40 (tp_k (.inl (κ 0, 12967, .inl (upd g51 z58.toNatClampNeg z61))) hD (tp_in hG y1 (by decide)) eq59 (fun f62 H locs hP hD hS g64 k63 => ?_))
  have hT := hT.up y1 g64 k63 tp_o32
  have hR := hR.up y1 (by decide) k63
  have hU : mo_U (mo_R g51) (mo_R (upd g51 z58.toNatClampNeg z61)) (547 + 84 * qs + 15) (z61.toInt) := mo_up (by omega) (rfl : z61.toInt = _) (by omega)
  generalize (upd g51 z58.toNatClampNeg z61) = g65 at g64 hU
  have hI := mo_w_sfree hI hU qs 15 (by omega) (by omega) (by omega)
  have hKN := hKN.up hU (Or.inl (by omega))
  have pn66 : mo_R g65 (1) = n1 := (hU.ne (by omega) (by omega)).trans pn52
  have pn67 : mo_R g65 (11) = n11 := (hU.ne (by omega) (by omega)).trans pn53
  have pn68 : mo_R g65 (547 + 84 * qs + 10) = ns10 := (hU.ne (by omega) (by omega)).trans pn54
  refine lv_aload_n hx hb dX12_land_41 rfl (lv_at hl 0 rfl) ?_
  have hf_69 : f62 h0 = .inr (12, [.int o28_x0, .int o28_x1, .ref (ρ h0 2), .ref (ρ h0 3), .ref (ρ h0 4), .ref (ρ h0 5), .ref (ρ h0 6), .int o28_x7, .ref (ρ h0 8), .int o28_x9, .int o28_x10, .int o28_x11, .int o28_x12, .long o28_x13, .int o28_x14, .int o28_x15, .int o28_x16, .int o28_x17, .int o28_x18, .int o28_x19, .int o28_x20, .ref (ρ h0 21), .int o28_x22, .ref (ρ h0 23), .ref (ρ h0 24), .int o28_x25, .ref (ρ h0 26), .ref (ρ h0 27), .int o28_x28, .int o28_x29, .ref (ρ h0 30), .ref (ρ h0 31), .int o28_x32, .long o28_x33, .long o28_x34, .long o28_x35, .int o28_x36, .int o28_x37, .int o28_x38, .ref (ρ h0 39), .ref (ρ h0 40), .ref (ρ h0 41), .ref (ρ h0 42), .ref (ρ h0 43), .ref (ρ h0 44), .ref (ρ h0 45), .ref (ρ h0 46), .int o28_x47, .int o28_x48, .ref (ρ h0 49), .ref (ρ h0 50), .ref (ρ h0 51), .ref (ρ h0 52)]) := (k63 _ (tp_ne ht_h0 y1 (by decide))).trans hf_55
  refine tpk_pos (tp_in hG ht_h0 (by decide)) hf_69 (fun q70 eq70 => ?_)
  refine va_get (D := (dC, dI)) (ci := 12) (v := .ref (ρ h0 2)) (C := RX12) (T := TX12) (N := 53) hx hb hts hfX12 hown hK hP q70 eq70 rfl 2 (by decide) (hts (.fieldLink RX12 7 "ColdShipsModel" "row" "[I") wa_148) (fun _ h9 => h9) rfl dX12_land_42 ?_
  refine lv_iload_n hx hb dX12_land_45 rfl (lv_at hl 1 rfl) ?_
  refine lv_bipush (v := 23) hx hb dX12_land_46 (by decide) ?_
  refine lv_iadd hx hb dX12_land_48 ?_
  refine lv_topi (fun z71 ez71 => ?_)
  have iz71 : z71.toInt = us.toInt + 23 := zi_add ez71 rfl rfl (by omega) (by omega)
  refine lv_aload_n hx hb dX12_land_49 rfl (lv_at hl 0 rfl) ?_
  refine va_get (D := (dC, dI)) (ci := 12) (v := .ref (ρ h0 2)) (C := RX12) (T := TX12) (N := 53) hx hb hts hfX12 hown hK hP q70 eq70 rfl 2 (by decide) (hts (.fieldLink RX12 7 "ColdShipsModel" "row" "[I") wa_148) (fun _ h9 => h9) rfl dX12_land_50 ?_
  refine lv_iload_n hx hb dX12_land_53 rfl (lv_at hl 1 rfl) ?_
  refine lv_bipush (v := 22) hx hb dX12_land_54 (by decide) ?_
  refine lv_iadd hx hb dX12_land_56 ?_
  refine lv_topi (fun z72 ez72 => ?_)
  have iz72 : z72.toInt = us.toInt + 22 := zi_add ez72 rfl rfl (by omega) (by omega)
  refine tpk_pos (tp_in hG y1 (by decide)) g64 (fun q73 eq73 => ?_)
  refine va_iald hx hb hK hP q73 0 eq73 rfl (vp_in_iff.mpr ⟨by omega, by omega⟩) dX12_land_57 ?_
  refine lv_topi (fun z74 ez74 => ?_)
  refine tp_join 74 (fun H locs ls stk => ∃ w75 : Int32, stk = [.int w75, .int z71, .ref (ρ h0 2)] ∧ va_P (dC, dI) vwCl (va_pl L f62) H ∧ va_D A (va_pl L f62) ∧ va_S A s.heap H locs ∧ lv_has ls 5 [(0, .ref h0), (1, .int us), (2, .int v), (3, .int u)]) ?_ (fun hj76 => ?_)
  · intro H locs ls stk hI
    refine Exists.elim hI (fun w75 hE90 => tn_5 hE90 (fun e90 hP hD hS hl => ?_))
    clear hE90 hI; subst e90
    refine va_iast hx hb hK hP hD hS q73 0 eq73 rfl (vp_in_iff.mpr ⟨by omega, by omega⟩) dX12_land_74 (tp_k (.inl (κ 0, 12967, .inl (upd g65 z71.toNatClampNeg w75))) hD (tp_in hG y1 (by decide)) eq73 (fun f77 H locs hP hD hS g79 k78 => ?_))
    have hT := hT.up y1 g79 k78 tp_o32
    have hR := hR.up y1 (by decide) k78
    have hU : mo_U (mo_R g65) (mo_R (upd g65 z71.toNatClampNeg w75)) (547 + 84 * qs + 23) (w75.toInt) := mo_up (by omega) (rfl : w75.toInt = _) (by omega)
    generalize (upd g65 z71.toNatClampNeg w75) = g80 at g79 hU
    have hI := mo_w_sfree hI hU qs 23 (by omega) (by omega) (by omega)
    have hKN := hKN.up hU (Or.inl (by omega))
    have pn81 : mo_R g80 (1) = n1 := (hU.ne (by omega) (by omega)).trans pn66
    have pn82 : mo_R g80 (11) = n11 := (hU.ne (by omega) (by omega)).trans pn67
    have pn83 : mo_R g80 (547 + 84 * qs + 10) = ns10 := (hU.ne (by omega) (by omega)).trans pn68
    refine lv_aload_n hx hb dX12_land_75 rfl (lv_at hl 0 rfl) ?_
    have hf_84 : f77 h0 = .inr (12, [.int o28_x0, .int o28_x1, .ref (ρ h0 2), .ref (ρ h0 3), .ref (ρ h0 4), .ref (ρ h0 5), .ref (ρ h0 6), .int o28_x7, .ref (ρ h0 8), .int o28_x9, .int o28_x10, .int o28_x11, .int o28_x12, .long o28_x13, .int o28_x14, .int o28_x15, .int o28_x16, .int o28_x17, .int o28_x18, .int o28_x19, .int o28_x20, .ref (ρ h0 21), .int o28_x22, .ref (ρ h0 23), .ref (ρ h0 24), .int o28_x25, .ref (ρ h0 26), .ref (ρ h0 27), .int o28_x28, .int o28_x29, .ref (ρ h0 30), .ref (ρ h0 31), .int o28_x32, .long o28_x33, .long o28_x34, .long o28_x35, .int o28_x36, .int o28_x37, .int o28_x38, .ref (ρ h0 39), .ref (ρ h0 40), .ref (ρ h0 41), .ref (ρ h0 42), .ref (ρ h0 43), .ref (ρ h0 44), .ref (ρ h0 45), .ref (ρ h0 46), .int o28_x47, .int o28_x48, .ref (ρ h0 49), .ref (ρ h0 50), .ref (ρ h0 51), .ref (ρ h0 52)]) := (k78 _ (tp_ne ht_h0 y1 (by decide))).trans hf_69
    refine tpk_pos (tp_in hG ht_h0 (by decide)) hf_84 (fun q85 eq85 => ?_)
    refine va_get (D := (dC, dI)) (ci := 12) (v := .ref (ρ h0 2)) (C := RX12) (T := TX12) (N := 53) hx hb hts hfX12 hown hK hP q85 eq85 rfl 2 (by decide) (hts (.fieldLink RX12 7 "ColdShipsModel" "row" "[I") wa_148) (fun _ h9 => h9) rfl dX12_land_76 ?_
    refine lv_iload_n hx hb dX12_land_79 rfl (lv_at hl 1 rfl) ?_
    refine lv_bipush (v := 24) hx hb dX12_land_80 (by decide) ?_
    refine lv_iadd hx hb dX12_land_82 ?_
    refine lv_topi (fun z86 ez86 => ?_)
    have iz86 : z86.toInt = us.toInt + 24 := zi_add ez86 rfl rfl (by omega) (by omega)
    refine lv_iload_n hx hb dX12_land_83 rfl (lv_at hl 3 rfl) ?_
    refine tpk_pos (tp_in hG y1 (by decide)) g79 (fun q87 eq87 => ?_)
    refine va_iast hx hb hK hP hD hS q87 0 eq87 rfl (vp_in_iff.mpr ⟨by omega, by omega⟩) dX12_land_84 (tp_k (.inl (κ 0, 12967, .inl (upd g80 z86.toNatClampNeg u))) hD (tp_in hG y1 (by decide)) eq87 (fun f88 H locs hP hD hS g90 k89 => ?_))
    have hT := hT.up y1 g90 k89 tp_o32
    have hR := hR.up y1 (by decide) k89
    have hU : mo_U (mo_R g80) (mo_R (upd g80 z86.toNatClampNeg u)) (547 + 84 * qs + 24) (u.toInt) := mo_up (by omega) (rfl : u.toInt = _) (by omega)
    generalize (upd g80 z86.toNatClampNeg u) = g91 at g90 hU
    have hI := mo_w_LLAST hI hU qs (by omega) (by omega) (by omega)
    have hKN := hKN.up hU (Or.inl (by omega))
    have pn92 : mo_R g91 (1) = n1 := (hU.ne (by omega) (by omega)).trans pn81
    have pn93 : mo_R g91 (11) = n11 := (hU.ne (by omega) (by omega)).trans pn82
    have pn94 : mo_R g91 (547 + 84 * qs + 10) = ns10 := (hU.ne (by omega) (by omega)).trans pn83
    refine lv_aload_n hx hb dX12_land_85 rfl (lv_at hl 0 rfl) ?_
    have hf_95 : f88 h0 = .inr (12, [.int o28_x0, .int o28_x1, .ref (ρ h0 2), .ref (ρ h0 3), .ref (ρ h0 4), .ref (ρ h0 5), .ref (ρ h0 6), .int o28_x7, .ref (ρ h0 8), .int o28_x9, .int o28_x10, .int o28_x11, .int o28_x12, .long o28_x13, .int o28_x14, .int o28_x15, .int o28_x16, .int o28_x17, .int o28_x18, .int o28_x19, .int o28_x20, .ref (ρ h0 21), .int o28_x22, .ref (ρ h0 23), .ref (ρ h0 24), .int o28_x25, .ref (ρ h0 26), .ref (ρ h0 27), .int o28_x28, .int o28_x29, .ref (ρ h0 30), .ref (ρ h0 31), .int o28_x32, .long o28_x33, .long o28_x34, .long o28_x35, .int o28_x36, .int o28_x37, .int o28_x38, .ref (ρ h0 39), .ref (ρ h0 40), .ref (ρ h0 41), .ref (ρ h0 42), .ref (ρ h0 43), .ref (ρ h0 44), .ref (ρ h0 45), .ref (ρ h0 46), .int o28_x47, .int o28_x48, .ref (ρ h0 49), .ref (ρ h0 50), .ref (ρ h0 51), .ref (ρ h0 52)]) := (k89 _ (tp_ne ht_h0 y1 (by decide))).trans hf_84
    refine tpk_pos (tp_in hG ht_h0 (by decide)) hf_95 (fun q96 eq96 => ?_)
    refine va_get (D := (dC, dI)) (ci := 12) (v := .ref (ρ h0 2)) (C := RX12) (T := TX12) (N := 53) hx hb hts hfX12 hown hK hP q96 eq96 rfl 2 (by decide) (hts (.fieldLink RX12 7 "ColdShipsModel" "row" "[I") wa_148) (fun _ h9 => h9) rfl dX12_land_86 ?_
    refine lv_iload_n hx hb dX12_land_89 rfl (lv_at hl 1 rfl) ?_
    refine lv_bipush (v := 22) hx hb dX12_land_90 (by decide) ?_
    refine lv_iadd hx hb dX12_land_92 ?_
    refine lv_topi (fun z97 ez97 => ?_)
    have iz97 : z97.toInt = us.toInt + 22 := zi_add ez97 rfl rfl (by omega) (by omega)
    refine lv_dup2_11 hx hb dX12_land_93 rfl rfl ?_
    refine tpk_pos (tp_in hG y1 (by decide)) g90 (fun q98 eq98 => ?_)
    refine va_iald hx hb hK hP q98 0 eq98 rfl (vp_in_iff.mpr ⟨by omega, by omega⟩) dX12_land_94 ?_
    refine lv_topi (fun z99 ez99 => ?_)
    refine lv_iload_n hx hb dX12_land_95 rfl (lv_at hl 2 rfl) ?_
    refine lv_iadd hx hb dX12_land_96 ?_
    refine lv_topi (fun z100 ez100 => ?_)
    refine va_iast hx hb hK hP hD hS q98 0 eq98 rfl (vp_in_iff.mpr ⟨by omega, by omega⟩) dX12_land_97 (tp_k (.inl (κ 0, 12967, .inl (upd g91 z97.toNatClampNeg z100))) hD (tp_in hG y1 (by decide)) eq98 (fun f101 H locs hP hD hS g103 k102 => ?_))
    have hT := hT.up y1 g103 k102 tp_o32
    have hR := hR.up y1 (by decide) k102
    have hU : mo_U (mo_R g91) (mo_R (upd g91 z97.toNatClampNeg z100)) (547 + 84 * qs + 22) (z100.toInt) := mo_up (by omega) (rfl : z100.toInt = _) (by omega)
    generalize (upd g91 z97.toNatClampNeg z100) = g104 at g103 hU
    have hI := mo_w_sfree hI hU qs 22 (by omega) (by omega) (by omega)
    have hKN := hKN.up hU (Or.inl (by omega))
    have pn105 : mo_R g104 (1) = n1 := (hU.ne (by omega) (by omega)).trans pn92
    have pn106 : mo_R g104 (11) = n11 := (hU.ne (by omega) (by omega)).trans pn93
    have pn107 : mo_R g104 (547 + 84 * qs + 10) = ns10 := (hU.ne (by omega) (by omega)).trans pn94
    refine lv_iconst (v := 0) hx hb dX12_land_98 (by decide) ?_
    refine lv_istore (lv' := [(4, .int 0), (0, .ref h0), (1, .int us), (2, .int v), (3, .int u)]) hx hb dX12_land_99 hl (by decide) rfl (fun ls hl => ?_)
    refine pz_loop (fun n0 H locs ls => ∃ f109 : Nat → va_E, ∃ w108 : Int32, n0 = (6 - (w108.toInt)).toNat ∧ tp_T (mo_O κ Θ) κ τ ν ρ f109 ∧ tp_F τ [32, 35, 36] f f109 ∧ ((mo_RI x b (mo_R (mo_i (f109 (ρ h0 2)))))) ∧ ((mo_KN (fun k => False) (mo_R g27) (mo_R (mo_i (f109 (ρ h0 2)))))) ∧ (((mo_R (mo_i (f109 (ρ h0 2)))) (1) = n1)) ∧ (((mo_R (mo_i (f109 (ρ h0 2)))) (11) = n11)) ∧ (((mo_R (mo_i (f109 (ρ h0 2)))) (547 + 84 * qs + 10) = ns10)) ∧ (0 ≤ w108.toInt ∧ w108.toInt ≤ 6) ∧ va_P (dC, dI) vwCl (va_pl L f109) H ∧ va_D A (va_pl L f109) ∧ va_S A s.heap H locs ∧ lv_has ls 5 [(4, .int w108), (0, .ref h0), (1, .int us), (2, .int v), (3, .int u)]) ?_ _ _ _ _ ⟨f101, 0, rfl, hT, hR, (by rw [g103, mo_i1]; exact hI), (by rw [g103, mo_i1]; exact hKN), (by rw [g103, mo_i1]; have : (0 : Int32).toInt = 0 := rfl; omega), (by rw [g103, mo_i1]; have : (0 : Int32).toInt = 0 := rfl; omega), (by rw [g103, mo_i1]; have : (0 : Int32).toInt = 0 := rfl; omega), (by have : (0 : Int32).toInt = 0 := rfl; omega), hP, hD, hS, lv_sub hl [0, 1, 2, 3, 4] rfl⟩
    intro n0 H locs ls hI ih111
    refine Exists.elim hI (fun f109 hE90 => Exists.elim hE90 (fun w108 hE91 => tn_13 hE91 (fun hn112 hT hR hJ jf113 jf114 jf115 jf116 rw108 hP hD hS hl => ?_)))
    clear hE91 hE90 hI
    refine tpk_32 hT y1 (fun g118 hf_o117 => ?_)
    have hI : mo_RI x b (mo_R g118) := by have q9 := hJ; rw [hf_o117, mo_i1] at q9; exact q9
    rw [hf_o117, mo_i1] at jf113
    have hKN := jf113
    rw [hf_o117, mo_i1] at jf114
    rw [hf_o117, mo_i1] at jf115
    rw [hf_o117, mo_i1] at jf116
    refine lv_iload hx hb dX12_land_101 (lv_at hl 0 rfl) ?_
    refine lv_bipush (v := 6) hx hb dX12_land_103 (by decide) ?_
    refine lv_icmp_ge (tgt := 136) hx hb dX12_land_105 (by decide) (fun c119 => ?_) (fun c119 => ?_)
    · have ic119 : w108.toInt ≥ 6 := zi_ge rfl rfl c119
      exact W.vret hx hb hr (fun t ht hW => ⟨⟨f109, rfl, ⟨hT, hR, ⟨(by rw [hf_o117, mo_i1]; exact hI), (by rw [hf_o117, mo_i1, hf_o26, mo_i1]; exact hKN), (by first | (simp only [hf_o117, hf_o26, mo_i1]; omega) | (simp only [hf_o117, hf_o26, mo_i1]; trivial) | (simp only [hf_o117, hf_o26, mo_i1]; done) | omega)⟩⟩, by rw [ht]; exact hP, va_K.moved hW.alike hK, hD⟩, hS.F ht⟩) hS.2.2 dX12_land_136
    · have ic119 : w108.toInt < 6 := zi_gef rfl rfl c119
      refine lv_aload_n hx hb dX12_land_108 rfl (lv_at hl 1 rfl) ?_
      refine tpk_13 hT ht_h0 (fun o120_x0 o120_x1 o120_x7 o120_x9 o120_x10 o120_x11 o120_x12 o120_x13 o120_x14 o120_x15 o120_x16 o120_x17 o120_x18 o120_x19 o120_x20 o120_x22 o120_x25 o120_x28 o120_x29 o120_x32 o120_x33 o120_x34 o120_x35 o120_x36 o120_x37 o120_x38 o120_x47 o120_x48 hf_o120 ro120_0 ro120_1 ro120_2 ro120_3 ro120_4 ro120_5 ro120_6 ro120_7 ro120_8 ro120_9 ro120_10 ro120_11 ro120_12 ro120_13 ro120_14 => ?_)
      refine tpk_pos (tp_in hG ht_h0 (by decide)) hf_o120 (fun q121 eq121 => ?_)
      refine va_get (D := (dC, dI)) (ci := 12) (v := .ref (ρ h0 2)) (C := RX12) (T := TX12) (N := 53) hx hb hts hfX12 hown hK hP q121 eq121 rfl 2 (by decide) (hts (.fieldLink RX12 7 "ColdShipsModel" "row" "[I") wa_148) (fun _ h9 => h9) rfl dX12_land_109 ?_
      refine lv_iload_n hx hb dX12_land_112 rfl (lv_at hl 2 rfl) ?_
      refine lv_bipush (v := 25) hx hb dX12_land_113 (by decide) ?_
      refine lv_iadd hx hb dX12_land_115 ?_
      refine lv_topi (fun z122 ez122 => ?_)
      have iz122 : z122.toInt = us.toInt + 25 := zi_add ez122 rfl rfl (by omega) (by omega)
      refine lv_iload hx hb dX12_land_116 (lv_at hl 0 rfl) ?_
      refine lv_iadd hx hb dX12_land_118 ?_
      refine lv_topi (fun z123 ez123 => ?_)
      have iz123 : z123.toInt = z122.toInt + w108.toInt := zi_add ez123 rfl rfl (by omega) (by omega)
      refine lv_dup2_11 hx hb dX12_land_119 rfl rfl ?_
      refine tpk_pos (tp_in hG y1 (by decide)) hf_o117 (fun q124 eq124 => ?_)
      refine va_iald hx hb hK hP q124 0 eq124 rfl (vp_in_iff.mpr ⟨by omega, by omega⟩) dX12_land_120 ?_
      refine lv_topi (fun z125 ez125 => ?_)
      refine lv_aload_n hx hb dX12_land_121 rfl (lv_at hl 1 rfl) ?_
      refine va_get (D := (dC, dI)) (ci := 12) (v := .ref (ρ h0 5)) (C := RX12) (T := TX12) (N := 53) hx hb hts hfX12 hown hK hP q121 eq121 rfl 5 (by decide) (hts (.fieldLink RX12 20 "ColdShipsModel" "moved" "[I") wa_152) (fun _ h9 => h9) rfl dX12_land_122 ?_
      refine lv_iload hx hb dX12_land_125 (lv_at hl 0 rfl) ?_
      refine tpk_35 hT y4 (fun g127 hf_o126 => ?_)
      refine tpk_pos (tp_in hG y4 (by decide)) hf_o126 (fun q128 eq128 => ?_)
      refine va_iald hx hb hK hP q128 0 eq128 rfl (vp_in_iff.mpr ⟨by omega, by omega⟩) dX12_land_127 ?_
      refine lv_topi (fun z129 ez129 => ?_)
      refine lv_iadd hx hb dX12_land_128 ?_
      refine lv_topi (fun z130 ez130 => ?_)
      refine va_iast hx hb hK hP hD hS q124 0 eq124 rfl (vp_in_iff.mpr ⟨by omega, by omega⟩) dX12_land_129 (tp_k (.inl (κ 0, 12967, .inl (upd g118 z123.toNatClampNeg z130))) hD (tp_in hG y1 (by decide)) eq124 (fun f131 H locs hP hD hS g133 k132 => ?_))
      have hT := hT.up y1 g133 k132 tp_o32
      have hR := hR.up y1 (by decide) k132
      have hU : mo_U (mo_R g118) (mo_R (upd g118 z123.toNatClampNeg z130)) (547 + 84 * qs + 25 + w108.toInt) (z130.toInt) := mo_up (by omega) (rfl : z130.toInt = _) (by omega)
      generalize (upd g118 z123.toNatClampNeg z130) = g134 at g133 hU
      have hI := mo_w_sfree hI hU qs (25 + w108.toInt) (by omega) (by omega) (by omega)
      have hKN := hKN.up hU (Or.inl (by omega))
      have pn135 : mo_R g134 (1) = n1 := (hU.ne (by omega) (by omega)).trans jf114
      have pn136 : mo_R g134 (11) = n11 := (hU.ne (by omega) (by omega)).trans jf115
      have pn137 : mo_R g134 (547 + 84 * qs + 10) = ns10 := (hU.ne (by omega) (by omega)).trans jf116
      obtain ⟨z138, ez138⟩ : ∃ y : Int32, y = w108 + 1 := ⟨_, rfl⟩
      refine lv_iinc (v := z138) (lv' := [(4, .int z138), (0, .ref h0), (1, .int us), (2, .int v), (3, .int u)]) hx hb dX12_land_130 hl (k := 0) rfl (by rw [ez138]; rfl) (by decide) rfl (fun ls hl => ?_)
      have iz138 : z138.toInt = w108.toInt + 1 := zi_add ez138 rfl rfl (by omega) (by omega)
      refine lv_goto (tgt := 101) hx hb dX12_land_133 (by decide) ?_
      exact ih111 _ _ _ _ (by rw [hn112]; omega) ⟨f131, z138, rfl, hT, hR, (by rw [g133, mo_i1]; exact hI), (by rw [g133, mo_i1]; exact hKN), (by rw [g133, mo_i1]; omega), (by rw [g133, mo_i1]; omega), (by rw [g133, mo_i1]; omega), (by omega), hP, hD, hS, lv_sub hl [0, 1, 2, 3, 4] rfl⟩
  · refine lv_if_ne (tgt := 65) hx hb dX12_land_58 (by decide) (fun c139 => ?_) (fun c139 => ?_)
    · have ic139 : z74.toInt ≠ 0 := zi_ne rfl rfl c139
      refine lv_aload_n hx hb dX12_land_65 rfl (lv_at hl 0 rfl) ?_
      refine va_get (D := (dC, dI)) (ci := 12) (v := .ref (ρ h0 2)) (C := RX12) (T := TX12) (N := 53) hx hb hts hfX12 hown hK hP q70 eq70 rfl 2 (by decide) (hts (.fieldLink RX12 7 "ColdShipsModel" "row" "[I") wa_148) (fun _ h9 => h9) rfl dX12_land_66 ?_
      refine lv_iload_n hx hb dX12_land_69 rfl (lv_at hl 1 rfl) ?_
      refine lv_bipush (v := 23) hx hb dX12_land_70 (by decide) ?_
      refine lv_iadd hx hb dX12_land_72 ?_
      refine lv_topi (fun z140 ez140 => ?_)
      have iz140 : z140.toInt = us.toInt + 23 := zi_add ez140 rfl rfl (by omega) (by omega)
      refine va_iald hx hb hK hP q73 0 eq73 rfl (vp_in_iff.mpr ⟨by omega, by omega⟩) dX12_land_73 ?_
      refine lv_topi (fun z141 ez141 => ?_)
      exact hj76 _ _ _ _ ⟨z141, rfl, hP, hD, hS, lv_sub hl [0, 1, 2, 3] rfl⟩
    · have ic139 : z74.toInt = 0 := zi_nef rfl rfl c139
      refine lv_iload_n hx hb dX12_land_61 rfl (lv_at hl 3 rfl) ?_
      refine lv_goto (tgt := 74) hx hb dX12_land_62 (by decide) ?_
      exact hj76 _ _ _ _ ⟨u, rfl, hP, hD, hS, lv_sub hl [0, 1, 2, 3] rfl⟩

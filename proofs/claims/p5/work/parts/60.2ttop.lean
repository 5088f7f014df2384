set_option maxHeartbeats 4000000 in
set_option maxRecDepth 100000 in
theorem t_X11_of (l : Launch) (dC : Nat → ClassId) (dI : Nat → Nat → Nat) (sz : Nat) (Ω : Nat → (Nat → Nat) → va_E → Prop) (κ : Nat → ClassId) (τ ν : Nat → Nat) (ρ : Nat → Nat → Nat) (L : List Nat) (f : Nat → va_E) (hG : tp_G τ ν ρ L) (hT : tp_T Ω κ τ ν ρ f) (h0 : Nat) (v : Int32) (u : Int32) (ht_h0 : τ h0 = 12) : Met l yX11_of wqX11_of ({ frames := 4, cells := 0, slots := 0, locals := 1200 }) (va_Pc [.ref h0, .int v, .int u] (pz_B dC dI (tp_K κ) (va_pl L f) sz)) (va_Qi (fun (r : Int32) (f1 : Nat → va_E) => tp_T Ω κ τ ν ρ f1 ∧ tp_F τ [2, 3, 4, 5, 6, 7, 8, 9, 10, 11, 12, 20, 21, 22, 26, 27, 28] f f1 ∧ True ∧ True) (fun (f1 : Nat → va_E) (t : State) => pz_E dC dI (tp_K κ) (va_A (va_pl L f) sz) (va_pl L f1) t) (va_A (va_pl L f) sz)) 0 0 (va_A (va_pl L f) sz) := by
  refine Met.ofW (cc := cX11_of) (maxL := 4) (ret := some .int) (by decide) rfl ?_
  intro p e s m args below meth c s₁ B hml hv
  obtain ⟨rfl, hsz, hP, hK, hD0, hN⟩ := hv
  have hx := B.exec
  have hb := B.bytes
  have hr := B.returns
  have hts := fun (w : Cond) (h : w ∈ WALL) => atoms_spec (ws := wqX11_of) B.pre w (List.mem_cons_of_mem _ h)
  have hown : s.vm.findClass RX11 = some m.cls := findClass_of_methodNamed B.named
  have hlocks := B.notSynchronized
  subst hsz
  have hD := hD0.self (sz := s.heap.size)
  generalize hAe : va_A (va_pl L f) s.heap.size = A at hD ⊢
  have hA : ∀ q : Nat, s.heap.size ≤ q → A q := fun q h => by rw [← hAe]; exact Or.inr h
  have hS : va_S A s.heap s.heap [] := va_S.rf
  have hR : tp_F τ [2, 3, 4, 5, 6, 7, 8, 9, 10, 11, 12, 20, 21, 22, 26, 27, 28] f f := tp_F.rf
  have hl := lv_entry ([.ref h0, .int v, .int u]) (n := 4) (Nat.le_of_ble_eq_true rfl)
  rw [lg_entry_eq]
  generalize (lg_sl ([.ref h0, .int v, .int u]) ++ List.replicate (4 - (lg_sl ([.ref h0, .int v, .int u])).length) Slot.unset).toArray = ls at hl ⊢
  have hl : lv_has ls 4 [(0, .ref h0), (1, .int v), (2, .int u)] := hl
  refine lv_aload_n hx hb dX11_of_0 rfl (lv_at hl 0 rfl) ?_
  refine tgk_12 hG ht_h0 (fun y1 y2 y3 y4 y5 y6 => ?_)
  refine tpk_12 hT ht_h0 (fun o7_x6 hf_o7 => ?_)
  refine tpk_pos (tp_in hG ht_h0 (by decide)) hf_o7 (fun q8 eq8 => ?_)
  refine va_get (D := (dC, dI)) (ci := 11) (v := .ref (ρ h0 0)) (C := RX11) (T := TX11) (N := 7) hx hb hts hfX11 hown hK hP q8 eq8 rfl 0 (by decide) (hts (.fieldLink RX11 10 "ColdShips" "world" "LColdShips$World;") wa_15) (fun _ h9 => h9) rfl dX11_of_1 ?_
  refine lv_iload_n hx hb dX11_of_4 rfl (lv_at hl 1 rfl) ?_
  refine tgk_11 hG y1 (fun y9 y9n y10 y10n y11 y12 y13 y14 y15 y16 y17 y17w y17m y18 y18w y18m y19 y19w y19m y20 y20w y20m => ?_)
  refine tpk_11 hT y1 (fun o21_x0 o21_x1 o21_x2 o21_x3 o21_x4 o21_x5 o21_x6 hf_o21 ro21_0 ro21_1 ro21_2 ro21_3 => ?_)
  refine tpk_pos (tp_in hG y1 (by decide)) hf_o21 (fun q22 eq22 => ?_)
  refine pz_calli (va_runV (As := [.int v]) (rest := []) ⟨hx, hb, hml, hown, hts⟩ (t_X10_hasShip l dC dI _ Ω κ τ ν ρ L f hG hT (ρ h0 0) v y1 o21_x0 o21_x1 o21_x2 o21_x3 o21_x4 o21_x5 o21_x6 hf_o21) (cwV 1 hts gX11_of_X10_hasShip rfl rfl rfl ⟨rfl, pd_X10_hasShip⟩ ⟨Nat.le_of_ble_eq_true rfl, Nat.le_of_ble_eq_true rfl⟩) ⟨pz_blind, va_recv hK hP (ci := 10) (q0 := q22) rfl eq22, pz_pre hP hK hD hN⟩ rfl rfl hl.1 rfl (lv_room (Nat.le_of_ble_eq_true rfl)) dX11_of_5 ⟨Nat.le_of_ble_eq_true rfl, Nat.le_of_ble_eq_true rfl⟩) (fun r23 hw24 => ?_)
  obtain ⟨hw24r, hw24p⟩ := hw24
  refine lv_if_ne (tgt := 13) hx hb dX11_of_8 (by decide) (fun c25 => ?_) (fun c25 => ?_)
  · have ic25 : r23.toInt ≠ 0 := zi_ne rfl rfl c25
    have p26 : 0 ≤ v.toInt ∧ v.toInt < o21_x5.toInt := (tp_cond.yes hw24p) (by omega)
    refine lv_aload_n hx hb dX11_of_13 rfl (lv_at hl 0 rfl) ?_
    refine va_get (D := (dC, dI)) (ci := 11) (v := .ref (ρ h0 0)) (C := RX11) (T := TX11) (N := 7) hx hb hts hfX11 hown hK hP q8 eq8 rfl 0 (by decide) (hts (.fieldLink RX11 10 "ColdShips" "world" "LColdShips$World;") wa_15) (fun _ h9 => h9) rfl dX11_of_14 ?_
    refine va_getN (D := (dC, dI)) (ci := 10) (v := .ref (ρ (ρ h0 0) 10)) (C := RX10) (T := TX10) (N := 19) hx hb hts hfX10 hown hK hP q22 eq22 rfl 10 (by decide) (va_Nw.use rfl (hN.1 (.fieldLinkNest RX11 84 "ColdShips$World" "ships" "[LColdShips$Ship;" "ColdShips") nzw_69)) (fun _ h9 => h9) rfl dX11_of_17 ?_
    refine lv_iload_n hx hb dX11_of_20 rfl (lv_at hl 1 rfl) ?_
    refine tpk_25 hT y12 (fun g28 hf_o27 hf_o27e => ?_)
    refine tpk_pos (tp_in hG y12 (by decide)) hf_o27 (fun q29 eq29 => ?_)
    refine va_aldq hx hb hK hP q29 5 eq29 rfl (vp_in_iff.mpr ⟨by omega, by omega⟩) dX11_of_21 ?_
    obtain ⟨b30, hb31⟩ : ∃ b : Nat, b = ρ (ρ (ρ h0 0) 10) v.toNatClampNeg := ⟨_, rfl⟩
    have hb31t : τ b30 = 6 := by rw [hb31]; exact tpg_25 hG y12 _ (zi_cl (vp_in_iff.mpr ⟨by omega, by omega⟩))
    have hb31g : g28 v.toNatClampNeg = some b30 := by rw [hb31]; exact hf_o27e _ (zi_cl (vp_in_iff.mpr ⟨by omega, by omega⟩))
    refine W.eq (g2 := F0 m 22 ls (.ref b30 :: [])) (congrArg (fun o => F0 m 22 ls (va_rf o :: [])) hb31g) ?_
    refine lv_astore_n (lv' := [(3, .ref b30), (0, .ref h0), (1, .int v), (2, .int u)]) hx hb dX11_of_22 rfl hl (by decide) rfl (fun ls hl => ?_)
    refine lv_iload_n hx hb dX11_of_23 rfl (lv_at hl 3 rfl) ?_
    rcases zi_sw u 0 9 with h32 | h32
    · refine lv_tableOut (tgt := 153) hx hb dX11_of_24 h32 (by decide) ?_
      refine lv_iconst (v := (-1)) hx hb dX11_of_153 (by decide) ?_
      exact W.iret (v := (-1)) hx hb hr (fun t ht hW => ⟨⟨(-1), f, rfl, ⟨hT, hR, trivial, trivial⟩, by rw [ht]; exact hP, va_K.moved hW.alike hK, hD⟩, hS.F ht⟩) hS.2.2 dX11_of_154
    · rcases (show u.toInt = 0 ∨ u.toInt = 1 ∨ u.toInt = 2 ∨ u.toInt = 3 ∨ u.toInt = 4 ∨ u.toInt = 5 ∨ u.toInt = 6 ∨ u.toInt = 7 ∨ u.toInt = 8 ∨ u.toInt = 9 by omega) with h32k | h32k | h32k | h32k | h32k | h32k | h32k | h32k | h32k | h32k
      · refine lv_tableIn (tgt := 80) hx hb dX11_of_24 (by omega) (by omega) (by rw [h32k]; rfl) (by decide) ?_
        refine lv_aload_n hx hb dX11_of_80 rfl (lv_at hl 0 rfl) ?_
        refine tgk_6 hG hb31t (fun y33 y34 y34n y35 y35n y36 y36n y37 y37n y38 y38n y39 y39n => ?_)
        refine tpk_6 hT hb31t (fun o40_x1 o40_x2 o40_x3 o40_x4 o40_x5 o40_x6 o40_x10 o40_x11 o40_x12 o40_x14 hf_o40 ro40_0 ro40_1 ro40_2 => ?_)
        refine tpk_pos (tp_in hG hb31t (by decide)) hf_o40 (fun q41 eq41 => ?_)
        refine va_getN (D := (dC, dI)) (ci := 5) (v := .int o40_x2) (C := RX5) (T := TX5) (N := 17) hx hb hts hfX5 hown hK hP q41 eq41 rfl 2 (by decide) (va_Nw.use rfl (hN.1 (.fieldLinkNest RX11 160 "ColdShips$Ship" "where" "I" "ColdShips") nzw_28)) (fun _ h9 => h9) rfl dX11_of_81 ?_
        exact W.iret (v := o40_x2) hx hb hr (fun t ht hW => ⟨⟨o40_x2, f, rfl, ⟨hT, hR, trivial, trivial⟩, by rw [ht]; exact hP, va_K.moved hW.alike hK, hD⟩, hS.F ht⟩) hS.2.2 dX11_of_84
      · refine lv_tableIn (tgt := 85) hx hb dX11_of_24 (by omega) (by omega) (by rw [h32k]; rfl) (by decide) ?_
        refine lv_aload_n hx hb dX11_of_85 rfl (lv_at hl 0 rfl) ?_
        refine tgk_6 hG hb31t (fun y42 y43 y43n y44 y44n y45 y45n y46 y46n y47 y47n y48 y48n => ?_)
        refine tpk_6 hT hb31t (fun o49_x1 o49_x2 o49_x3 o49_x4 o49_x5 o49_x6 o49_x10 o49_x11 o49_x12 o49_x14 hf_o49 ro49_0 ro49_1 ro49_2 => ?_)
        refine tpk_pos (tp_in hG hb31t (by decide)) hf_o49 (fun q50 eq50 => ?_)
        refine va_getN (D := (dC, dI)) (ci := 5) (v := .int o49_x3) (C := RX5) (T := TX5) (N := 17) hx hb hts hfX5 hown hK hP q50 eq50 rfl 3 (by decide) (va_Nw.use rfl (hN.1 (.fieldLinkNest RX11 163 "ColdShips$Ship" "left" "I" "ColdShips") nzw_30)) (fun _ h9 => h9) rfl dX11_of_86 ?_
        exact W.iret (v := o49_x3) hx hb hr (fun t ht hW => ⟨⟨o49_x3, f, rfl, ⟨hT, hR, trivial, trivial⟩, by rw [ht]; exact hP, va_K.moved hW.alike hK, hD⟩, hS.F ht⟩) hS.2.2 dX11_of_89
      · refine lv_tableIn (tgt := 90) hx hb dX11_of_24 (by omega) (by omega) (by rw [h32k]; rfl) (by decide) ?_
        refine lv_aload_n hx hb dX11_of_90 rfl (lv_at hl 0 rfl) ?_
        refine tgk_6 hG hb31t (fun y51 y52 y52n y53 y53n y54 y54n y55 y55n y56 y56n y57 y57n => ?_)
        refine tpk_6 hT hb31t (fun o58_x1 o58_x2 o58_x3 o58_x4 o58_x5 o58_x6 o58_x10 o58_x11 o58_x12 o58_x14 hf_o58 ro58_0 ro58_1 ro58_2 => ?_)
        refine tpk_pos (tp_in hG hb31t (by decide)) hf_o58 (fun q59 eq59 => ?_)
        refine va_getN (D := (dC, dI)) (ci := 5) (v := .ref (ρ b30 0)) (C := RX5) (T := TX5) (N := 17) hx hb hts hfX5 hown hK hP q59 eq59 rfl 0 (by decide) (va_Nw.use rfl (hN.1 (.fieldLinkNest RX11 166 "ColdShips$Ship" "tank" "LColdShips$Tank;" "ColdShips") nzw_22)) (fun _ h9 => h9) rfl dX11_of_91 ?_
        refine tgk_8 hG y51 (fun y60 y60n y61 y61n y62 y62n => ?_)
        refine tpk_8 hT y51 (fun o63_x0 o63_x1 o63_x2 o63_x3 hf_o63 ro63_0 => ?_)
        refine tpk_pos (tp_in hG y51 (by decide)) hf_o63 (fun q64 eq64 => ?_)
        refine va_getN (D := (dC, dI)) (ci := 7) (v := .int o63_x1) (C := RX7) (T := TX7) (N := 7) hx hb hts hfX7 hown hK hP q64 eq64 rfl 1 (by decide) (va_Nw.use rfl (hN.1 (.fieldLinkNest RX11 170 "ColdShips$Tank" "gas" "I" "ColdShips") nzw_15)) (fun _ h9 => h9) rfl dX11_of_94 ?_
        exact W.iret (v := o63_x1) hx hb hr (fun t ht hW => ⟨⟨o63_x1, f, rfl, ⟨hT, hR, trivial, trivial⟩, by rw [ht]; exact hP, va_K.moved hW.alike hK, hD⟩, hS.F ht⟩) hS.2.2 dX11_of_97
      · refine lv_tableIn (tgt := 98) hx hb dX11_of_24 (by omega) (by omega) (by rw [h32k]; rfl) (by decide) ?_
        refine lv_aload_n hx hb dX11_of_98 rfl (lv_at hl 0 rfl) ?_
        refine tgk_6 hG hb31t (fun y65 y66 y66n y67 y67n y68 y68n y69 y69n y70 y70n y71 y71n => ?_)
        refine tpk_6 hT hb31t (fun o72_x1 o72_x2 o72_x3 o72_x4 o72_x5 o72_x6 o72_x10 o72_x11 o72_x12 o72_x14 hf_o72 ro72_0 ro72_1 ro72_2 => ?_)
        refine tpk_pos (tp_in hG hb31t (by decide)) hf_o72 (fun q73 eq73 => ?_)
        refine va_getN (D := (dC, dI)) (ci := 5) (v := .ref (ρ b30 0)) (C := RX5) (T := TX5) (N := 17) hx hb hts hfX5 hown hK hP q73 eq73 rfl 0 (by decide) (va_Nw.use rfl (hN.1 (.fieldLinkNest RX11 166 "ColdShips$Ship" "tank" "LColdShips$Tank;" "ColdShips") nzw_22)) (fun _ h9 => h9) rfl dX11_of_99 ?_
        refine tgk_8 hG y65 (fun y74 y74n y75 y75n y76 y76n => ?_)
        refine tpk_8 hT y65 (fun o77_x0 o77_x1 o77_x2 o77_x3 hf_o77 ro77_0 => ?_)
        refine tpk_pos (tp_in hG y65 (by decide)) hf_o77 (fun q78 eq78 => ?_)
        refine va_getN (D := (dC, dI)) (ci := 7) (v := .int o77_x2) (C := RX7) (T := TX7) (N := 7) hx hb hts hfX7 hown hK hP q78 eq78 rfl 2 (by decide) (va_Nw.use rfl (hN.1 (.fieldLinkNest RX11 175 "ColdShips$Tank" "vapor" "I" "ColdShips") nzw_16)) (fun _ h9 => h9) rfl dX11_of_102 ?_
        exact W.iret (v := o77_x2) hx hb hr (fun t ht hW => ⟨⟨o77_x2, f, rfl, ⟨hT, hR, trivial, trivial⟩, by rw [ht]; exact hP, va_K.moved hW.alike hK, hD⟩, hS.F ht⟩) hS.2.2 dX11_of_105
      · refine lv_tableIn (tgt := 106) hx hb dX11_of_24 (by omega) (by omega) (by rw [h32k]; rfl) (by decide) ?_
        refine lv_aload_n hx hb dX11_of_106 rfl (lv_at hl 0 rfl) ?_
        refine tgk_6 hG hb31t (fun y79 y80 y80n y81 y81n y82 y82n y83 y83n y84 y84n y85 y85n => ?_)
        refine tpk_6 hT hb31t (fun o86_x1 o86_x2 o86_x3 o86_x4 o86_x5 o86_x6 o86_x10 o86_x11 o86_x12 o86_x14 hf_o86 ro86_0 ro86_1 ro86_2 => ?_)
        refine tpk_pos (tp_in hG hb31t (by decide)) hf_o86 (fun q87 eq87 => ?_)
        refine va_getN (D := (dC, dI)) (ci := 5) (v := .ref (ρ b30 0)) (C := RX5) (T := TX5) (N := 17) hx hb hts hfX5 hown hK hP q87 eq87 rfl 0 (by decide) (va_Nw.use rfl (hN.1 (.fieldLinkNest RX11 166 "ColdShips$Ship" "tank" "LColdShips$Tank;" "ColdShips") nzw_22)) (fun _ h9 => h9) rfl dX11_of_107 ?_
        refine tgk_8 hG y79 (fun y88 y88n y89 y89n y90 y90n => ?_)
        refine tpk_8 hT y79 (fun o91_x0 o91_x1 o91_x2 o91_x3 hf_o91 ro91_0 => ?_)
        refine tpk_pos (tp_in hG y79 (by decide)) hf_o91 (fun q92 eq92 => ?_)
        refine va_getN (D := (dC, dI)) (ci := 7) (v := .int o91_x3) (C := RX7) (T := TX7) (N := 7) hx hb hts hfX7 hown hK hP q92 eq92 rfl 3 (by decide) (va_Nw.use rfl (hN.1 (.fieldLinkNest RX11 178 "ColdShips$Tank" "warm" "I" "ColdShips") nzw_18)) (fun _ h9 => h9) rfl dX11_of_110 ?_
        exact W.iret (v := o91_x3) hx hb hr (fun t ht hW => ⟨⟨o91_x3, f, rfl, ⟨hT, hR, trivial, trivial⟩, by rw [ht]; exact hP, va_K.moved hW.alike hK, hD⟩, hS.F ht⟩) hS.2.2 dX11_of_113
      · refine lv_tableIn (tgt := 114) hx hb dX11_of_24 (by omega) (by omega) (by rw [h32k]; rfl) (by decide) ?_
        refine lv_aload_n hx hb dX11_of_114 rfl (lv_at hl 0 rfl) ?_
        refine tgk_6 hG hb31t (fun y93 y94 y94n y95 y95n y96 y96n y97 y97n y98 y98n y99 y99n => ?_)
        refine tpk_6 hT hb31t (fun o100_x1 o100_x2 o100_x3 o100_x4 o100_x5 o100_x6 o100_x10 o100_x11 o100_x12 o100_x14 hf_o100 ro100_0 ro100_1 ro100_2 => ?_)
        refine tpk_pos (tp_in hG hb31t (by decide)) hf_o100 (fun q101 eq101 => ?_)
        refine va_getN (D := (dC, dI)) (ci := 5) (v := .ref (ρ b30 0)) (C := RX5) (T := TX5) (N := 17) hx hb hts hfX5 hown hK hP q101 eq101 rfl 0 (by decide) (va_Nw.use rfl (hN.1 (.fieldLinkNest RX11 166 "ColdShips$Ship" "tank" "LColdShips$Tank;" "ColdShips") nzw_22)) (fun _ h9 => h9) rfl dX11_of_115 ?_
        refine tgk_8 hG y93 (fun y102 y102n y103 y103n y104 y104n => ?_)
        refine tpk_8 hT y93 (fun o105_x0 o105_x1 o105_x2 o105_x3 hf_o105 ro105_0 => ?_)
        refine tpk_pos (tp_in hG y93 (by decide)) hf_o105 (fun q106 eq106 => ?_)
        refine pz_calli (va_runV (As := []) (rest := []) ⟨hx, hb, hml, hown, hts⟩ (t_X7_press l dC dI _ Ω κ τ ν ρ L f hG hT (ρ b30 0) y93) (cwV 0 hts gX11_of_X7_press rfl rfl rfl ⟨rfl, pd_X7_press⟩ ⟨Nat.le_of_ble_eq_true rfl, Nat.le_of_ble_eq_true rfl⟩) ⟨pz_blind, va_recv hK hP (ci := 7) (q0 := q106) rfl eq106, pz_pre hP hK hD hN⟩ rfl rfl hl.1 rfl (lv_room (Nat.le_of_ble_eq_true rfl)) dX11_of_118 ⟨Nat.le_of_ble_eq_true rfl, Nat.le_of_ble_eq_true rfl⟩) (fun r107 hw108 => ?_)
        obtain ⟨hw108r, hw108p⟩ := hw108
        exact W.iret (v := r107) hx hb hr (fun t ht hW => ⟨⟨r107, f, rfl, ⟨hT, hR, trivial, trivial⟩, by rw [ht]; exact hP, va_K.moved hW.alike hK, hD⟩, hS.F ht⟩) hS.2.2 dX11_of_121
      · refine lv_tableIn (tgt := 122) hx hb dX11_of_24 (by omega) (by omega) (by rw [h32k]; rfl) (by decide) ?_
        refine lv_aload_n hx hb dX11_of_122 rfl (lv_at hl 0 rfl) ?_
        refine tgk_6 hG hb31t (fun y109 y110 y110n y111 y111n y112 y112n y113 y113n y114 y114n y115 y115n => ?_)
        refine tpk_6 hT hb31t (fun o116_x1 o116_x2 o116_x3 o116_x4 o116_x5 o116_x6 o116_x10 o116_x11 o116_x12 o116_x14 hf_o116 ro116_0 ro116_1 ro116_2 => ?_)
        refine tpk_pos (tp_in hG hb31t (by decide)) hf_o116 (fun q117 eq117 => ?_)
        refine va_getN (D := (dC, dI)) (ci := 5) (v := .int o116_x6) (C := RX5) (T := TX5) (N := 17) hx hb hts hfX5 hown hK hP q117 eq117 rfl 6 (by decide) (va_Nw.use rfl (hN.1 (.fieldLinkNest RX11 144 "ColdShips$Ship" "orders" "I" "ColdShips") nzw_35)) (fun _ h9 => h9) rfl dX11_of_123 ?_
        exact W.iret (v := o116_x6) hx hb hr (fun t ht hW => ⟨⟨o116_x6, f, rfl, ⟨hT, hR, trivial, trivial⟩, by rw [ht]; exact hP, va_K.moved hW.alike hK, hD⟩, hS.F ht⟩) hS.2.2 dX11_of_126
      · refine lv_tableIn (tgt := 127) hx hb dX11_of_24 (by omega) (by omega) (by rw [h32k]; rfl) (by decide) ?_
        refine lv_aload_n hx hb dX11_of_127 rfl (lv_at hl 0 rfl) ?_
        refine tgk_6 hG hb31t (fun y118 y119 y119n y120 y120n y121 y121n y122 y122n y123 y123n y124 y124n => ?_)
        refine tpk_6 hT hb31t (fun o125_x1 o125_x2 o125_x3 o125_x4 o125_x5 o125_x6 o125_x10 o125_x11 o125_x12 o125_x14 hf_o125 ro125_0 ro125_1 ro125_2 => ?_)
        refine tpk_pos (tp_in hG hb31t (by decide)) hf_o125 (fun q126 eq126 => ?_)
        refine pz_calli (va_runV (As := []) (rest := []) ⟨hx, hb, hml, hown, hts⟩ (t_X5_tonsLeft l dC dI _ Ω κ τ ν ρ L f hG hT b30 hb31t) (cwV 0 hts gX11_of_X5_tonsLeft rfl rfl rfl ⟨rfl, pd_X5_tonsLeft⟩ ⟨Nat.le_of_ble_eq_true rfl, Nat.le_of_ble_eq_true rfl⟩) ⟨pz_blind, va_recv hK hP (ci := 5) (q0 := q126) rfl eq126, pz_pre hP hK hD hN⟩ rfl rfl hl.1 rfl (lv_room (Nat.le_of_ble_eq_true rfl)) dX11_of_128 ⟨Nat.le_of_ble_eq_true rfl, Nat.le_of_ble_eq_true rfl⟩) (fun r127 hw128 => ?_)
        obtain ⟨hw128r, hw128p⟩ := hw128
        exact W.iret (v := r127) hx hb hr (fun t ht hW => ⟨⟨r127, f, rfl, ⟨hT, hR, trivial, trivial⟩, by rw [ht]; exact hP, va_K.moved hW.alike hK, hD⟩, hS.F ht⟩) hS.2.2 dX11_of_131
      · refine lv_tableIn (tgt := 132) hx hb dX11_of_24 (by omega) (by omega) (by rw [h32k]; rfl) (by decide) ?_
        refine lv_aload_n hx hb dX11_of_132 rfl (lv_at hl 0 rfl) ?_
        refine tgk_6 hG hb31t (fun y129 y130 y130n y131 y131n y132 y132n y133 y133n y134 y134n y135 y135n => ?_)
        refine tpk_6 hT hb31t (fun o136_x1 o136_x2 o136_x3 o136_x4 o136_x5 o136_x6 o136_x10 o136_x11 o136_x12 o136_x14 hf_o136 ro136_0 ro136_1 ro136_2 => ?_)
        refine tpk_pos (tp_in hG hb31t (by decide)) hf_o136 (fun q137 eq137 => ?_)
        refine va_getN (D := (dC, dI)) (ci := 5) (v := .ref (ρ b30 0)) (C := RX5) (T := TX5) (N := 17) hx hb hts hfX5 hown hK hP q137 eq137 rfl 0 (by decide) (va_Nw.use rfl (hN.1 (.fieldLinkNest RX11 166 "ColdShips$Ship" "tank" "LColdShips$Tank;" "ColdShips") nzw_22)) (fun _ h9 => h9) rfl dX11_of_133 ?_
        refine tgk_8 hG y129 (fun y138 y138n y139 y139n y140 y140n => ?_)
        refine tpk_8 hT y129 (fun o141_x0 o141_x1 o141_x2 o141_x3 hf_o141 ro141_0 => ?_)
        refine tpk_pos (tp_in hG y129 (by decide)) hf_o141 (fun q142 eq142 => ?_)
        refine pz_calli (va_runV (As := []) (rest := []) ⟨hx, hb, hml, hown, hts⟩ (t_X7_draft l dC dI _ Ω κ τ ν ρ L f hG hT (ρ b30 0) y129) (cwV 0 hts gX11_of_X7_draft rfl rfl rfl ⟨rfl, pd_X7_draft⟩ ⟨Nat.le_of_ble_eq_true rfl, Nat.le_of_ble_eq_true rfl⟩) ⟨pz_blind, va_recv hK hP (ci := 7) (q0 := q142) rfl eq142, pz_pre hP hK hD hN⟩ rfl rfl hl.1 rfl (lv_room (Nat.le_of_ble_eq_true rfl)) dX11_of_136 ⟨Nat.le_of_ble_eq_true rfl, Nat.le_of_ble_eq_true rfl⟩) (fun r143 hw144 => ?_)
        obtain ⟨hw144r, hw144p⟩ := hw144
        exact W.iret (v := r143) hx hb hr (fun t ht hW => ⟨⟨r143, f, rfl, ⟨hT, hR, trivial, trivial⟩, by rw [ht]; exact hP, va_K.moved hW.alike hK, hD⟩, hS.F ht⟩) hS.2.2 dX11_of_139
      · refine lv_tableIn (tgt := 140) hx hb dX11_of_24 (by omega) (by omega) (by rw [h32k]; rfl) (by decide) ?_
        refine lv_aload_n hx hb dX11_of_140 rfl (lv_at hl 0 rfl) ?_
        refine tgk_6 hG hb31t (fun y145 y146 y146n y147 y147n y148 y148n y149 y149n y150 y150n y151 y151n => ?_)
        refine tpk_6 hT hb31t (fun o152_x1 o152_x2 o152_x3 o152_x4 o152_x5 o152_x6 o152_x10 o152_x11 o152_x12 o152_x14 hf_o152 ro152_0 ro152_1 ro152_2 => ?_)
        refine tpk_pos (tp_in hG hb31t (by decide)) hf_o152 (fun q153 eq153 => ?_)
        refine va_getN (D := (dC, dI)) (ci := 5) (v := .int o152_x5) (C := RX5) (T := TX5) (N := 17) hx hb hts hfX5 hown hK hP q153 eq153 rfl 5 (by decide) (va_Nw.use rfl (hN.1 (.fieldLinkNest RX11 191 "ColdShips$Ship" "drifting" "Z" "ColdShips") nzw_33)) (fun _ h9 => h9) rfl dX11_of_141 ?_
        refine lv_if_eq (tgt := 151) hx hb dX11_of_144 (by decide) (fun c154 => ?_) (fun c154 => ?_)
        · have ic154 : o152_x5.toInt = 0 := zi_eq rfl rfl c154
          refine lv_iconst (v := 0) hx hb dX11_of_151 (by decide) ?_
          exact W.iret (v := 0) hx hb hr (fun t ht hW => ⟨⟨0, f, rfl, ⟨hT, hR, trivial, trivial⟩, by rw [ht]; exact hP, va_K.moved hW.alike hK, hD⟩, hS.F ht⟩) hS.2.2 dX11_of_152
        · have ic154 : o152_x5.toInt ≠ 0 := zi_eqf rfl rfl c154
          refine lv_iconst (v := 1) hx hb dX11_of_147 (by decide) ?_
          refine lv_goto (tgt := 152) hx hb dX11_of_148 (by decide) ?_
          exact W.iret (v := 1) hx hb hr (fun t ht hW => ⟨⟨1, f, rfl, ⟨hT, hR, trivial, trivial⟩, by rw [ht]; exact hP, va_K.moved hW.alike hK, hD⟩, hS.F ht⟩) hS.2.2 dX11_of_152
  · have ic25 : r23.toInt = 0 := zi_nef rfl rfl c25
    refine lv_iconst (v := (-1)) hx hb dX11_of_11 (by decide) ?_
    exact W.iret (v := (-1)) hx hb hr (fun t ht hW => ⟨⟨(-1), f, rfl, ⟨hT, hR, trivial, trivial⟩, by rw [ht]; exact hP, va_K.moved hW.alike hK, hD⟩, hS.F ht⟩) hS.2.2 dX11_of_12
set_option maxHeartbeats 4000000 in
set_option maxRecDepth 100000 in
theorem t_X11_part (l : Launch) (dC : Nat → ClassId) (dI : Nat → Nat → Nat) (sz : Nat) (Ω : Nat → (Nat → Nat) → va_E → Prop) (κ : Nat → ClassId) (τ ν : Nat → Nat) (ρ : Nat → Nat → Nat) (L : List Nat) (f : Nat → va_E) (hG : tp_G τ ν ρ L) (hT : tp_T Ω κ τ ν ρ f) (h0 : Nat) (v : Int32) (u : Int32) (ht_h0 : τ h0 = 12) : Met l yX11_part wqX11_part ({ frames := 3, cells := 0, slots := 0, locals := 800 }) (va_Pc [.ref h0, .int v, .int u] (pz_B dC dI (tp_K κ) (va_pl L f) sz)) (va_Qi (fun (r : Int32) (f1 : Nat → va_E) => tp_T Ω κ τ ν ρ f1 ∧ tp_F τ [2, 3, 4, 5, 6, 7, 8, 9, 10, 11, 12, 20, 21, 22, 26, 27, 28] f f1 ∧ True ∧ True) (fun (f1 : Nat → va_E) (t : State) => pz_E dC dI (tp_K κ) (va_A (va_pl L f) sz) (va_pl L f1) t) (va_A (va_pl L f) sz)) 0 0 (va_A (va_pl L f) sz) := by
  refine Met.ofW (cc := cX11_part) (maxL := 3) (ret := some .int) (by decide) rfl ?_
  intro p e s m args below meth c s₁ B hml hv
  obtain ⟨rfl, hsz, hP, hK, hD0, hN⟩ := hv
  have hx := B.exec
  have hb := B.bytes
  have hr := B.returns
  have hts := fun (w : Cond) (h : w ∈ WALL) => atoms_spec (ws := wqX11_part) B.pre w (List.mem_cons_of_mem _ h)
  have hown : s.vm.findClass RX11 = some m.cls := findClass_of_methodNamed B.named
  have hlocks := B.notSynchronized
  subst hsz
  have hD := hD0.self (sz := s.heap.size)
  generalize hAe : va_A (va_pl L f) s.heap.size = A at hD ⊢
  have hA : ∀ q : Nat, s.heap.size ≤ q → A q := fun q h => by rw [← hAe]; exact Or.inr h
  have hS : va_S A s.heap s.heap [] := va_S.rf
  have hR : tp_F τ [2, 3, 4, 5, 6, 7, 8, 9, 10, 11, 12, 20, 21, 22, 26, 27, 28] f f := tp_F.rf
  have hl := lv_entry ([.ref h0, .int v, .int u]) (n := 3) (Nat.le_of_ble_eq_true rfl)
  rw [lg_entry_eq]
  generalize (lg_sl ([.ref h0, .int v, .int u]) ++ List.replicate (3 - (lg_sl ([.ref h0, .int v, .int u])).length) Slot.unset).toArray = ls at hl ⊢
  have hl : lv_has ls 3 [(0, .ref h0), (1, .int v), (2, .int u)] := hl
  refine lv_aload_n hx hb dX11_part_0 rfl (lv_at hl 0 rfl) ?_
  refine tgk_12 hG ht_h0 (fun y1 y2 y3 y4 y5 y6 => ?_)
  refine tpk_12 hT ht_h0 (fun o7_x6 hf_o7 => ?_)
  refine tpk_pos (tp_in hG ht_h0 (by decide)) hf_o7 (fun q8 eq8 => ?_)
  refine va_get (D := (dC, dI)) (ci := 11) (v := .ref (ρ h0 0)) (C := RX11) (T := TX11) (N := 7) hx hb hts hfX11 hown hK hP q8 eq8 rfl 0 (by decide) (hts (.fieldLink RX11 10 "ColdShips" "world" "LColdShips$World;") wa_15) (fun _ h9 => h9) rfl dX11_part_1 ?_
  refine lv_iload_n hx hb dX11_part_4 rfl (lv_at hl 1 rfl) ?_
  refine tgk_11 hG y1 (fun y9 y9n y10 y10n y11 y12 y13 y14 y15 y16 y17 y17w y17m y18 y18w y18m y19 y19w y19m y20 y20w y20m => ?_)
  refine tpk_11 hT y1 (fun o21_x0 o21_x1 o21_x2 o21_x3 o21_x4 o21_x5 o21_x6 hf_o21 ro21_0 ro21_1 ro21_2 ro21_3 => ?_)
  refine tpk_pos (tp_in hG y1 (by decide)) hf_o21 (fun q22 eq22 => ?_)
  refine pz_calli (va_runV (As := [.int v]) (rest := []) ⟨hx, hb, hml, hown, hts⟩ (t_X10_hasShip l dC dI _ Ω κ τ ν ρ L f hG hT (ρ h0 0) v y1 o21_x0 o21_x1 o21_x2 o21_x3 o21_x4 o21_x5 o21_x6 hf_o21) (cwV 1 hts gX11_part_X10_hasShip rfl rfl rfl ⟨rfl, pd_X10_hasShip⟩ ⟨Nat.le_of_ble_eq_true rfl, Nat.le_of_ble_eq_true rfl⟩) ⟨pz_blind, va_recv hK hP (ci := 10) (q0 := q22) rfl eq22, pz_pre hP hK hD hN⟩ rfl rfl hl.1 rfl (lv_room (Nat.le_of_ble_eq_true rfl)) dX11_part_5 ⟨Nat.le_of_ble_eq_true rfl, Nat.le_of_ble_eq_true rfl⟩) (fun r23 hw24 => ?_)
  obtain ⟨hw24r, hw24p⟩ := hw24
  refine lv_if_eq (tgt := 22) hx hb dX11_part_8 (by decide) (fun c25 => ?_) (fun c25 => ?_)
  · have ic25 : r23.toInt = 0 := zi_eq rfl rfl c25
    refine lv_iconst (v := (-1)) hx hb dX11_part_22 (by decide) ?_
    exact W.iret (v := (-1)) hx hb hr (fun t ht hW => ⟨⟨(-1), f, rfl, ⟨hT, hR, trivial, trivial⟩, by rw [ht]; exact hP, va_K.moved hW.alike hK, hD⟩, hS.F ht⟩) hS.2.2 dX11_part_23
  · have ic25 : r23.toInt ≠ 0 := zi_eqf rfl rfl c25
    have p26 : 0 ≤ v.toInt ∧ v.toInt < o21_x5.toInt := (tp_cond.yes hw24p) (by omega)
    refine lv_aload_n hx hb dX11_part_11 rfl (lv_at hl 0 rfl) ?_
    refine va_get (D := (dC, dI)) (ci := 11) (v := .ref (ρ h0 0)) (C := RX11) (T := TX11) (N := 7) hx hb hts hfX11 hown hK hP q8 eq8 rfl 0 (by decide) (hts (.fieldLink RX11 10 "ColdShips" "world" "LColdShips$World;") wa_15) (fun _ h9 => h9) rfl dX11_part_12 ?_
    refine lv_iload_n hx hb dX11_part_15 rfl (lv_at hl 2 rfl) ?_
    refine pz_calli (va_runV (As := [.int u]) (rest := []) ⟨hx, hb, hml, hown, hts⟩ (t_X10_hasTerminal l dC dI _ Ω κ τ ν ρ L f hG hT (ρ h0 0) u y1 o21_x0 o21_x1 o21_x2 o21_x3 o21_x4 o21_x5 o21_x6 hf_o21) (cwV 1 hts gX11_part_X10_hasTerminal rfl rfl rfl ⟨rfl, pd_X10_hasTerminal⟩ ⟨Nat.le_of_ble_eq_true rfl, Nat.le_of_ble_eq_true rfl⟩) ⟨pz_blind, va_recv hK hP (ci := 10) (q0 := q22) rfl eq22, pz_pre hP hK hD hN⟩ rfl rfl hl.1 rfl (lv_room (Nat.le_of_ble_eq_true rfl)) dX11_part_16 ⟨Nat.le_of_ble_eq_true rfl, Nat.le_of_ble_eq_true rfl⟩) (fun r27 hw28 => ?_)
    obtain ⟨hw28r, hw28p⟩ := hw28
    refine lv_if_ne (tgt := 24) hx hb dX11_part_19 (by decide) (fun c29 => ?_) (fun c29 => ?_)
    · have ic29 : r27.toInt ≠ 0 := zi_ne rfl rfl c29
      have p30 : 0 ≤ u.toInt ∧ u.toInt < o21_x4.toInt := (tp_cond.yes hw28p) (by omega)
      refine lv_aload_n hx hb dX11_part_24 rfl (lv_at hl 0 rfl) ?_
      refine va_get (D := (dC, dI)) (ci := 11) (v := .ref (ρ h0 0)) (C := RX11) (T := TX11) (N := 7) hx hb hts hfX11 hown hK hP q8 eq8 rfl 0 (by decide) (hts (.fieldLink RX11 10 "ColdShips" "world" "LColdShips$World;") wa_15) (fun _ h9 => h9) rfl dX11_part_25 ?_
      refine va_getN (D := (dC, dI)) (ci := 10) (v := .ref (ρ (ρ h0 0) 10)) (C := RX10) (T := TX10) (N := 19) hx hb hts hfX10 hown hK hP q22 eq22 rfl 10 (by decide) (va_Nw.use rfl (hN.1 (.fieldLinkNest RX11 84 "ColdShips$World" "ships" "[LColdShips$Ship;" "ColdShips") nzw_69)) (fun _ h9 => h9) rfl dX11_part_28 ?_
      refine lv_iload_n hx hb dX11_part_31 rfl (lv_at hl 1 rfl) ?_
      refine tpk_25 hT y12 (fun g32 hf_o31 hf_o31e => ?_)
      refine tpk_pos (tp_in hG y12 (by decide)) hf_o31 (fun q33 eq33 => ?_)
      refine va_aldq hx hb hK hP q33 5 eq33 rfl (vp_in_iff.mpr ⟨by omega, by omega⟩) dX11_part_32 ?_
      obtain ⟨b34, hb35⟩ : ∃ b : Nat, b = ρ (ρ (ρ h0 0) 10) v.toNatClampNeg := ⟨_, rfl⟩
      have hb35t : τ b34 = 6 := by rw [hb35]; exact tpg_25 hG y12 _ (zi_cl (vp_in_iff.mpr ⟨by omega, by omega⟩))
      have hb35g : g32 v.toNatClampNeg = some b34 := by rw [hb35]; exact hf_o31e _ (zi_cl (vp_in_iff.mpr ⟨by omega, by omega⟩))
      refine W.eq (g2 := F0 m 33 ls (.ref b34 :: [])) (congrArg (fun o => F0 m 33 ls (va_rf o :: [])) hb35g) ?_
      refine tgk_6 hG hb35t (fun y36 y37 y37n y38 y38n y39 y39n y40 y40n y41 y41n y42 y42n => ?_)
      refine tpk_6 hT hb35t (fun o43_x1 o43_x2 o43_x3 o43_x4 o43_x5 o43_x6 o43_x10 o43_x11 o43_x12 o43_x14 hf_o43 ro43_0 ro43_1 ro43_2 => ?_)
      refine tpk_pos (tp_in hG hb35t (by decide)) hf_o43 (fun q44 eq44 => ?_)
      refine va_getN (D := (dC, dI)) (ci := 5) (v := .ref (ρ b34 0)) (C := RX5) (T := TX5) (N := 17) hx hb hts hfX5 hown hK hP q44 eq44 rfl 0 (by decide) (va_Nw.use rfl (hN.1 (.fieldLinkNest RX11 166 "ColdShips$Ship" "tank" "LColdShips$Tank;" "ColdShips") nzw_22)) (fun _ h9 => h9) rfl dX11_part_33 ?_
      refine tgk_8 hG y36 (fun y45 y45n y46 y46n y47 y47n => ?_)
      refine tpk_8 hT y36 (fun o48_x0 o48_x1 o48_x2 o48_x3 hf_o48 ro48_0 => ?_)
      refine tpk_pos (tp_in hG y36 (by decide)) hf_o48 (fun q49 eq49 => ?_)
      refine va_getN (D := (dC, dI)) (ci := 7) (v := .ref (ρ (ρ b34 0) 4)) (C := RX7) (T := TX7) (N := 7) hx hb hts hfX7 hown hK hP q49 eq49 rfl 4 (by decide) (va_Nw.use rfl (hN.1 (.fieldLinkNest RX11 195 "ColdShips$Tank" "parts" "[I" "ColdShips") nzw_19)) (fun _ h9 => h9) rfl dX11_part_36 ?_
      refine lv_iload_n hx hb dX11_part_39 rfl (lv_at hl 2 rfl) ?_
      refine tpk_20 hT y45 y45n (fun g51 hf_o50 => ?_)
      refine tpk_pos (tp_in hG y45 (by decide)) hf_o50 (fun q52 eq52 => ?_)
      refine va_iald hx hb hK hP q52 0 eq52 rfl (vp_in_iff.mpr ⟨by omega, by omega⟩) dX11_part_40 ?_
      refine lv_topi (fun z53 ez53 => ?_)
      exact W.iret (v := z53) hx hb hr (fun t ht hW => ⟨⟨z53, f, rfl, ⟨hT, hR, trivial, trivial⟩, by rw [ht]; exact hP, va_K.moved hW.alike hK, hD⟩, hS.F ht⟩) hS.2.2 dX11_part_41
    · have ic29 : r27.toInt = 0 := zi_nef rfl rfl c29
      refine lv_iconst (v := (-1)) hx hb dX11_part_22 (by decide) ?_
      exact W.iret (v := (-1)) hx hb hr (fun t ht hW => ⟨⟨(-1), f, rfl, ⟨hT, hR, trivial, trivial⟩, by rw [ht]; exact hP, va_K.moved hW.alike hK, hD⟩, hS.F ht⟩) hS.2.2 dX11_part_23
set_option maxHeartbeats 4000000 in
set_option maxRecDepth 100000 in
theorem t_X11_book (l : Launch) (dC : Nat → ClassId) (dI : Nat → Nat → Nat) (sz : Nat) (Ω : Nat → (Nat → Nat) → va_E → Prop) (κ : Nat → ClassId) (τ ν : Nat → Nat) (ρ : Nat → Nat → Nat) (L : List Nat) (f : Nat → va_E) (hG : tp_G τ ν ρ L) (hT : tp_T Ω κ τ ν ρ f) (h0 : Nat) (v : Int32) (u : Int32) (ht_h0 : τ h0 = 12) : Met l yX11_book wqX11_book ({ frames := 3, cells := 0, slots := 0, locals := 800 }) (va_Pc [.ref h0, .int v, .int u] (pz_B dC dI (tp_K κ) (va_pl L f) sz)) (va_Ql (fun (r : Int64) (f1 : Nat → va_E) => tp_T Ω κ τ ν ρ f1 ∧ tp_F τ [2, 3, 4, 5, 6, 7, 8, 9, 10, 11, 12, 20, 21, 22, 26, 27, 28] f f1 ∧ True ∧ True) (fun (f1 : Nat → va_E) (t : State) => pz_E dC dI (tp_K κ) (va_A (va_pl L f) sz) (va_pl L f1) t) (va_A (va_pl L f) sz)) 0 0 (va_A (va_pl L f) sz) := by
  refine Met.ofW (cc := cX11_book) (maxL := 3) (ret := some .long) (by decide) rfl ?_
  intro p e s m args below meth c s₁ B hml hv
  obtain ⟨rfl, hsz, hP, hK, hD0, hN⟩ := hv
  have hx := B.exec
  have hb := B.bytes
  have hr := B.returns
  have hts := fun (w : Cond) (h : w ∈ WALL) => atoms_spec (ws := wqX11_book) B.pre w (List.mem_cons_of_mem _ h)
  have hown : s.vm.findClass RX11 = some m.cls := findClass_of_methodNamed B.named
  have hlocks := B.notSynchronized
  subst hsz
  have hD := hD0.self (sz := s.heap.size)
  generalize hAe : va_A (va_pl L f) s.heap.size = A at hD ⊢
  have hA : ∀ q : Nat, s.heap.size ≤ q → A q := fun q h => by rw [← hAe]; exact Or.inr h
  have hS : va_S A s.heap s.heap [] := va_S.rf
  have hR : tp_F τ [2, 3, 4, 5, 6, 7, 8, 9, 10, 11, 12, 20, 21, 22, 26, 27, 28] f f := tp_F.rf
  have hl := lv_entry ([.ref h0, .int v, .int u]) (n := 3) (Nat.le_of_ble_eq_true rfl)
  rw [lg_entry_eq]
  generalize (lg_sl ([.ref h0, .int v, .int u]) ++ List.replicate (3 - (lg_sl ([.ref h0, .int v, .int u])).length) Slot.unset).toArray = ls at hl ⊢
  have hl : lv_has ls 3 [(0, .ref h0), (1, .int v), (2, .int u)] := hl
  refine lv_aload_n hx hb dX11_book_0 rfl (lv_at hl 0 rfl) ?_
  refine tgk_12 hG ht_h0 (fun y1 y2 y3 y4 y5 y6 => ?_)
  refine tpk_12 hT ht_h0 (fun o7_x6 hf_o7 => ?_)
  refine tpk_pos (tp_in hG ht_h0 (by decide)) hf_o7 (fun q8 eq8 => ?_)
  refine va_get (D := (dC, dI)) (ci := 11) (v := .ref (ρ h0 0)) (C := RX11) (T := TX11) (N := 7) hx hb hts hfX11 hown hK hP q8 eq8 rfl 0 (by decide) (hts (.fieldLink RX11 10 "ColdShips" "world" "LColdShips$World;") wa_15) (fun _ h9 => h9) rfl dX11_book_1 ?_
  refine lv_iload_n hx hb dX11_book_4 rfl (lv_at hl 1 rfl) ?_
  refine tgk_11 hG y1 (fun y9 y9n y10 y10n y11 y12 y13 y14 y15 y16 y17 y17w y17m y18 y18w y18m y19 y19w y19m y20 y20w y20m => ?_)
  refine tpk_11 hT y1 (fun o21_x0 o21_x1 o21_x2 o21_x3 o21_x4 o21_x5 o21_x6 hf_o21 ro21_0 ro21_1 ro21_2 ro21_3 => ?_)
  refine tpk_pos (tp_in hG y1 (by decide)) hf_o21 (fun q22 eq22 => ?_)
  refine pz_calli (va_runV (As := [.int v]) (rest := []) ⟨hx, hb, hml, hown, hts⟩ (t_X10_hasShip l dC dI _ Ω κ τ ν ρ L f hG hT (ρ h0 0) v y1 o21_x0 o21_x1 o21_x2 o21_x3 o21_x4 o21_x5 o21_x6 hf_o21) (cwV 1 hts gX11_book_X10_hasShip rfl rfl rfl ⟨rfl, pd_X10_hasShip⟩ ⟨Nat.le_of_ble_eq_true rfl, Nat.le_of_ble_eq_true rfl⟩) ⟨pz_blind, va_recv hK hP (ci := 10) (q0 := q22) rfl eq22, pz_pre hP hK hD hN⟩ rfl rfl hl.1 rfl (lv_room (Nat.le_of_ble_eq_true rfl)) dX11_book_5 ⟨Nat.le_of_ble_eq_true rfl, Nat.le_of_ble_eq_true rfl⟩) (fun r23 hw24 => ?_)
  obtain ⟨hw24r, hw24p⟩ := hw24
  refine lv_if_eq (tgt := 20) hx hb dX11_book_8 (by decide) (fun c25 => ?_) (fun c25 => ?_)
  · have ic25 : r23.toInt = 0 := zi_eq rfl rfl c25
    refine lv_ldc2 (own := RX11) (v := (-1)) hx hb hown (hts (.constantLong RX11 198 (-1)) wa_660) dX11_book_20 ?_
    exact W.lret (v := (-1)) hx hb hr (fun t ht hW => ⟨⟨(-1), f, rfl, ⟨hT, hR, trivial, trivial⟩, by rw [ht]; exact hP, va_K.moved hW.alike hK, hD⟩, hS.F ht⟩) hS.2.2 dX11_book_23
  · have ic25 : r23.toInt ≠ 0 := zi_eqf rfl rfl c25
    have p26 : 0 ≤ v.toInt ∧ v.toInt < o21_x5.toInt := (tp_cond.yes hw24p) (by omega)
    refine lv_iload_n hx hb dX11_book_11 rfl (lv_at hl 2 rfl) ?_
    refine lv_iconst (v := 0) hx hb dX11_book_12 (by decide) ?_
    refine lv_iconst (v := 3) hx hb dX11_book_13 (by decide) ?_
    refine pz_calli (va_runS (As := [.int u, .int 0, .int 3]) (rest := []) ⟨hx, hb, hml, hown, hts⟩ (t_X11_within l dC dI _ u (0) (3) (u.toInt) (0) (3) rfl rfl rfl) (va_cwS 3 hts gX11_book_X11_within rfl rfl rfl pd_X11_within ⟨Nat.le_of_ble_eq_true rfl, Nat.le_of_ble_eq_true rfl⟩) ⟨pz_blind, pz_pre pz_P0 (hK.sub (tys' := []) [] rfl) (pz_D0 (A := fun _ => True)) hN⟩ rfl rfl hl.1 rfl (lv_room (Nat.le_of_ble_eq_true rfl)) dX11_book_14 ⟨Nat.le_of_ble_eq_true rfl, Nat.le_of_ble_eq_true rfl⟩) (fun r27 hw28 => ?_)
    obtain ⟨hw28r, hw28p⟩ := hw28
    refine lv_if_ne (tgt := 24) hx hb dX11_book_17 (by decide) (fun c29 => ?_) (fun c29 => ?_)
    · have ic29 : r27.toInt ≠ 0 := zi_ne rfl rfl c29
      have p30 : (0) ≤ (u.toInt) ∧ (u.toInt) ≤ (3) := (tp_cond.yes hw28p) (by omega)
      refine lv_aload_n hx hb dX11_book_24 rfl (lv_at hl 0 rfl) ?_
      refine va_get (D := (dC, dI)) (ci := 11) (v := .ref (ρ h0 0)) (C := RX11) (T := TX11) (N := 7) hx hb hts hfX11 hown hK hP q8 eq8 rfl 0 (by decide) (hts (.fieldLink RX11 10 "ColdShips" "world" "LColdShips$World;") wa_15) (fun _ h9 => h9) rfl dX11_book_25 ?_
      refine va_getN (D := (dC, dI)) (ci := 10) (v := .ref (ρ (ρ h0 0) 10)) (C := RX10) (T := TX10) (N := 19) hx hb hts hfX10 hown hK hP q22 eq22 rfl 10 (by decide) (va_Nw.use rfl (hN.1 (.fieldLinkNest RX11 84 "ColdShips$World" "ships" "[LColdShips$Ship;" "ColdShips") nzw_69)) (fun _ h9 => h9) rfl dX11_book_28 ?_
      refine lv_iload_n hx hb dX11_book_31 rfl (lv_at hl 1 rfl) ?_
      refine tpk_25 hT y12 (fun g32 hf_o31 hf_o31e => ?_)
      refine tpk_pos (tp_in hG y12 (by decide)) hf_o31 (fun q33 eq33 => ?_)
      refine va_aldq hx hb hK hP q33 5 eq33 rfl (vp_in_iff.mpr ⟨by omega, by omega⟩) dX11_book_32 ?_
      obtain ⟨b34, hb35⟩ : ∃ b : Nat, b = ρ (ρ (ρ h0 0) 10) v.toNatClampNeg := ⟨_, rfl⟩
      have hb35t : τ b34 = 6 := by rw [hb35]; exact tpg_25 hG y12 _ (zi_cl (vp_in_iff.mpr ⟨by omega, by omega⟩))
      have hb35g : g32 v.toNatClampNeg = some b34 := by rw [hb35]; exact hf_o31e _ (zi_cl (vp_in_iff.mpr ⟨by omega, by omega⟩))
      refine W.eq (g2 := F0 m 33 ls (.ref b34 :: [])) (congrArg (fun o => F0 m 33 ls (va_rf o :: [])) hb35g) ?_
      refine tgk_6 hG hb35t (fun y36 y37 y37n y38 y38n y39 y39n y40 y40n y41 y41n y42 y42n => ?_)
      refine tpk_6 hT hb35t (fun o43_x1 o43_x2 o43_x3 o43_x4 o43_x5 o43_x6 o43_x10 o43_x11 o43_x12 o43_x14 hf_o43 ro43_0 ro43_1 ro43_2 => ?_)
      refine tpk_pos (tp_in hG hb35t (by decide)) hf_o43 (fun q44 eq44 => ?_)
      refine va_getN (D := (dC, dI)) (ci := 5) (v := .ref (ρ b34 9)) (C := RX5) (T := TX5) (N := 17) hx hb hts hfX5 hown hK hP q44 eq44 rfl 9 (by decide) (va_Nw.use rfl (hN.1 (.fieldLinkNest RX11 200 "ColdShips$Ship" "book" "[J" "ColdShips") nzw_39)) (fun _ h9 => h9) rfl dX11_book_33 ?_
      refine lv_iload_n hx hb dX11_book_36 rfl (lv_at hl 2 rfl) ?_
      refine tpk_21 hT y39 y39n (fun g46 hf_o45 => ?_)
      refine tpk_pos (tp_in hG y39 (by decide)) hf_o45 (fun q47 eq47 => ?_)
      refine va_lald hx hb hK hP q47 1 eq47 rfl (vp_in_iff.mpr ⟨by omega, by omega⟩) dX11_book_37 ?_
      refine lv_topl (fun z48 ez48 => ?_)
      exact W.lret (v := z48) hx hb hr (fun t ht hW => ⟨⟨z48, f, rfl, ⟨hT, hR, trivial, trivial⟩, by rw [ht]; exact hP, va_K.moved hW.alike hK, hD⟩, hS.F ht⟩) hS.2.2 dX11_book_38
    · have ic29 : r27.toInt = 0 := zi_nef rfl rfl c29
      refine lv_ldc2 (own := RX11) (v := (-1)) hx hb hown (hts (.constantLong RX11 198 (-1)) wa_660) dX11_book_20 ?_
      exact W.lret (v := (-1)) hx hb hr (fun t ht hW => ⟨⟨(-1), f, rfl, ⟨hT, hR, trivial, trivial⟩, by rw [ht]; exact hP, va_K.moved hW.alike hK, hD⟩, hS.F ht⟩) hS.2.2 dX11_book_23
set_option maxHeartbeats 4000000 in
set_option maxRecDepth 100000 in
theorem t_X11_store (l : Launch) (dC : Nat → ClassId) (dI : Nat → Nat → Nat) (sz : Nat) (Ω : Nat → (Nat → Nat) → va_E → Prop) (κ : Nat → ClassId) (τ ν : Nat → Nat) (ρ : Nat → Nat → Nat) (L : List Nat) (f : Nat → va_E) (hG : tp_G τ ν ρ L) (hT : tp_T Ω κ τ ν ρ f) (h0 : Nat) (v : Int32) (ht_h0 : τ h0 = 12) : Met l yX11_store wqX11_store ({ frames := 3, cells := 0, slots := 0, locals := 800 }) (va_Pc [.ref h0, .int v] (pz_B dC dI (tp_K κ) (va_pl L f) sz)) (va_Qi (fun (r : Int32) (f1 : Nat → va_E) => tp_T Ω κ τ ν ρ f1 ∧ tp_F τ [2, 3, 4, 5, 6, 7, 8, 9, 10, 11, 12, 20, 21, 22, 26, 27, 28] f f1 ∧ True ∧ True) (fun (f1 : Nat → va_E) (t : State) => pz_E dC dI (tp_K κ) (va_A (va_pl L f) sz) (va_pl L f1) t) (va_A (va_pl L f) sz)) 0 0 (va_A (va_pl L f) sz) := by
  refine Met.ofW (cc := cX11_store) (maxL := 2) (ret := some .int) (by decide) rfl ?_
  intro p e s m args below meth c s₁ B hml hv
  obtain ⟨rfl, hsz, hP, hK, hD0, hN⟩ := hv
  have hx := B.exec
  have hb := B.bytes
  have hr := B.returns
  have hts := fun (w : Cond) (h : w ∈ WALL) => atoms_spec (ws := wqX11_store) B.pre w (List.mem_cons_of_mem _ h)
  have hown : s.vm.findClass RX11 = some m.cls := findClass_of_methodNamed B.named
  have hlocks := B.notSynchronized
  subst hsz
  have hD := hD0.self (sz := s.heap.size)
  generalize hAe : va_A (va_pl L f) s.heap.size = A at hD ⊢
  have hA : ∀ q : Nat, s.heap.size ≤ q → A q := fun q h => by rw [← hAe]; exact Or.inr h
  have hS : va_S A s.heap s.heap [] := va_S.rf
  have hR : tp_F τ [2, 3, 4, 5, 6, 7, 8, 9, 10, 11, 12, 20, 21, 22, 26, 27, 28] f f := tp_F.rf
  have hl := lv_entry ([.ref h0, .int v]) (n := 2) (Nat.le_of_ble_eq_true rfl)
  rw [lg_entry_eq]
  generalize (lg_sl ([.ref h0, .int v]) ++ List.replicate (2 - (lg_sl ([.ref h0, .int v])).length) Slot.unset).toArray = ls at hl ⊢
  have hl : lv_has ls 2 [(0, .ref h0), (1, .int v)] := hl
  refine lv_aload_n hx hb dX11_store_0 rfl (lv_at hl 0 rfl) ?_
  refine tgk_12 hG ht_h0 (fun y1 y2 y3 y4 y5 y6 => ?_)
  refine tpk_12 hT ht_h0 (fun o7_x6 hf_o7 => ?_)
  refine tpk_pos (tp_in hG ht_h0 (by decide)) hf_o7 (fun q8 eq8 => ?_)
  refine va_get (D := (dC, dI)) (ci := 11) (v := .ref (ρ h0 0)) (C := RX11) (T := TX11) (N := 7) hx hb hts hfX11 hown hK hP q8 eq8 rfl 0 (by decide) (hts (.fieldLink RX11 10 "ColdShips" "world" "LColdShips$World;") wa_15) (fun _ h9 => h9) rfl dX11_store_1 ?_
  refine lv_iload_n hx hb dX11_store_4 rfl (lv_at hl 1 rfl) ?_
  refine tgk_11 hG y1 (fun y9 y9n y10 y10n y11 y12 y13 y14 y15 y16 y17 y17w y17m y18 y18w y18m y19 y19w y19m y20 y20w y20m => ?_)
  refine tpk_11 hT y1 (fun o21_x0 o21_x1 o21_x2 o21_x3 o21_x4 o21_x5 o21_x6 hf_o21 ro21_0 ro21_1 ro21_2 ro21_3 => ?_)
  refine tpk_pos (tp_in hG y1 (by decide)) hf_o21 (fun q22 eq22 => ?_)
  refine pz_calli (va_runV (As := [.int v]) (rest := []) ⟨hx, hb, hml, hown, hts⟩ (t_X10_hasTerminal l dC dI _ Ω κ τ ν ρ L f hG hT (ρ h0 0) v y1 o21_x0 o21_x1 o21_x2 o21_x3 o21_x4 o21_x5 o21_x6 hf_o21) (cwV 1 hts gX11_store_X10_hasTerminal rfl rfl rfl ⟨rfl, pd_X10_hasTerminal⟩ ⟨Nat.le_of_ble_eq_true rfl, Nat.le_of_ble_eq_true rfl⟩) ⟨pz_blind, va_recv hK hP (ci := 10) (q0 := q22) rfl eq22, pz_pre hP hK hD hN⟩ rfl rfl hl.1 rfl (lv_room (Nat.le_of_ble_eq_true rfl)) dX11_store_5 ⟨Nat.le_of_ble_eq_true rfl, Nat.le_of_ble_eq_true rfl⟩) (fun r23 hw24 => ?_)
  obtain ⟨hw24r, hw24p⟩ := hw24
  refine lv_if_eq (tgt := 26) hx hb dX11_store_8 (by decide) (fun c25 => ?_) (fun c25 => ?_)
  · have ic25 : r23.toInt = 0 := zi_eq rfl rfl c25
    refine lv_iconst (v := (-1)) hx hb dX11_store_26 (by decide) ?_
    exact W.iret (v := (-1)) hx hb hr (fun t ht hW => ⟨⟨(-1), f, rfl, ⟨hT, hR, trivial, trivial⟩, by rw [ht]; exact hP, va_K.moved hW.alike hK, hD⟩, hS.F ht⟩) hS.2.2 dX11_store_27
  · have ic25 : r23.toInt ≠ 0 := zi_eqf rfl rfl c25
    have p26 : 0 ≤ v.toInt ∧ v.toInt < o21_x4.toInt := (tp_cond.yes hw24p) (by omega)
    refine lv_aload_n hx hb dX11_store_11 rfl (lv_at hl 0 rfl) ?_
    refine va_get (D := (dC, dI)) (ci := 11) (v := .ref (ρ h0 0)) (C := RX11) (T := TX11) (N := 7) hx hb hts hfX11 hown hK hP q8 eq8 rfl 0 (by decide) (hts (.fieldLink RX11 10 "ColdShips" "world" "LColdShips$World;") wa_15) (fun _ h9 => h9) rfl dX11_store_12 ?_
    refine va_getN (D := (dC, dI)) (ci := 10) (v := .ref (ρ (ρ h0 0) 9)) (C := RX10) (T := TX10) (N := 19) hx hb hts hfX10 hown hK hP q22 eq22 rfl 9 (by decide) (va_Nw.use rfl (hN.1 (.fieldLinkNest RX11 63 "ColdShips$World" "terminals" "[LColdShips$Terminal;" "ColdShips") nzw_65)) (fun _ h9 => h9) rfl dX11_store_15 ?_
    refine lv_iload_n hx hb dX11_store_18 rfl (lv_at hl 1 rfl) ?_
    refine tpk_24 hT y11 (fun g28 hf_o27 hf_o27e => ?_)
    refine tpk_pos (tp_in hG y11 (by decide)) hf_o27 (fun q29 eq29 => ?_)
    refine va_aldq hx hb hK hP q29 4 eq29 rfl (vp_in_iff.mpr ⟨by omega, by omega⟩) dX11_store_19 ?_
    obtain ⟨b30, hb31⟩ : ∃ b : Nat, b = ρ (ρ (ρ h0 0) 9) v.toNatClampNeg := ⟨_, rfl⟩
    have hb31t : τ b30 = 9 := by rw [hb31]; exact tpg_24 hG y11 _ (zi_cl (vp_in_iff.mpr ⟨by omega, by omega⟩))
    have hb31g : g28 v.toNatClampNeg = some b30 := by rw [hb31]; exact hf_o27e _ (zi_cl (vp_in_iff.mpr ⟨by omega, by omega⟩))
    refine W.eq (g2 := F0 m 20 ls (.ref b30 :: [])) (congrArg (fun o => F0 m 20 ls (va_rf o :: [])) hb31g) ?_
    refine tgk_9 hG hb31t (fun y32 y32n y33 y33n => ?_)
    refine tpk_9 hT hb31t (fun o34_x0 o34_x1 o34_x2 o34_x3 o34_x4 hf_o34 ro34_0 => ?_)
    refine tpk_pos (tp_in hG hb31t (by decide)) hf_o34 (fun q35 eq35 => ?_)
    refine va_getN (D := (dC, dI)) (ci := 8) (v := .int o34_x0) (C := RX8) (T := TX8) (N := 7) hx hb hts hfX8 hown hK hP q35 eq35 rfl 0 (by decide) (va_Nw.use rfl (hN.1 (.fieldLinkNest RX11 204 "ColdShips$Terminal" "store" "I" "ColdShips") nzw_6)) (fun _ h9 => h9) rfl dX11_store_20 ?_
    refine lv_goto (tgt := 27) hx hb dX11_store_23 (by decide) ?_
    exact W.iret (v := o34_x0) hx hb hr (fun t ht hW => ⟨⟨o34_x0, f, rfl, ⟨hT, hR, trivial, trivial⟩, by rw [ht]; exact hP, va_K.moved hW.alike hK, hD⟩, hS.F ht⟩) hS.2.2 dX11_store_27
set_option maxHeartbeats 4000000 in
set_option maxRecDepth 100000 in
theorem t_X11_landing (l : Launch) (dC : Nat → ClassId) (dI : Nat → Nat → Nat) (sz : Nat) (Ω : Nat → (Nat → Nat) → va_E → Prop) (κ : Nat → ClassId) (τ ν : Nat → Nat) (ρ : Nat → Nat → Nat) (L : List Nat) (f : Nat → va_E) (hG : tp_G τ ν ρ L) (hT : tp_T Ω κ τ ν ρ f) (h0 : Nat) (v : Int32) (u : Int32) (ht_h0 : τ h0 = 12) : Met l yX11_landing wqX11_landing ({ frames := 4, cells := 0, slots := 0, locals := 1200 }) (va_Pc [.ref h0, .int v, .int u] (pz_B dC dI (tp_K κ) (va_pl L f) sz)) (va_Qi (fun (r : Int32) (f1 : Nat → va_E) => tp_T Ω κ τ ν ρ f1 ∧ tp_F τ [2, 3, 4, 5, 6, 7, 8, 9, 10, 11, 12, 20, 21, 22, 26, 27, 28] f f1 ∧ True ∧ True) (fun (f1 : Nat → va_E) (t : State) => pz_E dC dI (tp_K κ) (va_A (va_pl L f) sz) (va_pl L f1) t) (va_A (va_pl L f) sz)) 0 0 (va_A (va_pl L f) sz) := by
  refine Met.ofW (cc := cX11_landing) (maxL := 3) (ret := some .int) (by decide) rfl ?_
  intro p e s m args below meth c s₁ B hml hv
  obtain ⟨rfl, hsz, hP, hK, hD0, hN⟩ := hv
  have hx := B.exec
  have hb := B.bytes
  have hr := B.returns
  have hts := fun (w : Cond) (h : w ∈ WALL) => atoms_spec (ws := wqX11_landing) B.pre w (List.mem_cons_of_mem _ h)
  have hown : s.vm.findClass RX11 = some m.cls := findClass_of_methodNamed B.named
  have hlocks := B.notSynchronized
  subst hsz
  have hD := hD0.self (sz := s.heap.size)
  generalize hAe : va_A (va_pl L f) s.heap.size = A at hD ⊢
  have hA : ∀ q : Nat, s.heap.size ≤ q → A q := fun q h => by rw [← hAe]; exact Or.inr h
  have hS : va_S A s.heap s.heap [] := va_S.rf
  have hR : tp_F τ [2, 3, 4, 5, 6, 7, 8, 9, 10, 11, 12, 20, 21, 22, 26, 27, 28] f f := tp_F.rf
  have hl := lv_entry ([.ref h0, .int v, .int u]) (n := 3) (Nat.le_of_ble_eq_true rfl)
  rw [lg_entry_eq]
  generalize (lg_sl ([.ref h0, .int v, .int u]) ++ List.replicate (3 - (lg_sl ([.ref h0, .int v, .int u])).length) Slot.unset).toArray = ls at hl ⊢
  have hl : lv_has ls 3 [(0, .ref h0), (1, .int v), (2, .int u)] := hl
  refine lv_aload_n hx hb dX11_landing_0 rfl (lv_at hl 0 rfl) ?_
  refine tgk_12 hG ht_h0 (fun y1 y2 y3 y4 y5 y6 => ?_)
  refine tpk_12 hT ht_h0 (fun o7_x6 hf_o7 => ?_)
  refine tpk_pos (tp_in hG ht_h0 (by decide)) hf_o7 (fun q8 eq8 => ?_)
  refine va_get (D := (dC, dI)) (ci := 11) (v := .ref (ρ h0 0)) (C := RX11) (T := TX11) (N := 7) hx hb hts hfX11 hown hK hP q8 eq8 rfl 0 (by decide) (hts (.fieldLink RX11 10 "ColdShips" "world" "LColdShips$World;") wa_15) (fun _ h9 => h9) rfl dX11_landing_1 ?_
  refine tgk_11 hG y1 (fun y9 y9n y10 y10n y11 y12 y13 y14 y15 y16 y17 y17w y17m y18 y18w y18m y19 y19w y19m y20 y20w y20m => ?_)
  refine tpk_11 hT y1 (fun o21_x0 o21_x1 o21_x2 o21_x3 o21_x4 o21_x5 o21_x6 hf_o21 ro21_0 ro21_1 ro21_2 ro21_3 => ?_)
  refine tpk_pos (tp_in hG y1 (by decide)) hf_o21 (fun q22 eq22 => ?_)
  refine va_getN (D := (dC, dI)) (ci := 10) (v := .ref (ρ (ρ h0 0) 17)) (C := RX10) (T := TX10) (N := 19) hx hb hts hfX10 hown hK hP q22 eq22 rfl 17 (by decide) (va_Nw.use rfl (hN.1 (.fieldLinkNest RX11 207 "ColdShips$World" "landings" "LColdShips$Rows;" "ColdShips") nzw_85)) (fun _ h9 => h9) rfl dX11_landing_4 ?_
  refine lv_iload_n hx hb dX11_landing_7 rfl (lv_at hl 1 rfl) ?_
  refine tgk_5 hG y19 (fun y23 y23n y24a y24b y24c => ?_)
  refine tpk_5 hT y19 (fun o25_x0 o25_x2 hf_o25 ro25_0 ro25_1 => ?_)
  refine tpk_pos (tp_in hG y19 (by decide)) hf_o25 (fun q26 eq26 => ?_)
  refine pz_calli (va_runV (As := [.int v]) (rest := []) ⟨hx, hb, hml, hown, hts⟩ (t_X4_has l dC dI _ Ω κ τ ν ρ L f hG hT (ρ (ρ h0 0) 17) v y19 o25_x0 o25_x2 hf_o25) (cwV 1 hts gX11_landing_X4_has rfl rfl rfl ⟨rfl, pd_X4_has⟩ ⟨Nat.le_of_ble_eq_true rfl, Nat.le_of_ble_eq_true rfl⟩) ⟨pz_blind, va_recv hK hP (ci := 4) (q0 := q26) rfl eq26, pz_pre hP hK hD hN⟩ rfl rfl hl.1 rfl (lv_room (Nat.le_of_ble_eq_true rfl)) dX11_landing_8 ⟨Nat.le_of_ble_eq_true rfl, Nat.le_of_ble_eq_true rfl⟩) (fun r27 hw28 => ?_)
  obtain ⟨hw28r, hw28p⟩ := hw28
  refine lv_if_ne (tgt := 16) hx hb dX11_landing_11 (by decide) (fun c29 => ?_) (fun c29 => ?_)
  · have ic29 : r27.toInt ≠ 0 := zi_ne rfl rfl c29
    have p30 : 0 ≤ v.toInt ∧ v.toInt < o25_x2.toInt := (tp_cond.yes hw28p) (by omega)
    refine lv_iload_n hx hb dX11_landing_16 rfl (lv_at hl 2 rfl) ?_
    rcases zi_sw u 0 6 with h31 | h31
    · refine lv_tableOut (tgt := 152) hx hb dX11_landing_17 h31 (by decide) ?_
      refine lv_iconst (v := (-1)) hx hb dX11_landing_152 (by decide) ?_
      exact W.iret (v := (-1)) hx hb hr (fun t ht hW => ⟨⟨(-1), f, rfl, ⟨hT, hR, trivial, trivial⟩, by rw [ht]; exact hP, va_K.moved hW.alike hK, hD⟩, hS.F ht⟩) hS.2.2 dX11_landing_153
    · rcases (show u.toInt = 0 ∨ u.toInt = 1 ∨ u.toInt = 2 ∨ u.toInt = 3 ∨ u.toInt = 4 ∨ u.toInt = 5 ∨ u.toInt = 6 by omega) with h31k | h31k | h31k | h31k | h31k | h31k | h31k
      · refine lv_tableIn (tgt := 60) hx hb dX11_landing_17 (by omega) (by omega) (by rw [h31k]; rfl) (by decide) ?_
        refine lv_aload_n hx hb dX11_landing_60 rfl (lv_at hl 0 rfl) ?_
        refine va_get (D := (dC, dI)) (ci := 11) (v := .ref (ρ h0 0)) (C := RX11) (T := TX11) (N := 7) hx hb hts hfX11 hown hK hP q8 eq8 rfl 0 (by decide) (hts (.fieldLink RX11 10 "ColdShips" "world" "LColdShips$World;") wa_15) (fun _ h9 => h9) rfl dX11_landing_61 ?_
        refine va_getN (D := (dC, dI)) (ci := 10) (v := .ref (ρ (ρ h0 0) 17)) (C := RX10) (T := TX10) (N := 19) hx hb hts hfX10 hown hK hP q22 eq22 rfl 17 (by decide) (va_Nw.use rfl (hN.1 (.fieldLinkNest RX11 207 "ColdShips$World" "landings" "LColdShips$Rows;" "ColdShips") nzw_85)) (fun _ h9 => h9) rfl dX11_landing_64 ?_
        refine lv_iload_n hx hb dX11_landing_67 rfl (lv_at hl 1 rfl) ?_
        refine lv_iconst (v := 0) hx hb dX11_landing_68 (by decide) ?_
        refine pz_calli (va_runV (As := [.int v, .int 0]) (rest := []) ⟨hx, hb, hml, hown, hts⟩ (t_X4_number l dC dI _ Ω κ τ ν ρ L f hG hT (ρ (ρ h0 0) 17) v (0) y19) (cwV 2 hts gX11_landing_X4_number rfl rfl rfl ⟨rfl, pd_X4_number⟩ ⟨Nat.le_of_ble_eq_true rfl, Nat.le_of_ble_eq_true rfl⟩) ⟨pz_blind, va_recv hK hP (ci := 4) (q0 := q26) rfl eq26, pz_pre hP hK hD hN⟩ rfl rfl hl.1 rfl (lv_room (Nat.le_of_ble_eq_true rfl)) dX11_landing_69 ⟨Nat.le_of_ble_eq_true rfl, Nat.le_of_ble_eq_true rfl⟩) (fun r32 hw33 => ?_)
        obtain ⟨hw33r, hw33p⟩ := hw33
        exact W.iret (v := r32) hx hb hr (fun t ht hW => ⟨⟨r32, f, rfl, ⟨hT, hR, trivial, trivial⟩, by rw [ht]; exact hP, va_K.moved hW.alike hK, hD⟩, hS.F ht⟩) hS.2.2 dX11_landing_72
      · refine lv_tableIn (tgt := 73) hx hb dX11_landing_17 (by omega) (by omega) (by rw [h31k]; rfl) (by decide) ?_
        refine lv_aload_n hx hb dX11_landing_73 rfl (lv_at hl 0 rfl) ?_
        refine va_get (D := (dC, dI)) (ci := 11) (v := .ref (ρ h0 0)) (C := RX11) (T := TX11) (N := 7) hx hb hts hfX11 hown hK hP q8 eq8 rfl 0 (by decide) (hts (.fieldLink RX11 10 "ColdShips" "world" "LColdShips$World;") wa_15) (fun _ h9 => h9) rfl dX11_landing_74 ?_
        refine va_getN (D := (dC, dI)) (ci := 10) (v := .ref (ρ (ρ h0 0) 17)) (C := RX10) (T := TX10) (N := 19) hx hb hts hfX10 hown hK hP q22 eq22 rfl 17 (by decide) (va_Nw.use rfl (hN.1 (.fieldLinkNest RX11 207 "ColdShips$World" "landings" "LColdShips$Rows;" "ColdShips") nzw_85)) (fun _ h9 => h9) rfl dX11_landing_77 ?_
        refine lv_iload_n hx hb dX11_landing_80 rfl (lv_at hl 1 rfl) ?_
        refine lv_iconst (v := 1) hx hb dX11_landing_81 (by decide) ?_
        refine pz_calli (va_runV (As := [.int v, .int 1]) (rest := []) ⟨hx, hb, hml, hown, hts⟩ (t_X4_number l dC dI _ Ω κ τ ν ρ L f hG hT (ρ (ρ h0 0) 17) v (1) y19) (cwV 2 hts gX11_landing_X4_number rfl rfl rfl ⟨rfl, pd_X4_number⟩ ⟨Nat.le_of_ble_eq_true rfl, Nat.le_of_ble_eq_true rfl⟩) ⟨pz_blind, va_recv hK hP (ci := 4) (q0 := q26) rfl eq26, pz_pre hP hK hD hN⟩ rfl rfl hl.1 rfl (lv_room (Nat.le_of_ble_eq_true rfl)) dX11_landing_82 ⟨Nat.le_of_ble_eq_true rfl, Nat.le_of_ble_eq_true rfl⟩) (fun r34 hw35 => ?_)
        obtain ⟨hw35r, hw35p⟩ := hw35
        exact W.iret (v := r34) hx hb hr (fun t ht hW => ⟨⟨r34, f, rfl, ⟨hT, hR, trivial, trivial⟩, by rw [ht]; exact hP, va_K.moved hW.alike hK, hD⟩, hS.F ht⟩) hS.2.2 dX11_landing_85
      · refine lv_tableIn (tgt := 86) hx hb dX11_landing_17 (by omega) (by omega) (by rw [h31k]; rfl) (by decide) ?_
        refine lv_aload_n hx hb dX11_landing_86 rfl (lv_at hl 0 rfl) ?_
        refine va_get (D := (dC, dI)) (ci := 11) (v := .ref (ρ h0 0)) (C := RX11) (T := TX11) (N := 7) hx hb hts hfX11 hown hK hP q8 eq8 rfl 0 (by decide) (hts (.fieldLink RX11 10 "ColdShips" "world" "LColdShips$World;") wa_15) (fun _ h9 => h9) rfl dX11_landing_87 ?_
        refine va_getN (D := (dC, dI)) (ci := 10) (v := .ref (ρ (ρ h0 0) 17)) (C := RX10) (T := TX10) (N := 19) hx hb hts hfX10 hown hK hP q22 eq22 rfl 17 (by decide) (va_Nw.use rfl (hN.1 (.fieldLinkNest RX11 207 "ColdShips$World" "landings" "LColdShips$Rows;" "ColdShips") nzw_85)) (fun _ h9 => h9) rfl dX11_landing_90 ?_
        refine lv_iload_n hx hb dX11_landing_93 rfl (lv_at hl 1 rfl) ?_
        refine lv_iconst (v := 2) hx hb dX11_landing_94 (by decide) ?_
        refine pz_calli (va_runV (As := [.int v, .int 2]) (rest := []) ⟨hx, hb, hml, hown, hts⟩ (t_X4_number l dC dI _ Ω κ τ ν ρ L f hG hT (ρ (ρ h0 0) 17) v (2) y19) (cwV 2 hts gX11_landing_X4_number rfl rfl rfl ⟨rfl, pd_X4_number⟩ ⟨Nat.le_of_ble_eq_true rfl, Nat.le_of_ble_eq_true rfl⟩) ⟨pz_blind, va_recv hK hP (ci := 4) (q0 := q26) rfl eq26, pz_pre hP hK hD hN⟩ rfl rfl hl.1 rfl (lv_room (Nat.le_of_ble_eq_true rfl)) dX11_landing_95 ⟨Nat.le_of_ble_eq_true rfl, Nat.le_of_ble_eq_true rfl⟩) (fun r36 hw37 => ?_)
        obtain ⟨hw37r, hw37p⟩ := hw37
        exact W.iret (v := r36) hx hb hr (fun t ht hW => ⟨⟨r36, f, rfl, ⟨hT, hR, trivial, trivial⟩, by rw [ht]; exact hP, va_K.moved hW.alike hK, hD⟩, hS.F ht⟩) hS.2.2 dX11_landing_98
      · refine lv_tableIn (tgt := 99) hx hb dX11_landing_17 (by omega) (by omega) (by rw [h31k]; rfl) (by decide) ?_
        refine lv_aload_n hx hb dX11_landing_99 rfl (lv_at hl 0 rfl) ?_
        refine va_get (D := (dC, dI)) (ci := 11) (v := .ref (ρ h0 0)) (C := RX11) (T := TX11) (N := 7) hx hb hts hfX11 hown hK hP q8 eq8 rfl 0 (by decide) (hts (.fieldLink RX11 10 "ColdShips" "world" "LColdShips$World;") wa_15) (fun _ h9 => h9) rfl dX11_landing_100 ?_
        refine va_getN (D := (dC, dI)) (ci := 10) (v := .ref (ρ (ρ h0 0) 17)) (C := RX10) (T := TX10) (N := 19) hx hb hts hfX10 hown hK hP q22 eq22 rfl 17 (by decide) (va_Nw.use rfl (hN.1 (.fieldLinkNest RX11 207 "ColdShips$World" "landings" "LColdShips$Rows;" "ColdShips") nzw_85)) (fun _ h9 => h9) rfl dX11_landing_103 ?_
        refine lv_iload_n hx hb dX11_landing_106 rfl (lv_at hl 1 rfl) ?_
        refine lv_iconst (v := 3) hx hb dX11_landing_107 (by decide) ?_
        refine pz_calli (va_runV (As := [.int v, .int 3]) (rest := []) ⟨hx, hb, hml, hown, hts⟩ (t_X4_number l dC dI _ Ω κ τ ν ρ L f hG hT (ρ (ρ h0 0) 17) v (3) y19) (cwV 2 hts gX11_landing_X4_number rfl rfl rfl ⟨rfl, pd_X4_number⟩ ⟨Nat.le_of_ble_eq_true rfl, Nat.le_of_ble_eq_true rfl⟩) ⟨pz_blind, va_recv hK hP (ci := 4) (q0 := q26) rfl eq26, pz_pre hP hK hD hN⟩ rfl rfl hl.1 rfl (lv_room (Nat.le_of_ble_eq_true rfl)) dX11_landing_108 ⟨Nat.le_of_ble_eq_true rfl, Nat.le_of_ble_eq_true rfl⟩) (fun r38 hw39 => ?_)
        obtain ⟨hw39r, hw39p⟩ := hw39
        exact W.iret (v := r38) hx hb hr (fun t ht hW => ⟨⟨r38, f, rfl, ⟨hT, hR, trivial, trivial⟩, by rw [ht]; exact hP, va_K.moved hW.alike hK, hD⟩, hS.F ht⟩) hS.2.2 dX11_landing_111
      · refine lv_tableIn (tgt := 112) hx hb dX11_landing_17 (by omega) (by omega) (by rw [h31k]; rfl) (by decide) ?_
        refine lv_aload_n hx hb dX11_landing_112 rfl (lv_at hl 0 rfl) ?_
        refine va_get (D := (dC, dI)) (ci := 11) (v := .ref (ρ h0 0)) (C := RX11) (T := TX11) (N := 7) hx hb hts hfX11 hown hK hP q8 eq8 rfl 0 (by decide) (hts (.fieldLink RX11 10 "ColdShips" "world" "LColdShips$World;") wa_15) (fun _ h9 => h9) rfl dX11_landing_113 ?_
        refine va_getN (D := (dC, dI)) (ci := 10) (v := .ref (ρ (ρ h0 0) 17)) (C := RX10) (T := TX10) (N := 19) hx hb hts hfX10 hown hK hP q22 eq22 rfl 17 (by decide) (va_Nw.use rfl (hN.1 (.fieldLinkNest RX11 207 "ColdShips$World" "landings" "LColdShips$Rows;" "ColdShips") nzw_85)) (fun _ h9 => h9) rfl dX11_landing_116 ?_
        refine lv_iload_n hx hb dX11_landing_119 rfl (lv_at hl 1 rfl) ?_
        refine lv_iconst (v := 4) hx hb dX11_landing_120 (by decide) ?_
        refine pz_calli (va_runV (As := [.int v, .int 4]) (rest := []) ⟨hx, hb, hml, hown, hts⟩ (t_X4_number l dC dI _ Ω κ τ ν ρ L f hG hT (ρ (ρ h0 0) 17) v (4) y19) (cwV 2 hts gX11_landing_X4_number rfl rfl rfl ⟨rfl, pd_X4_number⟩ ⟨Nat.le_of_ble_eq_true rfl, Nat.le_of_ble_eq_true rfl⟩) ⟨pz_blind, va_recv hK hP (ci := 4) (q0 := q26) rfl eq26, pz_pre hP hK hD hN⟩ rfl rfl hl.1 rfl (lv_room (Nat.le_of_ble_eq_true rfl)) dX11_landing_121 ⟨Nat.le_of_ble_eq_true rfl, Nat.le_of_ble_eq_true rfl⟩) (fun r40 hw41 => ?_)
        obtain ⟨hw41r, hw41p⟩ := hw41
        exact W.iret (v := r40) hx hb hr (fun t ht hW => ⟨⟨r40, f, rfl, ⟨hT, hR, trivial, trivial⟩, by rw [ht]; exact hP, va_K.moved hW.alike hK, hD⟩, hS.F ht⟩) hS.2.2 dX11_landing_124
      · refine lv_tableIn (tgt := 125) hx hb dX11_landing_17 (by omega) (by omega) (by rw [h31k]; rfl) (by decide) ?_
        refine lv_aload_n hx hb dX11_landing_125 rfl (lv_at hl 0 rfl) ?_
        refine va_get (D := (dC, dI)) (ci := 11) (v := .ref (ρ h0 0)) (C := RX11) (T := TX11) (N := 7) hx hb hts hfX11 hown hK hP q8 eq8 rfl 0 (by decide) (hts (.fieldLink RX11 10 "ColdShips" "world" "LColdShips$World;") wa_15) (fun _ h9 => h9) rfl dX11_landing_126 ?_
        refine lv_iload_n hx hb dX11_landing_129 rfl (lv_at hl 1 rfl) ?_
        refine pz_calll (va_runV (As := [.int v]) (rest := []) ⟨hx, hb, hml, hown, hts⟩ (t_X10_heatOf l dC dI _ Ω κ τ ν ρ L f hG hT (ρ h0 0) v y1) (cwV 1 hts gX11_landing_X10_heatOf rfl rfl rfl ⟨rfl, pd_X10_heatOf⟩ ⟨Nat.le_of_ble_eq_true rfl, Nat.le_of_ble_eq_true rfl⟩) ⟨pz_blind, va_recv hK hP (ci := 10) (q0 := q22) rfl eq22, pz_pre hP hK hD hN⟩ rfl rfl hl.1 rfl (lv_room (Nat.le_of_ble_eq_true rfl)) dX11_landing_130 ⟨Nat.le_of_ble_eq_true rfl, Nat.le_of_ble_eq_true rfl⟩) (fun r42 hw43 => ?_)
        obtain ⟨hw43r, hw43p⟩ := hw43
        refine lv_l2i hx hb dX11_landing_133 rfl ?_
        refine lv_topi (fun z44 ez44 => ?_)
        exact W.iret (v := z44) hx hb hr (fun t ht hW => ⟨⟨z44, f, rfl, ⟨hT, hR, trivial, trivial⟩, by rw [ht]; exact hP, va_K.moved hW.alike hK, hD⟩, hS.F ht⟩) hS.2.2 dX11_landing_134
      · refine lv_tableIn (tgt := 135) hx hb dX11_landing_17 (by omega) (by omega) (by rw [h31k]; rfl) (by decide) ?_
        refine lv_aload_n hx hb dX11_landing_135 rfl (lv_at hl 0 rfl) ?_
        refine va_get (D := (dC, dI)) (ci := 11) (v := .ref (ρ h0 0)) (C := RX11) (T := TX11) (N := 7) hx hb hts hfX11 hown hK hP q8 eq8 rfl 0 (by decide) (hts (.fieldLink RX11 10 "ColdShips" "world" "LColdShips$World;") wa_15) (fun _ h9 => h9) rfl dX11_landing_136 ?_
        refine lv_iload_n hx hb dX11_landing_139 rfl (lv_at hl 1 rfl) ?_
        refine pz_calli (va_runV (As := [.int v]) (rest := []) ⟨hx, hb, hml, hown, hts⟩ (t_X10_isSettled l dC dI _ Ω κ τ ν ρ L f hG hT (ρ h0 0) v y1) (cwV 1 hts gX11_landing_X10_isSettled rfl rfl rfl ⟨rfl, pd_X10_isSettled⟩ ⟨Nat.le_of_ble_eq_true rfl, Nat.le_of_ble_eq_true rfl⟩) ⟨pz_blind, va_recv hK hP (ci := 10) (q0 := q22) rfl eq22, pz_pre hP hK hD hN⟩ rfl rfl hl.1 rfl (lv_room (Nat.le_of_ble_eq_true rfl)) dX11_landing_140 ⟨Nat.le_of_ble_eq_true rfl, Nat.le_of_ble_eq_true rfl⟩) (fun r45 hw46 => ?_)
        obtain ⟨hw46r, hw46p⟩ := hw46
        refine lv_if_eq (tgt := 150) hx hb dX11_landing_143 (by decide) (fun c47 => ?_) (fun c47 => ?_)
        · have ic47 : r45.toInt = 0 := zi_eq rfl rfl c47
          refine lv_iconst (v := 0) hx hb dX11_landing_150 (by decide) ?_
          exact W.iret (v := 0) hx hb hr (fun t ht hW => ⟨⟨0, f, rfl, ⟨hT, hR, trivial, trivial⟩, by rw [ht]; exact hP, va_K.moved hW.alike hK, hD⟩, hS.F ht⟩) hS.2.2 dX11_landing_151
        · have ic47 : r45.toInt ≠ 0 := zi_eqf rfl rfl c47
          refine lv_iconst (v := 1) hx hb dX11_landing_146 (by decide) ?_
          refine lv_goto (tgt := 151) hx hb dX11_landing_147 (by decide) ?_
          exact W.iret (v := 1) hx hb hr (fun t ht hW => ⟨⟨1, f, rfl, ⟨hT, hR, trivial, trivial⟩, by rw [ht]; exact hP, va_K.moved hW.alike hK, hD⟩, hS.F ht⟩) hS.2.2 dX11_landing_151
  · have ic29 : r27.toInt = 0 := zi_nef rfl rfl c29
    refine lv_iconst (v := (-1)) hx hb dX11_landing_14 (by decide) ?_
    exact W.iret (v := (-1)) hx hb hr (fun t ht hW => ⟨⟨(-1), f, rfl, ⟨hT, hR, trivial, trivial⟩, by rw [ht]; exact hP, va_K.moved hW.alike hK, hD⟩, hS.F ht⟩) hS.2.2 dX11_landing_15
set_option maxHeartbeats 4000000 in
set_option maxRecDepth 100000 in
theorem t_X11_led (l : Launch) (dC : Nat → ClassId) (dI : Nat → Nat → Nat) (sz : Nat) (Ω : Nat → (Nat → Nat) → va_E → Prop) (κ : Nat → ClassId) (τ ν : Nat → Nat) (ρ : Nat → Nat → Nat) (L : List Nat) (f : Nat → va_E) (hG : tp_G τ ν ρ L) (hT : tp_T Ω κ τ ν ρ f) (h0 : Nat) (v : Int32) (u : Int32) (ht_h0 : τ h0 = 12) : Met l yX11_led wqX11_led ({ frames := 4, cells := 0, slots := 0, locals := 1200 }) (va_Pc [.ref h0, .int v, .int u] (pz_B dC dI (tp_K κ) (va_pl L f) sz)) (va_Qi (fun (r : Int32) (f1 : Nat → va_E) => tp_T Ω κ τ ν ρ f1 ∧ tp_F τ [2, 3, 4, 5, 6, 7, 8, 9, 10, 11, 12, 20, 21, 22, 26, 27, 28] f f1 ∧ True ∧ True) (fun (f1 : Nat → va_E) (t : State) => pz_E dC dI (tp_K κ) (va_A (va_pl L f) sz) (va_pl L f1) t) (va_A (va_pl L f) sz)) 0 0 (va_A (va_pl L f) sz) := by
  refine Met.ofW (cc := cX11_led) (maxL := 3) (ret := some .int) (by decide) rfl ?_
  intro p e s m args below meth c s₁ B hml hv
  obtain ⟨rfl, hsz, hP, hK, hD0, hN⟩ := hv
  have hx := B.exec
  have hb := B.bytes
  have hr := B.returns
  have hts := fun (w : Cond) (h : w ∈ WALL) => atoms_spec (ws := wqX11_led) B.pre w (List.mem_cons_of_mem _ h)
  have hown : s.vm.findClass RX11 = some m.cls := findClass_of_methodNamed B.named
  have hlocks := B.notSynchronized
  subst hsz
  have hD := hD0.self (sz := s.heap.size)
  generalize hAe : va_A (va_pl L f) s.heap.size = A at hD ⊢
  have hA : ∀ q : Nat, s.heap.size ≤ q → A q := fun q h => by rw [← hAe]; exact Or.inr h
  have hS : va_S A s.heap s.heap [] := va_S.rf
  have hR : tp_F τ [2, 3, 4, 5, 6, 7, 8, 9, 10, 11, 12, 20, 21, 22, 26, 27, 28] f f := tp_F.rf
  have hl := lv_entry ([.ref h0, .int v, .int u]) (n := 3) (Nat.le_of_ble_eq_true rfl)
  rw [lg_entry_eq]
  generalize (lg_sl ([.ref h0, .int v, .int u]) ++ List.replicate (3 - (lg_sl ([.ref h0, .int v, .int u])).length) Slot.unset).toArray = ls at hl ⊢
  have hl : lv_has ls 3 [(0, .ref h0), (1, .int v), (2, .int u)] := hl
  refine lv_aload_n hx hb dX11_led_0 rfl (lv_at hl 0 rfl) ?_
  refine tgk_12 hG ht_h0 (fun y1 y2 y3 y4 y5 y6 => ?_)
  refine tpk_12 hT ht_h0 (fun o7_x6 hf_o7 => ?_)
  refine tpk_pos (tp_in hG ht_h0 (by decide)) hf_o7 (fun q8 eq8 => ?_)
  refine va_get (D := (dC, dI)) (ci := 11) (v := .ref (ρ h0 0)) (C := RX11) (T := TX11) (N := 7) hx hb hts hfX11 hown hK hP q8 eq8 rfl 0 (by decide) (hts (.fieldLink RX11 10 "ColdShips" "world" "LColdShips$World;") wa_15) (fun _ h9 => h9) rfl dX11_led_1 ?_
  refine tgk_11 hG y1 (fun y9 y9n y10 y10n y11 y12 y13 y14 y15 y16 y17 y17w y17m y18 y18w y18m y19 y19w y19m y20 y20w y20m => ?_)
  refine tpk_11 hT y1 (fun o21_x0 o21_x1 o21_x2 o21_x3 o21_x4 o21_x5 o21_x6 hf_o21 ro21_0 ro21_1 ro21_2 ro21_3 => ?_)
  refine tpk_pos (tp_in hG y1 (by decide)) hf_o21 (fun q22 eq22 => ?_)
  refine va_getN (D := (dC, dI)) (ci := 10) (v := .ref (ρ (ρ h0 0) 17)) (C := RX10) (T := TX10) (N := 19) hx hb hts hfX10 hown hK hP q22 eq22 rfl 17 (by decide) (va_Nw.use rfl (hN.1 (.fieldLinkNest RX11 207 "ColdShips$World" "landings" "LColdShips$Rows;" "ColdShips") nzw_85)) (fun _ h9 => h9) rfl dX11_led_4 ?_
  refine lv_iload_n hx hb dX11_led_7 rfl (lv_at hl 1 rfl) ?_
  refine tgk_5 hG y19 (fun y23 y23n y24a y24b y24c => ?_)
  refine tpk_5 hT y19 (fun o25_x0 o25_x2 hf_o25 ro25_0 ro25_1 => ?_)
  refine tpk_pos (tp_in hG y19 (by decide)) hf_o25 (fun q26 eq26 => ?_)
  refine pz_calli (va_runV (As := [.int v]) (rest := []) ⟨hx, hb, hml, hown, hts⟩ (t_X4_has l dC dI _ Ω κ τ ν ρ L f hG hT (ρ (ρ h0 0) 17) v y19 o25_x0 o25_x2 hf_o25) (cwV 1 hts gX11_led_X4_has rfl rfl rfl ⟨rfl, pd_X4_has⟩ ⟨Nat.le_of_ble_eq_true rfl, Nat.le_of_ble_eq_true rfl⟩) ⟨pz_blind, va_recv hK hP (ci := 4) (q0 := q26) rfl eq26, pz_pre hP hK hD hN⟩ rfl rfl hl.1 rfl (lv_room (Nat.le_of_ble_eq_true rfl)) dX11_led_8 ⟨Nat.le_of_ble_eq_true rfl, Nat.le_of_ble_eq_true rfl⟩) (fun r27 hw28 => ?_)
  obtain ⟨hw28r, hw28p⟩ := hw28
  refine lv_if_eq (tgt := 25) hx hb dX11_led_11 (by decide) (fun c29 => ?_) (fun c29 => ?_)
  · have ic29 : r27.toInt = 0 := zi_eq rfl rfl c29
    refine lv_iconst (v := (-1)) hx hb dX11_led_25 (by decide) ?_
    exact W.iret (v := (-1)) hx hb hr (fun t ht hW => ⟨⟨(-1), f, rfl, ⟨hT, hR, trivial, trivial⟩, by rw [ht]; exact hP, va_K.moved hW.alike hK, hD⟩, hS.F ht⟩) hS.2.2 dX11_led_26
  · have ic29 : r27.toInt ≠ 0 := zi_eqf rfl rfl c29
    have p30 : 0 ≤ v.toInt ∧ v.toInt < o25_x2.toInt := (tp_cond.yes hw28p) (by omega)
    refine lv_aload_n hx hb dX11_led_14 rfl (lv_at hl 0 rfl) ?_
    refine va_get (D := (dC, dI)) (ci := 11) (v := .ref (ρ h0 0)) (C := RX11) (T := TX11) (N := 7) hx hb hts hfX11 hown hK hP q8 eq8 rfl 0 (by decide) (hts (.fieldLink RX11 10 "ColdShips" "world" "LColdShips$World;") wa_15) (fun _ h9 => h9) rfl dX11_led_15 ?_
    refine lv_iload_n hx hb dX11_led_18 rfl (lv_at hl 2 rfl) ?_
    refine pz_calli (va_runV (As := [.int u]) (rest := []) ⟨hx, hb, hml, hown, hts⟩ (t_X10_hasTerminal l dC dI _ Ω κ τ ν ρ L f hG hT (ρ h0 0) u y1 o21_x0 o21_x1 o21_x2 o21_x3 o21_x4 o21_x5 o21_x6 hf_o21) (cwV 1 hts gX11_led_X10_hasTerminal rfl rfl rfl ⟨rfl, pd_X10_hasTerminal⟩ ⟨Nat.le_of_ble_eq_true rfl, Nat.le_of_ble_eq_true rfl⟩) ⟨pz_blind, va_recv hK hP (ci := 10) (q0 := q22) rfl eq22, pz_pre hP hK hD hN⟩ rfl rfl hl.1 rfl (lv_room (Nat.le_of_ble_eq_true rfl)) dX11_led_19 ⟨Nat.le_of_ble_eq_true rfl, Nat.le_of_ble_eq_true rfl⟩) (fun r31 hw32 => ?_)
    obtain ⟨hw32r, hw32p⟩ := hw32
    refine lv_if_ne (tgt := 27) hx hb dX11_led_22 (by decide) (fun c33 => ?_) (fun c33 => ?_)
    · have ic33 : r31.toInt ≠ 0 := zi_ne rfl rfl c33
      have p34 : 0 ≤ u.toInt ∧ u.toInt < o21_x4.toInt := (tp_cond.yes hw32p) (by omega)
      refine lv_aload_n hx hb dX11_led_27 rfl (lv_at hl 0 rfl) ?_
      refine va_get (D := (dC, dI)) (ci := 11) (v := .ref (ρ h0 0)) (C := RX11) (T := TX11) (N := 7) hx hb hts hfX11 hown hK hP q8 eq8 rfl 0 (by decide) (hts (.fieldLink RX11 10 "ColdShips" "world" "LColdShips$World;") wa_15) (fun _ h9 => h9) rfl dX11_led_28 ?_
      refine va_getN (D := (dC, dI)) (ci := 10) (v := .ref (ρ (ρ h0 0) 17)) (C := RX10) (T := TX10) (N := 19) hx hb hts hfX10 hown hK hP q22 eq22 rfl 17 (by decide) (va_Nw.use rfl (hN.1 (.fieldLinkNest RX11 207 "ColdShips$World" "landings" "LColdShips$Rows;" "ColdShips") nzw_85)) (fun _ h9 => h9) rfl dX11_led_31 ?_
      refine lv_iload_n hx hb dX11_led_34 rfl (lv_at hl 1 rfl) ?_
      refine lv_iconst (v := 5) hx hb dX11_led_35 (by decide) ?_
      refine lv_iload_n hx hb dX11_led_36 rfl (lv_at hl 2 rfl) ?_
      refine lv_iadd hx hb dX11_led_37 ?_
      refine lv_topi (fun z35 ez35 => ?_)
      have iz35 : z35.toInt = 5 + u.toInt := zi_add ez35 rfl rfl (by omega) (by omega)
      refine pz_calli (va_runV (As := [.int v, .int z35]) (rest := []) ⟨hx, hb, hml, hown, hts⟩ (t_X4_number l dC dI _ Ω κ τ ν ρ L f hG hT (ρ (ρ h0 0) 17) v z35 y19) (cwV 2 hts gX11_led_X4_number rfl rfl rfl ⟨rfl, pd_X4_number⟩ ⟨Nat.le_of_ble_eq_true rfl, Nat.le_of_ble_eq_true rfl⟩) ⟨pz_blind, va_recv hK hP (ci := 4) (q0 := q26) rfl eq26, pz_pre hP hK hD hN⟩ rfl rfl hl.1 rfl (lv_room (Nat.le_of_ble_eq_true rfl)) dX11_led_38 ⟨Nat.le_of_ble_eq_true rfl, Nat.le_of_ble_eq_true rfl⟩) (fun r36 hw37 => ?_)
      obtain ⟨hw37r, hw37p⟩ := hw37
      exact W.iret (v := r36) hx hb hr (fun t ht hW => ⟨⟨r36, f, rfl, ⟨hT, hR, trivial, trivial⟩, by rw [ht]; exact hP, va_K.moved hW.alike hK, hD⟩, hS.F ht⟩) hS.2.2 dX11_led_41
    · have ic33 : r31.toInt = 0 := zi_nef rfl rfl c33
      refine lv_iconst (v := (-1)) hx hb dX11_led_25 (by decide) ?_
      exact W.iret (v := (-1)) hx hb hr (fun t ht hW => ⟨⟨(-1), f, rfl, ⟨hT, hR, trivial, trivial⟩, by rw [ht]; exact hP, va_K.moved hW.alike hK, hD⟩, hS.F ht⟩) hS.2.2 dX11_led_26
set_option maxHeartbeats 4000000 in
set_option maxRecDepth 100000 in
theorem t_X11_heat (l : Launch) (dC : Nat → ClassId) (dI : Nat → Nat → Nat) (sz : Nat) (Ω : Nat → (Nat → Nat) → va_E → Prop) (κ : Nat → ClassId) (τ ν : Nat → Nat) (ρ : Nat → Nat → Nat) (L : List Nat) (f : Nat → va_E) (hG : tp_G τ ν ρ L) (hT : tp_T Ω κ τ ν ρ f) (h0 : Nat) (v : Int32) (u : Int32) (ht_h0 : τ h0 = 12) : Met l yX11_heat wqX11_heat ({ frames := 3, cells := 0, slots := 0, locals := 800 }) (va_Pc [.ref h0, .int v, .int u] (pz_B dC dI (tp_K κ) (va_pl L f) sz)) (va_Qi (fun (r : Int32) (f1 : Nat → va_E) => tp_T Ω κ τ ν ρ f1 ∧ tp_F τ [2, 3, 4, 5, 6, 7, 8, 9, 10, 11, 12, 20, 21, 22, 26, 27, 28] f f1 ∧ True ∧ True) (fun (f1 : Nat → va_E) (t : State) => pz_E dC dI (tp_K κ) (va_A (va_pl L f) sz) (va_pl L f1) t) (va_A (va_pl L f) sz)) 0 0 (va_A (va_pl L f) sz) := by
  refine Met.ofW (cc := cX11_heat) (maxL := 4) (ret := some .int) (by decide) rfl ?_
  intro p e s m args below meth c s₁ B hml hv
  obtain ⟨rfl, hsz, hP, hK, hD0, hN⟩ := hv
  have hx := B.exec
  have hb := B.bytes
  have hr := B.returns
  have hts := fun (w : Cond) (h : w ∈ WALL) => atoms_spec (ws := wqX11_heat) B.pre w (List.mem_cons_of_mem _ h)
  have hown : s.vm.findClass RX11 = some m.cls := findClass_of_methodNamed B.named
  have hlocks := B.notSynchronized
  subst hsz
  have hD := hD0.self (sz := s.heap.size)
  generalize hAe : va_A (va_pl L f) s.heap.size = A at hD ⊢
  have hA : ∀ q : Nat, s.heap.size ≤ q → A q := fun q h => by rw [← hAe]; exact Or.inr h
  have hS : va_S A s.heap s.heap [] := va_S.rf
  have hR : tp_F τ [2, 3, 4, 5, 6, 7, 8, 9, 10, 11, 12, 20, 21, 22, 26, 27, 28] f f := tp_F.rf
  have hl := lv_entry ([.ref h0, .int v, .int u]) (n := 4) (Nat.le_of_ble_eq_true rfl)
  rw [lg_entry_eq]
  generalize (lg_sl ([.ref h0, .int v, .int u]) ++ List.replicate (4 - (lg_sl ([.ref h0, .int v, .int u])).length) Slot.unset).toArray = ls at hl ⊢
  have hl : lv_has ls 4 [(0, .ref h0), (1, .int v), (2, .int u)] := hl
  refine lv_iload_n hx hb dX11_heat_0 rfl (lv_at hl 2 rfl) ?_
  refine lv_sipush (v := 500) hx hb dX11_heat_1 (by decide) ?_
  refine lv_sipush (v := 2000) hx hb dX11_heat_4 (by decide) ?_
  refine pz_calli (va_runS (As := [.int u, .int 500, .int 2000]) (rest := []) ⟨hx, hb, hml, hown, hts⟩ (t_X11_within l dC dI _ u (500) (2000) (u.toInt) (500) (2000) rfl rfl rfl) (va_cwS 3 hts gX11_heat_X11_within rfl rfl rfl pd_X11_within ⟨Nat.le_of_ble_eq_true rfl, Nat.le_of_ble_eq_true rfl⟩) ⟨pz_blind, pz_pre pz_P0 (hK.sub (tys' := []) [] rfl) (pz_D0 (A := fun _ => True)) hN⟩ rfl rfl hl.1 rfl (lv_room (Nat.le_of_ble_eq_true rfl)) dX11_heat_7 ⟨Nat.le_of_ble_eq_true rfl, Nat.le_of_ble_eq_true rfl⟩) (fun r1 hw2 => ?_)
  obtain ⟨hw2r, hw2p⟩ := hw2
  refine lv_if_ne (tgt := 19) hx hb dX11_heat_10 (by decide) (fun c3 => ?_) (fun c3 => ?_)
  · have ic3 : r1.toInt ≠ 0 := zi_ne rfl rfl c3
    have p4 : (500) ≤ (u.toInt) ∧ (u.toInt) ≤ (2000) := (tp_cond.yes hw2p) (by omega)
    refine lv_aload_n hx hb dX11_heat_19 rfl (lv_at hl 0 rfl) ?_
    refine tgk_12 hG ht_h0 (fun y5 y6 y7 y8 y9 y10 => ?_)
    refine tpk_12 hT ht_h0 (fun o11_x6 hf_o11 => ?_)
    refine tpk_pos (tp_in hG ht_h0 (by decide)) hf_o11 (fun q12 eq12 => ?_)
    refine va_get (D := (dC, dI)) (ci := 11) (v := .ref (ρ h0 0)) (C := RX11) (T := TX11) (N := 7) hx hb hts hfX11 hown hK hP q12 eq12 rfl 0 (by decide) (hts (.fieldLink RX11 10 "ColdShips" "world" "LColdShips$World;") wa_15) (fun _ h9 => h9) rfl dX11_heat_20 ?_
    refine lv_iload_n hx hb dX11_heat_23 rfl (lv_at hl 1 rfl) ?_
    refine tgk_11 hG y5 (fun y13 y13n y14 y14n y15 y16 y17 y18 y19 y20 y21 y21w y21m y22 y22w y22m y23 y23w y23m y24 y24w y24m => ?_)
    refine tpk_11 hT y5 (fun o25_x0 o25_x1 o25_x2 o25_x3 o25_x4 o25_x5 o25_x6 hf_o25 ro25_0 ro25_1 ro25_2 ro25_3 => ?_)
    refine tpk_pos (tp_in hG y5 (by decide)) hf_o25 (fun q26 eq26 => ?_)
    refine pz_calli (va_runV (As := [.int v]) (rest := []) ⟨hx, hb, hml, hown, hts⟩ (t_X10_hasTerminal l dC dI _ Ω κ τ ν ρ L f hG hT (ρ h0 0) v y5 o25_x0 o25_x1 o25_x2 o25_x3 o25_x4 o25_x5 o25_x6 hf_o25) (cwV 1 hts gX11_heat_X10_hasTerminal rfl rfl rfl ⟨rfl, pd_X10_hasTerminal⟩ ⟨Nat.le_of_ble_eq_true rfl, Nat.le_of_ble_eq_true rfl⟩) ⟨pz_blind, va_recv hK hP (ci := 10) (q0 := q26) rfl eq26, pz_pre hP hK hD hN⟩ rfl rfl hl.1 rfl (lv_room (Nat.le_of_ble_eq_true rfl)) dX11_heat_24 ⟨Nat.le_of_ble_eq_true rfl, Nat.le_of_ble_eq_true rfl⟩) (fun r27 hw28 => ?_)
    obtain ⟨hw28r, hw28p⟩ := hw28
    refine lv_if_ne (tgt := 37) hx hb dX11_heat_27 (by decide) (fun c29 => ?_) (fun c29 => ?_)
    · have ic29 : r27.toInt ≠ 0 := zi_ne rfl rfl c29
      have p30 : 0 ≤ v.toInt ∧ v.toInt < o25_x4.toInt := (tp_cond.yes hw28p) (by omega)
      refine lv_aload_n hx hb dX11_heat_37 rfl (lv_at hl 0 rfl) ?_
      refine va_get (D := (dC, dI)) (ci := 11) (v := .ref (ρ h0 0)) (C := RX11) (T := TX11) (N := 7) hx hb hts hfX11 hown hK hP q12 eq12 rfl 0 (by decide) (hts (.fieldLink RX11 10 "ColdShips" "world" "LColdShips$World;") wa_15) (fun _ h9 => h9) rfl dX11_heat_38 ?_
      refine va_getN (D := (dC, dI)) (ci := 10) (v := .ref (ρ (ρ h0 0) 9)) (C := RX10) (T := TX10) (N := 19) hx hb hts hfX10 hown hK hP q26 eq26 rfl 9 (by decide) (va_Nw.use rfl (hN.1 (.fieldLinkNest RX11 63 "ColdShips$World" "terminals" "[LColdShips$Terminal;" "ColdShips") nzw_65)) (fun _ h9 => h9) rfl dX11_heat_41 ?_
      refine lv_iload_n hx hb dX11_heat_44 rfl (lv_at hl 1 rfl) ?_
      refine tpk_24 hT y15 (fun g32 hf_o31 hf_o31e => ?_)
      refine tpk_pos (tp_in hG y15 (by decide)) hf_o31 (fun q33 eq33 => ?_)
      refine va_aldq hx hb hK hP q33 4 eq33 rfl (vp_in_iff.mpr ⟨by omega, by omega⟩) dX11_heat_45 ?_
      obtain ⟨b34, hb35⟩ : ∃ b : Nat, b = ρ (ρ (ρ h0 0) 9) v.toNatClampNeg := ⟨_, rfl⟩
      have hb35t : τ b34 = 9 := by rw [hb35]; exact tpg_24 hG y15 _ (zi_cl (vp_in_iff.mpr ⟨by omega, by omega⟩))
      have hb35g : g32 v.toNatClampNeg = some b34 := by rw [hb35]; exact hf_o31e _ (zi_cl (vp_in_iff.mpr ⟨by omega, by omega⟩))
      refine W.eq (g2 := F0 m 46 ls (.ref b34 :: [])) (congrArg (fun o => F0 m 46 ls (va_rf o :: [])) hb35g) ?_
      refine tgk_9 hG hb35t (fun y36 y36n y37 y37n => ?_)
      refine tpk_9 hT hb35t (fun o38_x0 o38_x1 o38_x2 o38_x3 o38_x4 hf_o38 ro38_0 => ?_)
      refine tpk_pos (tp_in hG hb35t (by decide)) hf_o38 (fun q39 eq39 => ?_)
      refine va_getN (D := (dC, dI)) (ci := 8) (v := .int o38_x4) (C := RX8) (T := TX8) (N := 7) hx hb hts hfX8 hown hK hP q39 eq39 rfl 4 (by decide) (va_Nw.use rfl (hN.1 (.fieldLinkNest RX11 226 "ColdShips$Terminal" "heat" "I" "ColdShips") nzw_11)) (fun _ h9 => h9) rfl dX11_heat_46 ?_
      refine lv_istore_n (lv' := [(3, .int o38_x4), (0, .ref h0), (1, .int v), (2, .int u)]) hx hb dX11_heat_49 rfl hl (by decide) rfl (fun ls hl => ?_)
      refine lv_aload_n hx hb dX11_heat_50 rfl (lv_at hl 1 rfl) ?_
      refine va_get (D := (dC, dI)) (ci := 11) (v := .ref (ρ h0 0)) (C := RX11) (T := TX11) (N := 7) hx hb hts hfX11 hown hK hP q12 eq12 rfl 0 (by decide) (hts (.fieldLink RX11 10 "ColdShips" "world" "LColdShips$World;") wa_15) (fun _ h9 => h9) rfl dX11_heat_51 ?_
      refine va_getN (D := (dC, dI)) (ci := 10) (v := .ref (ρ (ρ h0 0) 9)) (C := RX10) (T := TX10) (N := 19) hx hb hts hfX10 hown hK hP q26 eq26 rfl 9 (by decide) (va_Nw.use rfl (hN.1 (.fieldLinkNest RX11 63 "ColdShips$World" "terminals" "[LColdShips$Terminal;" "ColdShips") nzw_65)) (fun _ h9 => h9) rfl dX11_heat_54 ?_
      refine lv_iload_n hx hb dX11_heat_57 rfl (lv_at hl 2 rfl) ?_
      refine va_aldq hx hb hK hP q33 4 eq33 rfl (vp_in_iff.mpr ⟨by omega, by omega⟩) dX11_heat_58 ?_
      obtain ⟨b40, hb41⟩ : ∃ b : Nat, b = ρ (ρ (ρ h0 0) 9) v.toNatClampNeg := ⟨_, rfl⟩
      have hb41t : τ b40 = 9 := by rw [hb41]; exact tpg_24 hG y15 _ (zi_cl (vp_in_iff.mpr ⟨by omega, by omega⟩))
      have hb41g : g32 v.toNatClampNeg = some b40 := by rw [hb41]; exact hf_o31e _ (zi_cl (vp_in_iff.mpr ⟨by omega, by omega⟩))
      refine W.eq (g2 := F0 m 59 ls (.ref b40 :: [])) (congrArg (fun o => F0 m 59 ls (va_rf o :: [])) hb41g) ?_
      refine lv_iload_n hx hb dX11_heat_59 rfl (lv_at hl 3 rfl) ?_
      refine tgk_9 hG hb41t (fun y42 y42n y43 y43n => ?_)
      refine tpk_9 hT hb41t (fun o44_x0 o44_x1 o44_x2 o44_x3 o44_x4 hf_o44 ro44_0 => ?_)
      refine tpk_pos (tp_in hG hb41t (by decide)) hf_o44 (fun q45 eq45 => ?_)
      refine va_putN (D := (dC, dI)) (ci := 8) (v := .int u) (ty := .int) (C := RX8) (T := TX8) (N := 7) hx hb hts hfX8 tyX8 tyX8_ok nmX8 hown hK hP hD hS q45 eq45 rfl 4 (by decide) (va_Nw.use rfl (hN.1 (.fieldLinkNest RX11 226 "ColdShips$Terminal" "heat" "I" "ColdShips") nzw_11)) (fun _ h9 => h9) rfl (tyX8_ok 4 (by decide)) rfl rfl (Nat.le_of_ble_eq_true rfl) dX11_heat_60 (tp_k (.inr (8, [.int o44_x0, .int o44_x1, .int o44_x2, .int o44_x3, .int u, .ref (ρ b40 5), .ref (ρ b40 6)])) hD (tp_in hG hb41t (by decide)) eq45 (fun f46 H locs hP hD hS g48 k47 => ?_))
      have hT := hT.up hb41t g48 k47 ⟨_, _, _, _, _, rfl, (by first | decide | omega | (omega))⟩
      have hR := hR.up hb41t (by decide) k47
      refine lv_aload_n hx hb dX11_heat_63 rfl (lv_at hl 1 rfl) ?_
      refine lv_iload_n hx hb dX11_heat_64 rfl (lv_at hl 0 rfl) ?_
      have hf_49 : f46 h0 = .inr (11, [.ref (ρ h0 0), .ref (ρ h0 1), .ref (ρ h0 2), .ref (ρ h0 3), .ref (ρ h0 4), .ref (ρ h0 5), .int o11_x6]) := (k47 _ (tp_ne ht_h0 hb41t (by decide))).trans hf_o11
      refine tpk_pos (tp_in hG ht_h0 (by decide)) hf_49 (fun q50 eq50 => ?_)
      have hFc := tp_fr hD hS hA
      refine va_calli (va_runV (As := [.int o38_x4]) (rest := []) ⟨hx, hb, hml, hown, hts⟩ (t_X11_accept l dC dI _ Ω κ τ ν ρ L f46 hG hT h0 o38_x4 ht_h0) (cwV 1 hts gX11_heat_X11_accept rfl rfl rfl ⟨rfl, pd_X11_accept⟩ ⟨Nat.le_of_ble_eq_true rfl, Nat.le_of_ble_eq_true rfl⟩) ⟨pz_blind, va_recv hK hP (ci := 11) (q0 := q50) rfl eq50, pz_pre hP hK hD hN⟩ rfl rfl hl.1 rfl (lv_room (Nat.le_of_ble_eq_true rfl)) dX11_heat_65 ⟨Nat.le_of_ble_eq_true rfl, Nat.le_of_ble_eq_true rfl⟩) hS (fun q _ h => hFc q h) hFc (fun r51 f53 t H1 locs ht hvm hw52 hB hz1 hk1 hS => ?_)
      refine tn_4 hw52 (fun hT hF54 hw52r hw52p => ?_); clear hw52
      have hR := hR.then hF54 (by decide)
      have hP := hB.1; rw [ht] at hP; have hD := tp_ad f53 hD; clear hB hFc hz1 hk1; subst ht; generalize t.heap = H at hP hS ⊢
      exact W.iret (v := r51) hx hb hr (fun t ht hW => ⟨⟨r51, f53, rfl, ⟨hT, hR, trivial, trivial⟩, by rw [ht]; exact hP, va_K.moved hW.alike hK, hD⟩, hS.F ht⟩) hS.2.2 dX11_heat_68
    · have ic29 : r27.toInt = 0 := zi_nef rfl rfl c29
      refine lv_aload_n hx hb dX11_heat_30 rfl (lv_at hl 0 rfl) ?_
      refine lv_bipush (v := (-2)) hx hb dX11_heat_31 (by decide) ?_
      have hFc := tp_fr hD hS hA
      refine va_calli (va_runV (As := [.int (-2)]) (rest := []) ⟨hx, hb, hml, hown, hts⟩ (t_X11_refuse l dC dI _ Ω κ τ ν ρ L f hG hT h0 ((-2)) ht_h0) (cwV 1 hts gX11_heat_X11_refuse rfl rfl rfl ⟨rfl, pd_X11_refuse⟩ ⟨Nat.le_of_ble_eq_true rfl, Nat.le_of_ble_eq_true rfl⟩) ⟨pz_blind, va_recv hK hP (ci := 11) (q0 := q12) rfl eq12, pz_pre hP hK hD hN⟩ rfl rfl hl.1 rfl (lv_room (Nat.le_of_ble_eq_true rfl)) dX11_heat_33 ⟨Nat.le_of_ble_eq_true rfl, Nat.le_of_ble_eq_true rfl⟩) hS (fun q _ h => hFc q h) hFc (fun r55 f57 t H1 locs ht hvm hw56 hB hz1 hk1 hS => ?_)
      refine tn_4 hw56 (fun hT hF58 hw56r hw56p => ?_); clear hw56
      have hR := hR.then hF58 (by decide)
      have hP := hB.1; rw [ht] at hP; have hD := tp_ad f57 hD; clear hB hFc hz1 hk1; subst ht; generalize t.heap = H at hP hS ⊢
      exact W.iret (v := r55) hx hb hr (fun t ht hW => ⟨⟨r55, f57, rfl, ⟨hT, hR, trivial, trivial⟩, by rw [ht]; exact hP, va_K.moved hW.alike hK, hD⟩, hS.F ht⟩) hS.2.2 dX11_heat_36
  · have ic3 : r1.toInt = 0 := zi_nef rfl rfl c3
    refine lv_aload_n hx hb dX11_heat_13 rfl (lv_at hl 0 rfl) ?_
    refine lv_iconst (v := (-1)) hx hb dX11_heat_14 (by decide) ?_
    refine tgk_12 hG ht_h0 (fun y59 y60 y61 y62 y63 y64 => ?_)
    refine tpk_12 hT ht_h0 (fun o65_x6 hf_o65 => ?_)
    refine tpk_pos (tp_in hG ht_h0 (by decide)) hf_o65 (fun q66 eq66 => ?_)
    have hFc := tp_fr hD hS hA
    refine va_calli (va_runV (As := [.int (-1)]) (rest := []) ⟨hx, hb, hml, hown, hts⟩ (t_X11_refuse l dC dI _ Ω κ τ ν ρ L f hG hT h0 ((-1)) ht_h0) (cwV 1 hts gX11_heat_X11_refuse rfl rfl rfl ⟨rfl, pd_X11_refuse⟩ ⟨Nat.le_of_ble_eq_true rfl, Nat.le_of_ble_eq_true rfl⟩) ⟨pz_blind, va_recv hK hP (ci := 11) (q0 := q66) rfl eq66, pz_pre hP hK hD hN⟩ rfl rfl hl.1 rfl (lv_room (Nat.le_of_ble_eq_true rfl)) dX11_heat_15 ⟨Nat.le_of_ble_eq_true rfl, Nat.le_of_ble_eq_true rfl⟩) hS (fun q _ h => hFc q h) hFc (fun r67 f69 t H1 locs ht hvm hw68 hB hz1 hk1 hS => ?_)
    refine tn_4 hw68 (fun hT hF70 hw68r hw68p => ?_); clear hw68
    have hR := hR.then hF70 (by decide)
    have hP := hB.1; rw [ht] at hP; have hD := tp_ad f69 hD; clear hB hFc hz1 hk1; subst ht; generalize t.heap = H at hP hS ⊢
    exact W.iret (v := r67) hx hb hr (fun t ht hW => ⟨⟨r67, f69, rfl, ⟨hT, hR, trivial, trivial⟩, by rw [ht]; exact hP, va_K.moved hW.alike hK, hD⟩, hS.F ht⟩) hS.2.2 dX11_heat_18
set_option maxHeartbeats 4000000 in
set_option maxRecDepth 100000 in
theorem t_X11_price (l : Launch) (dC : Nat → ClassId) (dI : Nat → Nat → Nat) (sz : Nat) (Ω : Nat → (Nat → Nat) → va_E → Prop) (κ : Nat → ClassId) (τ ν : Nat → Nat) (ρ : Nat → Nat → Nat) (L : List Nat) (f : Nat → va_E) (hG : tp_G τ ν ρ L) (hT : tp_T Ω κ τ ν ρ f) (h0 : Nat) (v : Int32) (u : Int32) (a : Int32) (ht_h0 : τ h0 = 12) : Met l yX11_price wqX11_price ({ frames := 5, cells := 0, slots := 0, locals := 1600 }) (va_Pc [.ref h0, .int v, .int u, .int a] (pz_B dC dI (tp_K κ) (va_pl L f) sz)) (va_Qi (fun (r : Int32) (f1 : Nat → va_E) => tp_T Ω κ τ ν ρ f1 ∧ tp_F τ [2, 3, 4, 5, 6, 7, 8, 9, 10, 11, 12, 20, 21, 22, 26, 27, 28] f f1 ∧ True ∧ True) (fun (f1 : Nat → va_E) (t : State) => pz_E dC dI (tp_K κ) (va_A (va_pl L f) sz) (va_pl L f1) t) (va_A (va_pl L f) sz)) 0 0 (va_A (va_pl L f) sz) := by
  refine Met.ofW (cc := cX11_price) (maxL := 5) (ret := some .int) (by decide) rfl ?_
  intro p e s m args below meth c s₁ B hml hv
  obtain ⟨rfl, hsz, hP, hK, hD0, hN⟩ := hv
  have hx := B.exec
  have hb := B.bytes
  have hr := B.returns
  have hts := fun (w : Cond) (h : w ∈ WALL) => atoms_spec (ws := wqX11_price) B.pre w (List.mem_cons_of_mem _ h)
  have hown : s.vm.findClass RX11 = some m.cls := findClass_of_methodNamed B.named
  have hlocks := B.notSynchronized
  subst hsz
  have hD := hD0.self (sz := s.heap.size)
  generalize hAe : va_A (va_pl L f) s.heap.size = A at hD ⊢
  have hA : ∀ q : Nat, s.heap.size ≤ q → A q := fun q h => by rw [← hAe]; exact Or.inr h
  have hS : va_S A s.heap s.heap [] := va_S.rf
  have hR : tp_F τ [2, 3, 4, 5, 6, 7, 8, 9, 10, 11, 12, 20, 21, 22, 26, 27, 28] f f := tp_F.rf
  have hl := lv_entry ([.ref h0, .int v, .int u, .int a]) (n := 5) (Nat.le_of_ble_eq_true rfl)
  rw [lg_entry_eq]
  generalize (lg_sl ([.ref h0, .int v, .int u, .int a]) ++ List.replicate (5 - (lg_sl ([.ref h0, .int v, .int u, .int a])).length) Slot.unset).toArray = ls at hl ⊢
  have hl : lv_has ls 5 [(0, .ref h0), (1, .int v), (2, .int u), (3, .int a)] := hl
  refine lv_iload_n hx hb dX11_price_0 rfl (lv_at hl 1 rfl) ?_
  refine lv_iconst (v := 0) hx hb dX11_price_1 (by decide) ?_
  refine lv_bipush (v := 99) hx hb dX11_price_2 (by decide) ?_
  refine pz_calli (va_runS (As := [.int v, .int 0, .int 99]) (rest := []) ⟨hx, hb, hml, hown, hts⟩ (t_X11_within l dC dI _ v (0) (99) (v.toInt) (0) (99) rfl rfl rfl) (va_cwS 3 hts gX11_price_X11_within rfl rfl rfl pd_X11_within ⟨Nat.le_of_ble_eq_true rfl, Nat.le_of_ble_eq_true rfl⟩) ⟨pz_blind, pz_pre pz_P0 (hK.sub (tys' := []) [] rfl) (pz_D0 (A := fun _ => True)) hN⟩ rfl rfl hl.1 rfl (lv_room (Nat.le_of_ble_eq_true rfl)) dX11_price_4 ⟨Nat.le_of_ble_eq_true rfl, Nat.le_of_ble_eq_true rfl⟩) (fun r1 hw2 => ?_)
  obtain ⟨hw2r, hw2p⟩ := hw2
  refine lv_if_eq (tgt := 28) hx hb dX11_price_7 (by decide) (fun c3 => ?_) (fun c3 => ?_)
  · have ic3 : r1.toInt = 0 := zi_eq rfl rfl c3
    refine lv_aload_n hx hb dX11_price_28 rfl (lv_at hl 0 rfl) ?_
    refine lv_iconst (v := (-1)) hx hb dX11_price_29 (by decide) ?_
    refine tgk_12 hG ht_h0 (fun y4 y5 y6 y7 y8 y9 => ?_)
    refine tpk_12 hT ht_h0 (fun o10_x6 hf_o10 => ?_)
    refine tpk_pos (tp_in hG ht_h0 (by decide)) hf_o10 (fun q11 eq11 => ?_)
    have hFc := tp_fr hD hS hA
    refine va_calli (va_runV (As := [.int (-1)]) (rest := []) ⟨hx, hb, hml, hown, hts⟩ (t_X11_refuse l dC dI _ Ω κ τ ν ρ L f hG hT h0 ((-1)) ht_h0) (cwV 1 hts gX11_price_X11_refuse rfl rfl rfl ⟨rfl, pd_X11_refuse⟩ ⟨Nat.le_of_ble_eq_true rfl, Nat.le_of_ble_eq_true rfl⟩) ⟨pz_blind, va_recv hK hP (ci := 11) (q0 := q11) rfl eq11, pz_pre hP hK hD hN⟩ rfl rfl hl.1 rfl (lv_room (Nat.le_of_ble_eq_true rfl)) dX11_price_30 ⟨Nat.le_of_ble_eq_true rfl, Nat.le_of_ble_eq_true rfl⟩) hS (fun q _ h => hFc q h) hFc (fun r12 f14 t H1 locs ht hvm hw13 hB hz1 hk1 hS => ?_)
    refine tn_4 hw13 (fun hT hF15 hw13r hw13p => ?_); clear hw13
    have hR := hR.then hF15 (by decide)
    have hP := hB.1; rw [ht] at hP; have hD := tp_ad f14 hD; clear hB hFc hz1 hk1; subst ht; generalize t.heap = H at hP hS ⊢
    exact W.iret (v := r12) hx hb hr (fun t ht hW => ⟨⟨r12, f14, rfl, ⟨hT, hR, trivial, trivial⟩, by rw [ht]; exact hP, va_K.moved hW.alike hK, hD⟩, hS.F ht⟩) hS.2.2 dX11_price_33
  · have ic3 : r1.toInt ≠ 0 := zi_eqf rfl rfl c3
    have p16 : (0) ≤ (v.toInt) ∧ (v.toInt) ≤ (99) := (tp_cond.yes hw2p) (by omega)
    refine lv_iload_n hx hb dX11_price_10 rfl (lv_at hl 2 rfl) ?_
    refine lv_iconst (v := 0) hx hb dX11_price_11 (by decide) ?_
    refine lv_sipush (v := 10000) hx hb dX11_price_12 (by decide) ?_
    refine pz_calli (va_runS (As := [.int u, .int 0, .int 10000]) (rest := []) ⟨hx, hb, hml, hown, hts⟩ (t_X11_within l dC dI _ u (0) (10000) (u.toInt) (0) (10000) rfl rfl rfl) (va_cwS 3 hts gX11_price_X11_within rfl rfl rfl pd_X11_within ⟨Nat.le_of_ble_eq_true rfl, Nat.le_of_ble_eq_true rfl⟩) ⟨pz_blind, pz_pre pz_P0 (hK.sub (tys' := []) [] rfl) (pz_D0 (A := fun _ => True)) hN⟩ rfl rfl hl.1 rfl (lv_room (Nat.le_of_ble_eq_true rfl)) dX11_price_15 ⟨Nat.le_of_ble_eq_true rfl, Nat.le_of_ble_eq_true rfl⟩) (fun r17 hw18 => ?_)
    obtain ⟨hw18r, hw18p⟩ := hw18
    refine lv_if_eq (tgt := 28) hx hb dX11_price_18 (by decide) (fun c19 => ?_) (fun c19 => ?_)
    · have ic19 : r17.toInt = 0 := zi_eq rfl rfl c19
      refine lv_aload_n hx hb dX11_price_28 rfl (lv_at hl 0 rfl) ?_
      refine lv_iconst (v := (-1)) hx hb dX11_price_29 (by decide) ?_
      refine tgk_12 hG ht_h0 (fun y20 y21 y22 y23 y24 y25 => ?_)
      refine tpk_12 hT ht_h0 (fun o26_x6 hf_o26 => ?_)
      refine tpk_pos (tp_in hG ht_h0 (by decide)) hf_o26 (fun q27 eq27 => ?_)
      have hFc := tp_fr hD hS hA
      refine va_calli (va_runV (As := [.int (-1)]) (rest := []) ⟨hx, hb, hml, hown, hts⟩ (t_X11_refuse l dC dI _ Ω κ τ ν ρ L f hG hT h0 ((-1)) ht_h0) (cwV 1 hts gX11_price_X11_refuse rfl rfl rfl ⟨rfl, pd_X11_refuse⟩ ⟨Nat.le_of_ble_eq_true rfl, Nat.le_of_ble_eq_true rfl⟩) ⟨pz_blind, va_recv hK hP (ci := 11) (q0 := q27) rfl eq27, pz_pre hP hK hD hN⟩ rfl rfl hl.1 rfl (lv_room (Nat.le_of_ble_eq_true rfl)) dX11_price_30 ⟨Nat.le_of_ble_eq_true rfl, Nat.le_of_ble_eq_true rfl⟩) hS (fun q _ h => hFc q h) hFc (fun r28 f30 t H1 locs ht hvm hw29 hB hz1 hk1 hS => ?_)
      refine tn_4 hw29 (fun hT hF31 hw29r hw29p => ?_); clear hw29
      have hR := hR.then hF31 (by decide)
      have hP := hB.1; rw [ht] at hP; have hD := tp_ad f30 hD; clear hB hFc hz1 hk1; subst ht; generalize t.heap = H at hP hS ⊢
      exact W.iret (v := r28) hx hb hr (fun t ht hW => ⟨⟨r28, f30, rfl, ⟨hT, hR, trivial, trivial⟩, by rw [ht]; exact hP, va_K.moved hW.alike hK, hD⟩, hS.F ht⟩) hS.2.2 dX11_price_33
    · have ic19 : r17.toInt ≠ 0 := zi_eqf rfl rfl c19
      have p32 : (0) ≤ (u.toInt) ∧ (u.toInt) ≤ (10000) := (tp_cond.yes hw18p) (by omega)
      refine lv_iload_n hx hb dX11_price_21 rfl (lv_at hl 3 rfl) ?_
      refine pz_calli (va_runS (As := [.int a]) (rest := []) ⟨hx, hb, hml, hown, hts⟩ (t_X11_isHour l dC dI _ a (a.toInt) rfl) (va_cwS 1 hts gX11_price_X11_isHour rfl rfl rfl pd_X11_isHour ⟨Nat.le_of_ble_eq_true rfl, Nat.le_of_ble_eq_true rfl⟩) ⟨pz_blind, pz_pre pz_P0 (hK.sub (tys' := []) [] rfl) (pz_D0 (A := fun _ => True)) hN⟩ rfl rfl hl.1 rfl (lv_room (Nat.le_of_ble_eq_true rfl)) dX11_price_22 ⟨Nat.le_of_ble_eq_true rfl, Nat.le_of_ble_eq_true rfl⟩) (fun r33 hw34 => ?_)
      obtain ⟨hw34r, hw34p⟩ := hw34
      refine lv_if_ne (tgt := 34) hx hb dX11_price_25 (by decide) (fun c35 => ?_) (fun c35 => ?_)
      · have ic35 : r33.toInt ≠ 0 := zi_ne rfl rfl c35
        have p36 : 0 ≤ (a.toInt) ∧ (a.toInt) ≤ 2399 := (tp_cond.yes hw34p) (by omega)
        refine lv_aload_n hx hb dX11_price_34 rfl (lv_at hl 0 rfl) ?_
        refine tgk_12 hG ht_h0 (fun y37 y38 y39 y40 y41 y42 => ?_)
        refine tpk_12 hT ht_h0 (fun o43_x6 hf_o43 => ?_)
        refine tpk_pos (tp_in hG ht_h0 (by decide)) hf_o43 (fun q44 eq44 => ?_)
        refine va_get (D := (dC, dI)) (ci := 11) (v := .ref (ρ h0 0)) (C := RX11) (T := TX11) (N := 7) hx hb hts hfX11 hown hK hP q44 eq44 rfl 0 (by decide) (hts (.fieldLink RX11 10 "ColdShips" "world" "LColdShips$World;") wa_15) (fun _ h9 => h9) rfl dX11_price_35 ?_
        refine tgk_11 hG y37 (fun y45 y45n y46 y46n y47 y48 y49 y50 y51 y52 y53 y53w y53m y54 y54w y54m y55 y55w y55m y56 y56w y56m => ?_)
        refine tpk_11 hT y37 (fun o57_x0 o57_x1 o57_x2 o57_x3 o57_x4 o57_x5 o57_x6 hf_o57 ro57_0 ro57_1 ro57_2 ro57_3 => ?_)
        refine tpk_pos (tp_in hG y37 (by decide)) hf_o57 (fun q58 eq58 => ?_)
        refine va_getN (D := (dC, dI)) (ci := 10) (v := .ref (ρ (ρ h0 0) 15)) (C := RX10) (T := TX10) (N := 19) hx hb hts hfX10 hown hK hP q58 eq58 rfl 15 (by decide) (va_Nw.use rfl (hN.1 (.fieldLinkNest RX11 232 "ColdShips$World" "prices" "LColdShips$Rows;" "ColdShips") nzw_80)) (fun _ h9 => h9) rfl dX11_price_38 ?_
        refine tgk_5 hG y53 (fun y59 y59n y60a y60b y60c => ?_)
        refine tpk_5 hT y53 (fun o61_x0 o61_x2 hf_o61 ro61_0 ro61_1 => ?_)
        refine tpk_pos (tp_in hG y53 (by decide)) hf_o61 (fun q62 eq62 => ?_)
        have hFc := tp_fr hD hS hA
        refine va_calli (va_runV (As := []) (rest := []) ⟨hx, hb, hml, hown, hts⟩ (t_X4_addRow l dC dI _ Ω κ τ ν ρ L f hG hT (ρ (ρ h0 0) 15) y53 o61_x0 o61_x2 hf_o61) (cwV 0 hts gX11_price_X4_addRow rfl rfl rfl ⟨rfl, pd_X4_addRow⟩ ⟨Nat.le_of_ble_eq_true rfl, Nat.le_of_ble_eq_true rfl⟩) ⟨pz_blind, va_recv hK hP (ci := 4) (q0 := q62) rfl eq62, pz_pre hP hK hD hN⟩ rfl rfl hl.1 rfl (lv_room (Nat.le_of_ble_eq_true rfl)) dX11_price_41 ⟨Nat.le_of_ble_eq_true rfl, Nat.le_of_ble_eq_true rfl⟩) hS (fun q _ h => hFc q h) hFc (fun r63 f65 t H1 locs ht hvm hw64 hB hz1 hk1 hS => ?_)
        refine tn_4 hw64 (fun hT hF66 hw64r hw64p => ?_); clear hw64
        have hR := hR.then hF66 (by decide)
        have hP := hB.1; rw [ht] at hP; have hD := tp_ad f65 hD; clear hB hFc hz1 hk1; subst ht; generalize t.heap = H at hP hS ⊢
        refine lv_istore (lv' := [(4, .int r63), (0, .ref h0), (1, .int v), (2, .int u), (3, .int a)]) hx hb dX11_price_44 hl (by decide) rfl (fun ls hl => ?_)
        refine lv_iload hx hb dX11_price_46 (lv_at hl 0 rfl) ?_
        refine lv_iconst (v := (-1)) hx hb dX11_price_48 (by decide) ?_
        refine lv_icmp_ne (tgt := 59) hx hb dX11_price_49 (by decide) (fun c67 => ?_) (fun c67 => ?_)
        · have ic67 : r63.toInt ≠ (-1) := zi_ne rfl rfl c67
          refine lv_aload_n hx hb dX11_price_59 rfl (lv_at hl 1 rfl) ?_
          have hf_68 : f65 h0 = .inr (11, [.ref (ρ h0 0), .ref (ρ h0 1), .ref (ρ h0 2), .ref (ρ h0 3), .ref (ρ h0 4), .ref (ρ h0 5), .int o43_x6]) := (hF66 _ (by rw [ht_h0]; decide)).trans hf_o43
          refine tpk_pos (tp_in hG ht_h0 (by decide)) hf_68 (fun q69 eq69 => ?_)
          refine va_get (D := (dC, dI)) (ci := 11) (v := .ref (ρ h0 0)) (C := RX11) (T := TX11) (N := 7) hx hb hts hfX11 hown hK hP q69 eq69 rfl 0 (by decide) (hts (.fieldLink RX11 10 "ColdShips" "world" "LColdShips$World;") wa_15) (fun _ h9 => h9) rfl dX11_price_60 ?_
          have hf_70 : f65 (ρ h0 0) = .inr (10, [.int o57_x0, .int o57_x1, .int o57_x2, .int o57_x3, .int o57_x4, .int o57_x5, .int o57_x6, .ref (ρ (ρ h0 0) 7), .ref (ρ (ρ h0 0) 8), .ref (ρ (ρ h0 0) 9), .ref (ρ (ρ h0 0) 10), .ref (ρ (ρ h0 0) 11), .ref (ρ (ρ h0 0) 12), .ref (ρ (ρ h0 0) 13), .ref (ρ (ρ h0 0) 14), .ref (ρ (ρ h0 0) 15), .ref (ρ (ρ h0 0) 16), .ref (ρ (ρ h0 0) 17), .ref (ρ (ρ h0 0) 18)]) := (hF66 _ (by rw [y37]; decide)).trans hf_o57
          refine tpk_pos (tp_in hG y37 (by decide)) hf_70 (fun q71 eq71 => ?_)
          refine va_getN (D := (dC, dI)) (ci := 10) (v := .ref (ρ (ρ h0 0) 15)) (C := RX10) (T := TX10) (N := 19) hx hb hts hfX10 hown hK hP q71 eq71 rfl 15 (by decide) (va_Nw.use rfl (hN.1 (.fieldLinkNest RX11 232 "ColdShips$World" "prices" "LColdShips$Rows;" "ColdShips") nzw_80)) (fun _ h9 => h9) rfl dX11_price_63 ?_
          refine lv_iload hx hb dX11_price_66 (lv_at hl 0 rfl) ?_
          refine lv_iconst (v := 0) hx hb dX11_price_68 (by decide) ?_
          refine lv_iload_n hx hb dX11_price_69 rfl (lv_at hl 2 rfl) ?_
          refine lv_i2l hx hb dX11_price_70 rfl ?_
          refine tpk_5 hT y53 (fun o72_x0 o72_x2 hf_o72 ro72_0 ro72_1 => ?_)
          refine tpk_pos (tp_in hG y53 (by decide)) hf_o72 (fun q73 eq73 => ?_)
          have hFc := tp_fr hD hS hA
          refine va_callv (va_runV (As := [.int r63, .int 0, .long v.toInt64]) (rest := []) ⟨hx, hb, hml, hown, hts⟩ (t_X4_set l dC dI _ Ω κ τ ν ρ L f65 hG hT (ρ (ρ h0 0) 15) r63 (0) v.toInt64 y53 o72_x0 o72_x2 hf_o72) (cwV 3 hts gX11_price_X4_set rfl rfl rfl ⟨rfl, pd_X4_set⟩ ⟨Nat.le_of_ble_eq_true rfl, Nat.le_of_ble_eq_true rfl⟩) ⟨pz_blind, va_recv hK hP (ci := 4) (q0 := q73) rfl eq73, pz_pre hP hK hD hN⟩ rfl rfl hl.1 rfl (lv_room (Nat.le_of_ble_eq_true rfl)) dX11_price_71 ⟨Nat.le_of_ble_eq_true rfl, Nat.le_of_ble_eq_true rfl⟩) hS (fun q _ h => hFc q h) hFc (fun f76 t H1 locs ht hvm hw75 hB hz1 hk1 hS => ?_)
          refine tn_3 hw75 (fun hT hF77 hw75p => ?_); clear hw75
          have hR := hR.then hF77 (by decide)
          have hP := hB.1; rw [ht] at hP; have hD := tp_ad f76 hD; clear hB hFc hz1 hk1; subst ht; generalize t.heap = H at hP hS ⊢
          refine lv_aload_n hx hb dX11_price_74 rfl (lv_at hl 1 rfl) ?_
          have hf_78 : f76 h0 = .inr (11, [.ref (ρ h0 0), .ref (ρ h0 1), .ref (ρ h0 2), .ref (ρ h0 3), .ref (ρ h0 4), .ref (ρ h0 5), .int o43_x6]) := (hF77 _ (by rw [ht_h0]; decide)).trans hf_68
          refine tpk_pos (tp_in hG ht_h0 (by decide)) hf_78 (fun q79 eq79 => ?_)
          refine va_get (D := (dC, dI)) (ci := 11) (v := .ref (ρ h0 0)) (C := RX11) (T := TX11) (N := 7) hx hb hts hfX11 hown hK hP q79 eq79 rfl 0 (by decide) (hts (.fieldLink RX11 10 "ColdShips" "world" "LColdShips$World;") wa_15) (fun _ h9 => h9) rfl dX11_price_75 ?_
          have hf_80 : f76 (ρ h0 0) = .inr (10, [.int o57_x0, .int o57_x1, .int o57_x2, .int o57_x3, .int o57_x4, .int o57_x5, .int o57_x6, .ref (ρ (ρ h0 0) 7), .ref (ρ (ρ h0 0) 8), .ref (ρ (ρ h0 0) 9), .ref (ρ (ρ h0 0) 10), .ref (ρ (ρ h0 0) 11), .ref (ρ (ρ h0 0) 12), .ref (ρ (ρ h0 0) 13), .ref (ρ (ρ h0 0) 14), .ref (ρ (ρ h0 0) 15), .ref (ρ (ρ h0 0) 16), .ref (ρ (ρ h0 0) 17), .ref (ρ (ρ h0 0) 18)]) := (hF77 _ (by rw [y37]; decide)).trans hf_70
          refine tpk_pos (tp_in hG y37 (by decide)) hf_80 (fun q81 eq81 => ?_)
          refine va_getN (D := (dC, dI)) (ci := 10) (v := .ref (ρ (ρ h0 0) 15)) (C := RX10) (T := TX10) (N := 19) hx hb hts hfX10 hown hK hP q81 eq81 rfl 15 (by decide) (va_Nw.use rfl (hN.1 (.fieldLinkNest RX11 232 "ColdShips$World" "prices" "LColdShips$Rows;" "ColdShips") nzw_80)) (fun _ h9 => h9) rfl dX11_price_78 ?_
          refine lv_iload hx hb dX11_price_81 (lv_at hl 0 rfl) ?_
          refine lv_iconst (v := 1) hx hb dX11_price_83 (by decide) ?_
          refine lv_iload_n hx hb dX11_price_84 rfl (lv_at hl 3 rfl) ?_
          refine lv_i2l hx hb dX11_price_85 rfl ?_
          have hf_82 : f76 (ρ (ρ h0 0) 15) = .inr (4, [.int o72_x0, .ref (ρ (ρ (ρ h0 0) 15) 1), .int o72_x2]) := (hF77 _ (by rw [y53]; decide)).trans hf_o72
          refine tpk_pos (tp_in hG y53 (by decide)) hf_82 (fun q83 eq83 => ?_)
          have hFc := tp_fr hD hS hA
          refine va_callv (va_runV (As := [.int r63, .int 1, .long u.toInt64]) (rest := []) ⟨hx, hb, hml, hown, hts⟩ (t_X4_set l dC dI _ Ω κ τ ν ρ L f76 hG hT (ρ (ρ h0 0) 15) r63 (1) u.toInt64 y53 o72_x0 o72_x2 hf_82) (cwV 3 hts gX11_price_X4_set rfl rfl rfl ⟨rfl, pd_X4_set⟩ ⟨Nat.le_of_ble_eq_true rfl, Nat.le_of_ble_eq_true rfl⟩) ⟨pz_blind, va_recv hK hP (ci := 4) (q0 := q83) rfl eq83, pz_pre hP hK hD hN⟩ rfl rfl hl.1 rfl (lv_room (Nat.le_of_ble_eq_true rfl)) dX11_price_86 ⟨Nat.le_of_ble_eq_true rfl, Nat.le_of_ble_eq_true rfl⟩) hS (fun q _ h => hFc q h) hFc (fun f86 t H1 locs ht hvm hw85 hB hz1 hk1 hS => ?_)
          refine tn_3 hw85 (fun hT hF87 hw85p => ?_); clear hw85
          have hR := hR.then hF87 (by decide)
          have hP := hB.1; rw [ht] at hP; have hD := tp_ad f86 hD; clear hB hFc hz1 hk1; subst ht; generalize t.heap = H at hP hS ⊢
          refine lv_aload_n hx hb dX11_price_89 rfl (lv_at hl 1 rfl) ?_
          have hf_88 : f86 h0 = .inr (11, [.ref (ρ h0 0), .ref (ρ h0 1), .ref (ρ h0 2), .ref (ρ h0 3), .ref (ρ h0 4), .ref (ρ h0 5), .int o43_x6]) := (hF87 _ (by rw [ht_h0]; decide)).trans hf_78
          refine tpk_pos (tp_in hG ht_h0 (by decide)) hf_88 (fun q89 eq89 => ?_)
          refine va_get (D := (dC, dI)) (ci := 11) (v := .ref (ρ h0 0)) (C := RX11) (T := TX11) (N := 7) hx hb hts hfX11 hown hK hP q89 eq89 rfl 0 (by decide) (hts (.fieldLink RX11 10 "ColdShips" "world" "LColdShips$World;") wa_15) (fun _ h9 => h9) rfl dX11_price_90 ?_
          have hf_90 : f86 (ρ h0 0) = .inr (10, [.int o57_x0, .int o57_x1, .int o57_x2, .int o57_x3, .int o57_x4, .int o57_x5, .int o57_x6, .ref (ρ (ρ h0 0) 7), .ref (ρ (ρ h0 0) 8), .ref (ρ (ρ h0 0) 9), .ref (ρ (ρ h0 0) 10), .ref (ρ (ρ h0 0) 11), .ref (ρ (ρ h0 0) 12), .ref (ρ (ρ h0 0) 13), .ref (ρ (ρ h0 0) 14), .ref (ρ (ρ h0 0) 15), .ref (ρ (ρ h0 0) 16), .ref (ρ (ρ h0 0) 17), .ref (ρ (ρ h0 0) 18)]) := (hF87 _ (by rw [y37]; decide)).trans hf_80
          refine tpk_pos (tp_in hG y37 (by decide)) hf_90 (fun q91 eq91 => ?_)
          refine va_getN (D := (dC, dI)) (ci := 10) (v := .ref (ρ (ρ h0 0) 15)) (C := RX10) (T := TX10) (N := 19) hx hb hts hfX10 hown hK hP q91 eq91 rfl 15 (by decide) (va_Nw.use rfl (hN.1 (.fieldLinkNest RX11 232 "ColdShips$World" "prices" "LColdShips$Rows;" "ColdShips") nzw_80)) (fun _ h9 => h9) rfl dX11_price_93 ?_
          refine lv_iload hx hb dX11_price_96 (lv_at hl 0 rfl) ?_
          refine lv_iconst (v := 2) hx hb dX11_price_98 (by decide) ?_
          refine lv_iload_n hx hb dX11_price_99 rfl (lv_at hl 4 rfl) ?_
          refine lv_i2l hx hb dX11_price_100 rfl ?_
          have hf_92 : f86 (ρ (ρ h0 0) 15) = .inr (4, [.int o72_x0, .ref (ρ (ρ (ρ h0 0) 15) 1), .int o72_x2]) := (hF87 _ (by rw [y53]; decide)).trans hf_82
          refine tpk_pos (tp_in hG y53 (by decide)) hf_92 (fun q93 eq93 => ?_)
          have hFc := tp_fr hD hS hA
          refine va_callv (va_runV (As := [.int r63, .int 2, .long a.toInt64]) (rest := []) ⟨hx, hb, hml, hown, hts⟩ (t_X4_set l dC dI _ Ω κ τ ν ρ L f86 hG hT (ρ (ρ h0 0) 15) r63 (2) a.toInt64 y53 o72_x0 o72_x2 hf_92) (cwV 3 hts gX11_price_X4_set rfl rfl rfl ⟨rfl, pd_X4_set⟩ ⟨Nat.le_of_ble_eq_true rfl, Nat.le_of_ble_eq_true rfl⟩) ⟨pz_blind, va_recv hK hP (ci := 4) (q0 := q93) rfl eq93, pz_pre hP hK hD hN⟩ rfl rfl hl.1 rfl (lv_room (Nat.le_of_ble_eq_true rfl)) dX11_price_101 ⟨Nat.le_of_ble_eq_true rfl, Nat.le_of_ble_eq_true rfl⟩) hS (fun q _ h => hFc q h) hFc (fun f96 t H1 locs ht hvm hw95 hB hz1 hk1 hS => ?_)
          refine tn_3 hw95 (fun hT hF97 hw95p => ?_); clear hw95
          have hR := hR.then hF97 (by decide)
          have hP := hB.1; rw [ht] at hP; have hD := tp_ad f96 hD; clear hB hFc hz1 hk1; subst ht; generalize t.heap = H at hP hS ⊢
          refine lv_aload_n hx hb dX11_price_104 rfl (lv_at hl 1 rfl) ?_
          refine lv_aload_n hx hb dX11_price_105 rfl (lv_at hl 1 rfl) ?_
          have hf_98 : f96 h0 = .inr (11, [.ref (ρ h0 0), .ref (ρ h0 1), .ref (ρ h0 2), .ref (ρ h0 3), .ref (ρ h0 4), .ref (ρ h0 5), .int o43_x6]) := (hF97 _ (by rw [ht_h0]; decide)).trans hf_88
          refine tpk_pos (tp_in hG ht_h0 (by decide)) hf_98 (fun q99 eq99 => ?_)
          refine va_get (D := (dC, dI)) (ci := 11) (v := .ref (ρ h0 0)) (C := RX11) (T := TX11) (N := 7) hx hb hts hfX11 hown hK hP q99 eq99 rfl 0 (by decide) (hts (.fieldLink RX11 10 "ColdShips" "world" "LColdShips$World;") wa_15) (fun _ h9 => h9) rfl dX11_price_106 ?_
          have hf_100 : f96 (ρ h0 0) = .inr (10, [.int o57_x0, .int o57_x1, .int o57_x2, .int o57_x3, .int o57_x4, .int o57_x5, .int o57_x6, .ref (ρ (ρ h0 0) 7), .ref (ρ (ρ h0 0) 8), .ref (ρ (ρ h0 0) 9), .ref (ρ (ρ h0 0) 10), .ref (ρ (ρ h0 0) 11), .ref (ρ (ρ h0 0) 12), .ref (ρ (ρ h0 0) 13), .ref (ρ (ρ h0 0) 14), .ref (ρ (ρ h0 0) 15), .ref (ρ (ρ h0 0) 16), .ref (ρ (ρ h0 0) 17), .ref (ρ (ρ h0 0) 18)]) := (hF97 _ (by rw [y37]; decide)).trans hf_90
          refine tpk_pos (tp_in hG y37 (by decide)) hf_100 (fun q101 eq101 => ?_)
          refine va_getN (D := (dC, dI)) (ci := 10) (v := .ref (ρ (ρ h0 0) 15)) (C := RX10) (T := TX10) (N := 19) hx hb hts hfX10 hown hK hP q101 eq101 rfl 15 (by decide) (va_Nw.use rfl (hN.1 (.fieldLinkNest RX11 232 "ColdShips$World" "prices" "LColdShips$Rows;" "ColdShips") nzw_80)) (fun _ h9 => h9) rfl dX11_price_109 ?_
          have hf_102 : f96 (ρ (ρ h0 0) 15) = .inr (4, [.int o72_x0, .ref (ρ (ρ (ρ h0 0) 15) 1), .int o72_x2]) := (hF97 _ (by rw [y53]; decide)).trans hf_92
          refine tpk_pos (tp_in hG y53 (by decide)) hf_102 (fun q103 eq103 => ?_)
          refine va_getN (D := (dC, dI)) (ci := 4) (v := .int o72_x2) (C := RX4) (T := TX4) (N := 3) hx hb hts hfX4 hown hK hP q103 eq103 rfl 2 (by decide) (va_Nw.use rfl (hN.1 (.fieldLinkNest RX11 242 "ColdShips$Rows" "size" "I" "ColdShips") nzw_4)) (fun _ h9 => h9) rfl dX11_price_112 ?_
          have hFc := tp_fr hD hS hA
          refine va_calli (va_runV (As := [.int o72_x2]) (rest := []) ⟨hx, hb, hml, hown, hts⟩ (t_X11_accept l dC dI _ Ω κ τ ν ρ L f96 hG hT h0 o72_x2 ht_h0) (cwV 1 hts gX11_price_X11_accept rfl rfl rfl ⟨rfl, pd_X11_accept⟩ ⟨Nat.le_of_ble_eq_true rfl, Nat.le_of_ble_eq_true rfl⟩) ⟨pz_blind, va_recv hK hP (ci := 11) (q0 := q99) rfl eq99, pz_pre hP hK hD hN⟩ rfl rfl hl.1 rfl (lv_room (Nat.le_of_ble_eq_true rfl)) dX11_price_115 ⟨Nat.le_of_ble_eq_true rfl, Nat.le_of_ble_eq_true rfl⟩) hS (fun q _ h => hFc q h) hFc (fun r104 f106 t H1 locs ht hvm hw105 hB hz1 hk1 hS => ?_)
          refine tn_4 hw105 (fun hT hF107 hw105r hw105p => ?_); clear hw105
          have hR := hR.then hF107 (by decide)
          have hP := hB.1; rw [ht] at hP; have hD := tp_ad f106 hD; clear hB hFc hz1 hk1; subst ht; generalize t.heap = H at hP hS ⊢
          exact W.iret (v := r104) hx hb hr (fun t ht hW => ⟨⟨r104, f106, rfl, ⟨hT, hR, trivial, trivial⟩, by rw [ht]; exact hP, va_K.moved hW.alike hK, hD⟩, hS.F ht⟩) hS.2.2 dX11_price_118
        · have ic67 : r63.toInt = (-1) := zi_nef rfl rfl c67
          refine lv_aload_n hx hb dX11_price_52 rfl (lv_at hl 1 rfl) ?_
          refine lv_bipush (v := (-5)) hx hb dX11_price_53 (by decide) ?_
          have hf_108 : f65 h0 = .inr (11, [.ref (ρ h0 0), .ref (ρ h0 1), .ref (ρ h0 2), .ref (ρ h0 3), .ref (ρ h0 4), .ref (ρ h0 5), .int o43_x6]) := (hF66 _ (by rw [ht_h0]; decide)).trans hf_o43
          refine tpk_pos (tp_in hG ht_h0 (by decide)) hf_108 (fun q109 eq109 => ?_)
          have hFc := tp_fr hD hS hA
          refine va_calli (va_runV (As := [.int (-5)]) (rest := []) ⟨hx, hb, hml, hown, hts⟩ (t_X11_refuse l dC dI _ Ω κ τ ν ρ L f65 hG hT h0 ((-5)) ht_h0) (cwV 1 hts gX11_price_X11_refuse rfl rfl rfl ⟨rfl, pd_X11_refuse⟩ ⟨Nat.le_of_ble_eq_true rfl, Nat.le_of_ble_eq_true rfl⟩) ⟨pz_blind, va_recv hK hP (ci := 11) (q0 := q109) rfl eq109, pz_pre hP hK hD hN⟩ rfl rfl hl.1 rfl (lv_room (Nat.le_of_ble_eq_true rfl)) dX11_price_55 ⟨Nat.le_of_ble_eq_true rfl, Nat.le_of_ble_eq_true rfl⟩) hS (fun q _ h => hFc q h) hFc (fun r110 f112 t H1 locs ht hvm hw111 hB hz1 hk1 hS => ?_)
          refine tn_4 hw111 (fun hT hF113 hw111r hw111p => ?_); clear hw111
          have hR := hR.then hF113 (by decide)
          have hP := hB.1; rw [ht] at hP; have hD := tp_ad f112 hD; clear hB hFc hz1 hk1; subst ht; generalize t.heap = H at hP hS ⊢
          exact W.iret (v := r110) hx hb hr (fun t ht hW => ⟨⟨r110, f112, rfl, ⟨hT, hR, trivial, trivial⟩, by rw [ht]; exact hP, va_K.moved hW.alike hK, hD⟩, hS.F ht⟩) hS.2.2 dX11_price_58
      · have ic35 : r33.toInt = 0 := zi_nef rfl rfl c35
        refine lv_aload_n hx hb dX11_price_28 rfl (lv_at hl 0 rfl) ?_
        refine lv_iconst (v := (-1)) hx hb dX11_price_29 (by decide) ?_
        refine tgk_12 hG ht_h0 (fun y114 y115 y116 y117 y118 y119 => ?_)
        refine tpk_12 hT ht_h0 (fun o120_x6 hf_o120 => ?_)
        refine tpk_pos (tp_in hG ht_h0 (by decide)) hf_o120 (fun q121 eq121 => ?_)
        have hFc := tp_fr hD hS hA
        refine va_calli (va_runV (As := [.int (-1)]) (rest := []) ⟨hx, hb, hml, hown, hts⟩ (t_X11_refuse l dC dI _ Ω κ τ ν ρ L f hG hT h0 ((-1)) ht_h0) (cwV 1 hts gX11_price_X11_refuse rfl rfl rfl ⟨rfl, pd_X11_refuse⟩ ⟨Nat.le_of_ble_eq_true rfl, Nat.le_of_ble_eq_true rfl⟩) ⟨pz_blind, va_recv hK hP (ci := 11) (q0 := q121) rfl eq121, pz_pre hP hK hD hN⟩ rfl rfl hl.1 rfl (lv_room (Nat.le_of_ble_eq_true rfl)) dX11_price_30 ⟨Nat.le_of_ble_eq_true rfl, Nat.le_of_ble_eq_true rfl⟩) hS (fun q _ h => hFc q h) hFc (fun r122 f124 t H1 locs ht hvm hw123 hB hz1 hk1 hS => ?_)
        refine tn_4 hw123 (fun hT hF125 hw123r hw123p => ?_); clear hw123
        have hR := hR.then hF125 (by decide)
        have hP := hB.1; rw [ht] at hP; have hD := tp_ad f124 hD; clear hB hFc hz1 hk1; subst ht; generalize t.heap = H at hP hS ⊢
        exact W.iret (v := r122) hx hb hr (fun t ht hW => ⟨⟨r122, f124, rfl, ⟨hT, hR, trivial, trivial⟩, by rw [ht]; exact hP, va_K.moved hW.alike hK, hD⟩, hS.F ht⟩) hS.2.2 dX11_price_33
set_option maxHeartbeats 4000000 in
set_option maxRecDepth 100000 in
theorem t_X11_force (l : Launch) (dC : Nat → ClassId) (dI : Nat → Nat → Nat) (sz : Nat) (Ω : Nat → (Nat → Nat) → va_E → Prop) (κ : Nat → ClassId) (τ ν : Nat → Nat) (ρ : Nat → Nat → Nat) (L : List Nat) (f : Nat → va_E) (hG : tp_G τ ν ρ L) (hT : tp_T Ω κ τ ν ρ f) (h0 : Nat) (v : Int32) (u : Int32) (a : Int32) (ht_h0 : τ h0 = 12) : Met l yX11_force wqX11_force ({ frames := 5, cells := 0, slots := 0, locals := 1600 }) (va_Pc [.ref h0, .int v, .int u, .int a] (pz_B dC dI (tp_K κ) (va_pl L f) sz)) (va_Qi (fun (r : Int32) (f1 : Nat → va_E) => tp_T Ω κ τ ν ρ f1 ∧ tp_F τ [2, 3, 4, 5, 6, 7, 8, 9, 10, 11, 12, 20, 21, 22, 26, 27, 28] f f1 ∧ True ∧ True) (fun (f1 : Nat → va_E) (t : State) => pz_E dC dI (tp_K κ) (va_A (va_pl L f) sz) (va_pl L f1) t) (va_A (va_pl L f) sz)) 0 0 (va_A (va_pl L f) sz) := by
  refine Met.ofW (cc := cX11_force) (maxL := 4) (ret := some .int) (by decide) rfl ?_
  intro p e s m args below meth c s₁ B hml hv
  obtain ⟨rfl, hsz, hP, hK, hD0, hN⟩ := hv
  have hx := B.exec
  have hb := B.bytes
  have hr := B.returns
  have hts := fun (w : Cond) (h : w ∈ WALL) => atoms_spec (ws := wqX11_force) B.pre w (List.mem_cons_of_mem _ h)
  have hown : s.vm.findClass RX11 = some m.cls := findClass_of_methodNamed B.named
  have hlocks := B.notSynchronized
  subst hsz
  have hD := hD0.self (sz := s.heap.size)
  generalize hAe : va_A (va_pl L f) s.heap.size = A at hD ⊢
  have hA : ∀ q : Nat, s.heap.size ≤ q → A q := fun q h => by rw [← hAe]; exact Or.inr h
  have hS : va_S A s.heap s.heap [] := va_S.rf
  have hR : tp_F τ [2, 3, 4, 5, 6, 7, 8, 9, 10, 11, 12, 20, 21, 22, 26, 27, 28] f f := tp_F.rf
  have hl := lv_entry ([.ref h0, .int v, .int u, .int a]) (n := 4) (Nat.le_of_ble_eq_true rfl)
  rw [lg_entry_eq]
  generalize (lg_sl ([.ref h0, .int v, .int u, .int a]) ++ List.replicate (4 - (lg_sl ([.ref h0, .int v, .int u, .int a])).length) Slot.unset).toArray = ls at hl ⊢
  have hl : lv_has ls 4 [(0, .ref h0), (1, .int v), (2, .int u), (3, .int a)] := hl
  refine lv_iload_n hx hb dX11_force_0 rfl (lv_at hl 1 rfl) ?_
  refine lv_iload_n hx hb dX11_force_1 rfl (lv_at hl 2 rfl) ?_
  refine pz_calli (va_runS (As := [.int v, .int u]) (rest := []) ⟨hx, hb, hml, hown, hts⟩ (t_X11_isSpan l dC dI _ v u (v.toInt) (u.toInt) rfl rfl) (va_cwS 2 hts gX11_force_X11_isSpan rfl rfl rfl pd_X11_isSpan ⟨Nat.le_of_ble_eq_true rfl, Nat.le_of_ble_eq_true rfl⟩) ⟨pz_blind, pz_pre pz_P0 (hK.sub (tys' := []) [] rfl) (pz_D0 (A := fun _ => True)) hN⟩ rfl rfl hl.1 rfl (lv_room (Nat.le_of_ble_eq_true rfl)) dX11_force_2 ⟨Nat.le_of_ble_eq_true rfl, Nat.le_of_ble_eq_true rfl⟩) (fun r1 hw2 => ?_)
  obtain ⟨hw2r, hw2p⟩ := hw2
  refine lv_if_eq (tgt := 15) hx hb dX11_force_5 (by decide) (fun c3 => ?_) (fun c3 => ?_)
  · have ic3 : r1.toInt = 0 := zi_eq rfl rfl c3
    refine lv_aload_n hx hb dX11_force_15 rfl (lv_at hl 0 rfl) ?_
    refine lv_iconst (v := (-1)) hx hb dX11_force_16 (by decide) ?_
    refine tgk_12 hG ht_h0 (fun y4 y5 y6 y7 y8 y9 => ?_)
    refine tpk_12 hT ht_h0 (fun o10_x6 hf_o10 => ?_)
    refine tpk_pos (tp_in hG ht_h0 (by decide)) hf_o10 (fun q11 eq11 => ?_)
    have hFc := tp_fr hD hS hA
    refine va_calli (va_runV (As := [.int (-1)]) (rest := []) ⟨hx, hb, hml, hown, hts⟩ (t_X11_refuse l dC dI _ Ω κ τ ν ρ L f hG hT h0 ((-1)) ht_h0) (cwV 1 hts gX11_force_X11_refuse rfl rfl rfl ⟨rfl, pd_X11_refuse⟩ ⟨Nat.le_of_ble_eq_true rfl, Nat.le_of_ble_eq_true rfl⟩) ⟨pz_blind, va_recv hK hP (ci := 11) (q0 := q11) rfl eq11, pz_pre hP hK hD hN⟩ rfl rfl hl.1 rfl (lv_room (Nat.le_of_ble_eq_true rfl)) dX11_force_17 ⟨Nat.le_of_ble_eq_true rfl, Nat.le_of_ble_eq_true rfl⟩) hS (fun q _ h => hFc q h) hFc (fun r12 f14 t H1 locs ht hvm hw13 hB hz1 hk1 hS => ?_)
    refine tn_4 hw13 (fun hT hF15 hw13r hw13p => ?_); clear hw13
    have hR := hR.then hF15 (by decide)
    have hP := hB.1; rw [ht] at hP; have hD := tp_ad f14 hD; clear hB hFc hz1 hk1; subst ht; generalize t.heap = H at hP hS ⊢
    exact W.iret (v := r12) hx hb hr (fun t ht hW => ⟨⟨r12, f14, rfl, ⟨hT, hR, trivial, trivial⟩, by rw [ht]; exact hP, va_K.moved hW.alike hK, hD⟩, hS.F ht⟩) hS.2.2 dX11_force_20
  · have ic3 : r1.toInt ≠ 0 := zi_eqf rfl rfl c3
    have p16 : (0 ≤ (v.toInt) ∧ (v.toInt) ≤ 2399) ∧ (0 ≤ (u.toInt) ∧ (u.toInt) ≤ 2399) ∧ (v.toInt) ≤ (u.toInt) := (tp_cond.yes hw2p) (by omega)
    refine lv_iload_n hx hb dX11_force_8 rfl (lv_at hl 3 rfl) ?_
    refine pz_calli (va_runS (As := [.int a]) (rest := []) ⟨hx, hb, hml, hown, hts⟩ (t_X11_isHour l dC dI _ a (a.toInt) rfl) (va_cwS 1 hts gX11_force_X11_isHour rfl rfl rfl pd_X11_isHour ⟨Nat.le_of_ble_eq_true rfl, Nat.le_of_ble_eq_true rfl⟩) ⟨pz_blind, pz_pre pz_P0 (hK.sub (tys' := []) [] rfl) (pz_D0 (A := fun _ => True)) hN⟩ rfl rfl hl.1 rfl (lv_room (Nat.le_of_ble_eq_true rfl)) dX11_force_9 ⟨Nat.le_of_ble_eq_true rfl, Nat.le_of_ble_eq_true rfl⟩) (fun r17 hw18 => ?_)
    obtain ⟨hw18r, hw18p⟩ := hw18
    refine lv_if_ne (tgt := 21) hx hb dX11_force_12 (by decide) (fun c19 => ?_) (fun c19 => ?_)
    · have ic19 : r17.toInt ≠ 0 := zi_ne rfl rfl c19
      have p20 : 0 ≤ (a.toInt) ∧ (a.toInt) ≤ 2399 := (tp_cond.yes hw18p) (by omega)
      refine lv_aload_n hx hb dX11_force_21 rfl (lv_at hl 0 rfl) ?_
      refine lv_aload_n hx hb dX11_force_22 rfl (lv_at hl 0 rfl) ?_
      refine tgk_12 hG ht_h0 (fun y21 y22 y23 y24 y25 y26 => ?_)
      refine tpk_12 hT ht_h0 (fun o27_x6 hf_o27 => ?_)
      refine tpk_pos (tp_in hG ht_h0 (by decide)) hf_o27 (fun q28 eq28 => ?_)
      refine va_get (D := (dC, dI)) (ci := 11) (v := .ref (ρ h0 0)) (C := RX11) (T := TX11) (N := 7) hx hb hts hfX11 hown hK hP q28 eq28 rfl 0 (by decide) (hts (.fieldLink RX11 10 "ColdShips" "world" "LColdShips$World;") wa_15) (fun _ h9 => h9) rfl dX11_force_23 ?_
      refine tgk_11 hG y21 (fun y29 y29n y30 y30n y31 y32 y33 y34 y35 y36 y37 y37w y37m y38 y38w y38m y39 y39w y39m y40 y40w y40m => ?_)
      refine tpk_11 hT y21 (fun o41_x0 o41_x1 o41_x2 o41_x3 o41_x4 o41_x5 o41_x6 hf_o41 ro41_0 ro41_1 ro41_2 ro41_3 => ?_)
      refine tpk_pos (tp_in hG y21 (by decide)) hf_o41 (fun q42 eq42 => ?_)
      refine va_getN (D := (dC, dI)) (ci := 10) (v := .ref (ρ (ρ h0 0) 14)) (C := RX10) (T := TX10) (N := 19) hx hb hts hfX10 hown hK hP q42 eq42 rfl 14 (by decide) (va_Nw.use rfl (hN.1 (.fieldLinkNest RX11 245 "ColdShips$World" "forces" "LColdShips$Spans;" "ColdShips") nzw_79)) (fun _ h9 => h9) rfl dX11_force_26 ?_
      refine lv_iload_n hx hb dX11_force_29 rfl (lv_at hl 3 rfl) ?_
      refine lv_iload_n hx hb dX11_force_30 rfl (lv_at hl 1 rfl) ?_
      refine lv_iload_n hx hb dX11_force_31 rfl (lv_at hl 2 rfl) ?_
      refine tgk_7 hG y36 (fun y43 y43n y44 y44n y45 y45n => ?_)
      refine tpk_7 hT y36 (fun o46_x3 hf_o46 ro46_0 => ?_)
      refine tpk_pos (tp_in hG y36 (by decide)) hf_o46 (fun q47 eq47 => ?_)
      have hFc := tp_fr hD hS hA
      refine va_calli (va_runV (As := [.int a, .int v, .int u]) (rest := [.ref h0]) ⟨hx, hb, hml, hown, hts⟩ (t_X6_add l dC dI _ Ω κ τ ν ρ L f hG hT (ρ (ρ h0 0) 14) a v u y36 o46_x3 hf_o46) (cwV 3 hts gX11_force_X6_add rfl rfl rfl ⟨rfl, pd_X6_add⟩ ⟨Nat.le_of_ble_eq_true rfl, Nat.le_of_ble_eq_true rfl⟩) ⟨pz_blind, va_recv hK hP (ci := 6) (q0 := q47) rfl eq47, pz_pre hP hK hD hN⟩ rfl rfl hl.1 rfl (lv_room (Nat.le_of_ble_eq_true rfl)) dX11_force_32 ⟨Nat.le_of_ble_eq_true rfl, Nat.le_of_ble_eq_true rfl⟩) hS (fun q _ h => hFc q h) hFc (fun r48 f50 t H1 locs ht hvm hw49 hB hz1 hk1 hS => ?_)
      refine tn_4 hw49 (fun hT hF51 hw49r hw49p => ?_); clear hw49
      have hR := hR.then hF51 (by decide)
      have hP := hB.1; rw [ht] at hP; have hD := tp_ad f50 hD; clear hB hFc hz1 hk1; subst ht; generalize t.heap = H at hP hS ⊢
      have hf_52 : f50 h0 = .inr (11, [.ref (ρ h0 0), .ref (ρ h0 1), .ref (ρ h0 2), .ref (ρ h0 3), .ref (ρ h0 4), .ref (ρ h0 5), .int o27_x6]) := (hF51 _ (by rw [ht_h0]; decide)).trans hf_o27
      refine tpk_pos (tp_in hG ht_h0 (by decide)) hf_52 (fun q53 eq53 => ?_)
      have hFc := tp_fr hD hS hA
      refine va_calli (va_runV (As := [.int r48]) (rest := []) ⟨hx, hb, hml, hown, hts⟩ (t_X11_acceptOrFull l dC dI _ Ω κ τ ν ρ L f50 hG hT h0 r48 ht_h0) (cwV 1 hts gX11_force_X11_acceptOrFull rfl rfl rfl ⟨rfl, pd_X11_acceptOrFull⟩ ⟨Nat.le_of_ble_eq_true rfl, Nat.le_of_ble_eq_true rfl⟩) ⟨pz_blind, va_recv hK hP (ci := 11) (q0 := q53) rfl eq53, pz_pre hP hK hD hN⟩ rfl rfl hl.1 rfl (lv_room (Nat.le_of_ble_eq_true rfl)) dX11_force_35 ⟨Nat.le_of_ble_eq_true rfl, Nat.le_of_ble_eq_true rfl⟩) hS (fun q _ h => hFc q h) hFc (fun r54 f56 t H1 locs ht hvm hw55 hB hz1 hk1 hS => ?_)
      refine tn_4 hw55 (fun hT hF57 hw55r hw55p => ?_); clear hw55
      have hR := hR.then hF57 (by decide)
      have hP := hB.1; rw [ht] at hP; have hD := tp_ad f56 hD; clear hB hFc hz1 hk1; subst ht; generalize t.heap = H at hP hS ⊢
      exact W.iret (v := r54) hx hb hr (fun t ht hW => ⟨⟨r54, f56, rfl, ⟨hT, hR, trivial, trivial⟩, by rw [ht]; exact hP, va_K.moved hW.alike hK, hD⟩, hS.F ht⟩) hS.2.2 dX11_force_38
    · have ic19 : r17.toInt = 0 := zi_nef rfl rfl c19
      refine lv_aload_n hx hb dX11_force_15 rfl (lv_at hl 0 rfl) ?_
      refine lv_iconst (v := (-1)) hx hb dX11_force_16 (by decide) ?_
      refine tgk_12 hG ht_h0 (fun y58 y59 y60 y61 y62 y63 => ?_)
      refine tpk_12 hT ht_h0 (fun o64_x6 hf_o64 => ?_)
      refine tpk_pos (tp_in hG ht_h0 (by decide)) hf_o64 (fun q65 eq65 => ?_)
      have hFc := tp_fr hD hS hA
      refine va_calli (va_runV (As := [.int (-1)]) (rest := []) ⟨hx, hb, hml, hown, hts⟩ (t_X11_refuse l dC dI _ Ω κ τ ν ρ L f hG hT h0 ((-1)) ht_h0) (cwV 1 hts gX11_force_X11_refuse rfl rfl rfl ⟨rfl, pd_X11_refuse⟩ ⟨Nat.le_of_ble_eq_true rfl, Nat.le_of_ble_eq_true rfl⟩) ⟨pz_blind, va_recv hK hP (ci := 11) (q0 := q65) rfl eq65, pz_pre hP hK hD hN⟩ rfl rfl hl.1 rfl (lv_room (Nat.le_of_ble_eq_true rfl)) dX11_force_17 ⟨Nat.le_of_ble_eq_true rfl, Nat.le_of_ble_eq_true rfl⟩) hS (fun q _ h => hFc q h) hFc (fun r66 f68 t H1 locs ht hvm hw67 hB hz1 hk1 hS => ?_)
      refine tn_4 hw67 (fun hT hF69 hw67r hw67p => ?_); clear hw67
      have hR := hR.then hF69 (by decide)
      have hP := hB.1; rw [ht] at hP; have hD := tp_ad f68 hD; clear hB hFc hz1 hk1; subst ht; generalize t.heap = H at hP hS ⊢
      exact W.iret (v := r66) hx hb hr (fun t ht hW => ⟨⟨r66, f68, rfl, ⟨hT, hR, trivial, trivial⟩, by rw [ht]; exact hP, va_K.moved hW.alike hK, hD⟩, hS.F ht⟩) hS.2.2 dX11_force_20
set_option maxHeartbeats 4000000 in
set_option maxRecDepth 100000 in
theorem t_X11_bill (l : Launch) (dC : Nat → ClassId) (dI : Nat → Nat → Nat) (sz : Nat) (Ω : Nat → (Nat → Nat) → va_E → Prop) (κ : Nat → ClassId) (τ ν : Nat → Nat) (ρ : Nat → Nat → Nat) (L : List Nat) (f : Nat → va_E) (hG : tp_G τ ν ρ L) (hT : tp_T Ω κ τ ν ρ f) (h0 : Nat) (v : Int32) (u : Int32) (ht_h0 : τ h0 = 12) : Met l yX11_bill wqX11_bill ({ frames := 4, cells := 0, slots := 0, locals := 1200 }) (va_Pc [.ref h0, .int v, .int u] (pz_B dC dI (tp_K κ) (va_pl L f) sz)) (va_Qi (fun (r : Int32) (f1 : Nat → va_E) => tp_T Ω κ τ ν ρ f1 ∧ tp_F τ [2, 3, 4, 5, 6, 7, 8, 9, 10, 11, 12, 20, 21, 22, 26, 27, 28] f f1 ∧ True ∧ True) (fun (f1 : Nat → va_E) (t : State) => pz_E dC dI (tp_K κ) (va_A (va_pl L f) sz) (va_pl L f1) t) (va_A (va_pl L f) sz)) 0 0 (va_A (va_pl L f) sz) := by
  refine Met.ofW (cc := cX11_bill) (maxL := 3) (ret := some .int) (by decide) rfl ?_
  intro p e s m args below meth c s₁ B hml hv
  obtain ⟨rfl, hsz, hP, hK, hD0, hN⟩ := hv
  have hx := B.exec
  have hb := B.bytes
  have hr := B.returns
  have hts := fun (w : Cond) (h : w ∈ WALL) => atoms_spec (ws := wqX11_bill) B.pre w (List.mem_cons_of_mem _ h)
  have hown : s.vm.findClass RX11 = some m.cls := findClass_of_methodNamed B.named
  have hlocks := B.notSynchronized
  subst hsz
  have hD := hD0.self (sz := s.heap.size)
  generalize hAe : va_A (va_pl L f) s.heap.size = A at hD ⊢
  have hA : ∀ q : Nat, s.heap.size ≤ q → A q := fun q h => by rw [← hAe]; exact Or.inr h
  have hS : va_S A s.heap s.heap [] := va_S.rf
  have hR : tp_F τ [2, 3, 4, 5, 6, 7, 8, 9, 10, 11, 12, 20, 21, 22, 26, 27, 28] f f := tp_F.rf
  have hl := lv_entry ([.ref h0, .int v, .int u]) (n := 3) (Nat.le_of_ble_eq_true rfl)
  rw [lg_entry_eq]
  generalize (lg_sl ([.ref h0, .int v, .int u]) ++ List.replicate (3 - (lg_sl ([.ref h0, .int v, .int u])).length) Slot.unset).toArray = ls at hl ⊢
  have hl : lv_has ls 3 [(0, .ref h0), (1, .int v), (2, .int u)] := hl
  refine lv_iload_n hx hb dX11_bill_0 rfl (lv_at hl 2 rfl) ?_
  refine lv_iconst (v := 0) hx hb dX11_bill_1 (by decide) ?_
  refine lv_ldc (own := RX11) (v := 200000) hx hb hown (hts (.constant RX11 76 (200000)) wa_232) dX11_bill_2 ?_
  refine pz_calli (va_runS (As := [.int u, .int 0, .int 200000]) (rest := []) ⟨hx, hb, hml, hown, hts⟩ (t_X11_within l dC dI _ u (0) (200000) (u.toInt) (0) (200000) rfl rfl rfl) (va_cwS 3 hts gX11_bill_X11_within rfl rfl rfl pd_X11_within ⟨Nat.le_of_ble_eq_true rfl, Nat.le_of_ble_eq_true rfl⟩) ⟨pz_blind, pz_pre pz_P0 (hK.sub (tys' := []) [] rfl) (pz_D0 (A := fun _ => True)) hN⟩ rfl rfl hl.1 rfl (lv_room (Nat.le_of_ble_eq_true rfl)) dX11_bill_4 ⟨Nat.le_of_ble_eq_true rfl, Nat.le_of_ble_eq_true rfl⟩) (fun r1 hw2 => ?_)
  obtain ⟨hw2r, hw2p⟩ := hw2
  refine lv_if_ne (tgt := 16) hx hb dX11_bill_7 (by decide) (fun c3 => ?_) (fun c3 => ?_)
  · have ic3 : r1.toInt ≠ 0 := zi_ne rfl rfl c3
    have p4 : (0) ≤ (u.toInt) ∧ (u.toInt) ≤ (200000) := (tp_cond.yes hw2p) (by omega)
    refine lv_aload_n hx hb dX11_bill_16 rfl (lv_at hl 0 rfl) ?_
    refine tgk_12 hG ht_h0 (fun y5 y6 y7 y8 y9 y10 => ?_)
    refine tpk_12 hT ht_h0 (fun o11_x6 hf_o11 => ?_)
    refine tpk_pos (tp_in hG ht_h0 (by decide)) hf_o11 (fun q12 eq12 => ?_)
    refine va_get (D := (dC, dI)) (ci := 11) (v := .ref (ρ h0 0)) (C := RX11) (T := TX11) (N := 7) hx hb hts hfX11 hown hK hP q12 eq12 rfl 0 (by decide) (hts (.fieldLink RX11 10 "ColdShips" "world" "LColdShips$World;") wa_15) (fun _ h9 => h9) rfl dX11_bill_17 ?_
    refine tgk_11 hG y5 (fun y13 y13n y14 y14n y15 y16 y17 y18 y19 y20 y21 y21w y21m y22 y22w y22m y23 y23w y23m y24 y24w y24m => ?_)
    refine tpk_11 hT y5 (fun o25_x0 o25_x1 o25_x2 o25_x3 o25_x4 o25_x5 o25_x6 hf_o25 ro25_0 ro25_1 ro25_2 ro25_3 => ?_)
    refine tpk_pos (tp_in hG y5 (by decide)) hf_o25 (fun q26 eq26 => ?_)
    refine va_getN (D := (dC, dI)) (ci := 10) (v := .ref (ρ (ρ h0 0) 17)) (C := RX10) (T := TX10) (N := 19) hx hb hts hfX10 hown hK hP q26 eq26 rfl 17 (by decide) (va_Nw.use rfl (hN.1 (.fieldLinkNest RX11 207 "ColdShips$World" "landings" "LColdShips$Rows;" "ColdShips") nzw_85)) (fun _ h9 => h9) rfl dX11_bill_20 ?_
    refine lv_iload_n hx hb dX11_bill_23 rfl (lv_at hl 1 rfl) ?_
    refine tgk_5 hG y23 (fun y27 y27n y28a y28b y28c => ?_)
    refine tpk_5 hT y23 (fun o29_x0 o29_x2 hf_o29 ro29_0 ro29_1 => ?_)
    refine tpk_pos (tp_in hG y23 (by decide)) hf_o29 (fun q30 eq30 => ?_)
    refine pz_calli (va_runV (As := [.int v]) (rest := []) ⟨hx, hb, hml, hown, hts⟩ (t_X4_has l dC dI _ Ω κ τ ν ρ L f hG hT (ρ (ρ h0 0) 17) v y23 o29_x0 o29_x2 hf_o29) (cwV 1 hts gX11_bill_X4_has rfl rfl rfl ⟨rfl, pd_X4_has⟩ ⟨Nat.le_of_ble_eq_true rfl, Nat.le_of_ble_eq_true rfl⟩) ⟨pz_blind, va_recv hK hP (ci := 4) (q0 := q30) rfl eq30, pz_pre hP hK hD hN⟩ rfl rfl hl.1 rfl (lv_room (Nat.le_of_ble_eq_true rfl)) dX11_bill_24 ⟨Nat.le_of_ble_eq_true rfl, Nat.le_of_ble_eq_true rfl⟩) (fun r31 hw32 => ?_)
    obtain ⟨hw32r, hw32p⟩ := hw32
    refine lv_if_ne (tgt := 37) hx hb dX11_bill_27 (by decide) (fun c33 => ?_) (fun c33 => ?_)
    · have ic33 : r31.toInt ≠ 0 := zi_ne rfl rfl c33
      have p34 : 0 ≤ v.toInt ∧ v.toInt < o29_x2.toInt := (tp_cond.yes hw32p) (by omega)
      refine lv_aload_n hx hb dX11_bill_37 rfl (lv_at hl 0 rfl) ?_
      refine va_get (D := (dC, dI)) (ci := 11) (v := .ref (ρ h0 0)) (C := RX11) (T := TX11) (N := 7) hx hb hts hfX11 hown hK hP q12 eq12 rfl 0 (by decide) (hts (.fieldLink RX11 10 "ColdShips" "world" "LColdShips$World;") wa_15) (fun _ h9 => h9) rfl dX11_bill_38 ?_
      refine va_getN (D := (dC, dI)) (ci := 10) (v := .ref (ρ (ρ h0 0) 17)) (C := RX10) (T := TX10) (N := 19) hx hb hts hfX10 hown hK hP q26 eq26 rfl 17 (by decide) (va_Nw.use rfl (hN.1 (.fieldLinkNest RX11 207 "ColdShips$World" "landings" "LColdShips$Rows;" "ColdShips") nzw_85)) (fun _ h9 => h9) rfl dX11_bill_41 ?_
      refine lv_iload_n hx hb dX11_bill_44 rfl (lv_at hl 1 rfl) ?_
      refine lv_bipush (v := 11) hx hb dX11_bill_45 (by decide) ?_
      refine pz_calll (va_runV (As := [.int v, .int 11]) (rest := []) ⟨hx, hb, hml, hown, hts⟩ (t_X4_at l dC dI _ Ω κ τ ν ρ L f hG hT (ρ (ρ h0 0) 17) v (11) y23 o29_x0 o29_x2 hf_o29) (cwV 2 hts gX11_bill_X4_at rfl rfl rfl ⟨rfl, pd_X4_at⟩ ⟨Nat.le_of_ble_eq_true rfl, Nat.le_of_ble_eq_true rfl⟩) ⟨pz_blind, va_recv hK hP (ci := 4) (q0 := q30) rfl eq30, pz_pre hP hK hD hN⟩ rfl rfl hl.1 rfl (lv_room (Nat.le_of_ble_eq_true rfl)) dX11_bill_47 ⟨Nat.le_of_ble_eq_true rfl, Nat.le_of_ble_eq_true rfl⟩) (fun r35 hw36 => ?_)
      obtain ⟨hw36r, hw36p⟩ := hw36
      refine lv_ldc2 (own := RX11) (v := (-1)) hx hb hown (hts (.constantLong RX11 198 (-1)) wa_660) dX11_bill_50 ?_
      refine W.lcmp hx hb dX11_bill_53 ?_
      refine lv_if_eq (tgt := 64) hx hb dX11_bill_54 (by decide) (fun c37 => ?_) (fun c37 => ?_)
      · have ic37 : r35.toInt = (-1) := zl_eq rfl rfl c37
        refine lv_aload_n hx hb dX11_bill_64 rfl (lv_at hl 0 rfl) ?_
        refine va_get (D := (dC, dI)) (ci := 11) (v := .ref (ρ h0 0)) (C := RX11) (T := TX11) (N := 7) hx hb hts hfX11 hown hK hP q12 eq12 rfl 0 (by decide) (hts (.fieldLink RX11 10 "ColdShips" "world" "LColdShips$World;") wa_15) (fun _ h9 => h9) rfl dX11_bill_65 ?_
        refine va_getN (D := (dC, dI)) (ci := 10) (v := .ref (ρ (ρ h0 0) 17)) (C := RX10) (T := TX10) (N := 19) hx hb hts hfX10 hown hK hP q26 eq26 rfl 17 (by decide) (va_Nw.use rfl (hN.1 (.fieldLinkNest RX11 207 "ColdShips$World" "landings" "LColdShips$Rows;" "ColdShips") nzw_85)) (fun _ h9 => h9) rfl dX11_bill_68 ?_
        refine lv_iload_n hx hb dX11_bill_71 rfl (lv_at hl 1 rfl) ?_
        refine lv_bipush (v := 11) hx hb dX11_bill_72 (by decide) ?_
        refine lv_iload_n hx hb dX11_bill_74 rfl (lv_at hl 2 rfl) ?_
        refine lv_i2l hx hb dX11_bill_75 rfl ?_
        have hFc := tp_fr hD hS hA
        refine va_callv (va_runV (As := [.int v, .int 11, .long u.toInt64]) (rest := []) ⟨hx, hb, hml, hown, hts⟩ (t_X4_set l dC dI _ Ω κ τ ν ρ L f hG hT (ρ (ρ h0 0) 17) v (11) u.toInt64 y23 o29_x0 o29_x2 hf_o29) (cwV 3 hts gX11_bill_X4_set rfl rfl rfl ⟨rfl, pd_X4_set⟩ ⟨Nat.le_of_ble_eq_true rfl, Nat.le_of_ble_eq_true rfl⟩) ⟨pz_blind, va_recv hK hP (ci := 4) (q0 := q30) rfl eq30, pz_pre hP hK hD hN⟩ rfl rfl hl.1 rfl (lv_room (Nat.le_of_ble_eq_true rfl)) dX11_bill_76 ⟨Nat.le_of_ble_eq_true rfl, Nat.le_of_ble_eq_true rfl⟩) hS (fun q _ h => hFc q h) hFc (fun f40 t H1 locs ht hvm hw39 hB hz1 hk1 hS => ?_)
        refine tn_3 hw39 (fun hT hF41 hw39p => ?_); clear hw39
        have hR := hR.then hF41 (by decide)
        have hP := hB.1; rw [ht] at hP; have hD := tp_ad f40 hD; clear hB hFc hz1 hk1; subst ht; generalize t.heap = H at hP hS ⊢
        refine lv_aload_n hx hb dX11_bill_79 rfl (lv_at hl 0 rfl) ?_
        refine lv_iconst (v := 0) hx hb dX11_bill_80 (by decide) ?_
        have hf_42 : f40 h0 = .inr (11, [.ref (ρ h0 0), .ref (ρ h0 1), .ref (ρ h0 2), .ref (ρ h0 3), .ref (ρ h0 4), .ref (ρ h0 5), .int o11_x6]) := (hF41 _ (by rw [ht_h0]; decide)).trans hf_o11
        refine tpk_pos (tp_in hG ht_h0 (by decide)) hf_42 (fun q43 eq43 => ?_)
        have hFc := tp_fr hD hS hA
        refine va_calli (va_runV (As := [.int 0]) (rest := []) ⟨hx, hb, hml, hown, hts⟩ (t_X11_accept l dC dI _ Ω κ τ ν ρ L f40 hG hT h0 (0) ht_h0) (cwV 1 hts gX11_bill_X11_accept rfl rfl rfl ⟨rfl, pd_X11_accept⟩ ⟨Nat.le_of_ble_eq_true rfl, Nat.le_of_ble_eq_true rfl⟩) ⟨pz_blind, va_recv hK hP (ci := 11) (q0 := q43) rfl eq43, pz_pre hP hK hD hN⟩ rfl rfl hl.1 rfl (lv_room (Nat.le_of_ble_eq_true rfl)) dX11_bill_81 ⟨Nat.le_of_ble_eq_true rfl, Nat.le_of_ble_eq_true rfl⟩) hS (fun q _ h => hFc q h) hFc (fun r44 f46 t H1 locs ht hvm hw45 hB hz1 hk1 hS => ?_)
        refine tn_4 hw45 (fun hT hF47 hw45r hw45p => ?_); clear hw45
        have hR := hR.then hF47 (by decide)
        have hP := hB.1; rw [ht] at hP; have hD := tp_ad f46 hD; clear hB hFc hz1 hk1; subst ht; generalize t.heap = H at hP hS ⊢
        exact W.iret (v := r44) hx hb hr (fun t ht hW => ⟨⟨r44, f46, rfl, ⟨hT, hR, trivial, trivial⟩, by rw [ht]; exact hP, va_K.moved hW.alike hK, hD⟩, hS.F ht⟩) hS.2.2 dX11_bill_84
      · have ic37 : r35.toInt ≠ (-1) := zl_eqf rfl rfl c37
        refine lv_aload_n hx hb dX11_bill_57 rfl (lv_at hl 0 rfl) ?_
        refine lv_bipush (v := (-4)) hx hb dX11_bill_58 (by decide) ?_
        have hFc := tp_fr hD hS hA
        refine va_calli (va_runV (As := [.int (-4)]) (rest := []) ⟨hx, hb, hml, hown, hts⟩ (t_X11_refuse l dC dI _ Ω κ τ ν ρ L f hG hT h0 ((-4)) ht_h0) (cwV 1 hts gX11_bill_X11_refuse rfl rfl rfl ⟨rfl, pd_X11_refuse⟩ ⟨Nat.le_of_ble_eq_true rfl, Nat.le_of_ble_eq_true rfl⟩) ⟨pz_blind, va_recv hK hP (ci := 11) (q0 := q12) rfl eq12, pz_pre hP hK hD hN⟩ rfl rfl hl.1 rfl (lv_room (Nat.le_of_ble_eq_true rfl)) dX11_bill_60 ⟨Nat.le_of_ble_eq_true rfl, Nat.le_of_ble_eq_true rfl⟩) hS (fun q _ h => hFc q h) hFc (fun r48 f50 t H1 locs ht hvm hw49 hB hz1 hk1 hS => ?_)
        refine tn_4 hw49 (fun hT hF51 hw49r hw49p => ?_); clear hw49
        have hR := hR.then hF51 (by decide)
        have hP := hB.1; rw [ht] at hP; have hD := tp_ad f50 hD; clear hB hFc hz1 hk1; subst ht; generalize t.heap = H at hP hS ⊢
        exact W.iret (v := r48) hx hb hr (fun t ht hW => ⟨⟨r48, f50, rfl, ⟨hT, hR, trivial, trivial⟩, by rw [ht]; exact hP, va_K.moved hW.alike hK, hD⟩, hS.F ht⟩) hS.2.2 dX11_bill_63
    · have ic33 : r31.toInt = 0 := zi_nef rfl rfl c33
      refine lv_aload_n hx hb dX11_bill_30 rfl (lv_at hl 0 rfl) ?_
      refine lv_bipush (v := (-2)) hx hb dX11_bill_31 (by decide) ?_
      have hFc := tp_fr hD hS hA
      refine va_calli (va_runV (As := [.int (-2)]) (rest := []) ⟨hx, hb, hml, hown, hts⟩ (t_X11_refuse l dC dI _ Ω κ τ ν ρ L f hG hT h0 ((-2)) ht_h0) (cwV 1 hts gX11_bill_X11_refuse rfl rfl rfl ⟨rfl, pd_X11_refuse⟩ ⟨Nat.le_of_ble_eq_true rfl, Nat.le_of_ble_eq_true rfl⟩) ⟨pz_blind, va_recv hK hP (ci := 11) (q0 := q12) rfl eq12, pz_pre hP hK hD hN⟩ rfl rfl hl.1 rfl (lv_room (Nat.le_of_ble_eq_true rfl)) dX11_bill_33 ⟨Nat.le_of_ble_eq_true rfl, Nat.le_of_ble_eq_true rfl⟩) hS (fun q _ h => hFc q h) hFc (fun r52 f54 t H1 locs ht hvm hw53 hB hz1 hk1 hS => ?_)
      refine tn_4 hw53 (fun hT hF55 hw53r hw53p => ?_); clear hw53
      have hR := hR.then hF55 (by decide)
      have hP := hB.1; rw [ht] at hP; have hD := tp_ad f54 hD; clear hB hFc hz1 hk1; subst ht; generalize t.heap = H at hP hS ⊢
      exact W.iret (v := r52) hx hb hr (fun t ht hW => ⟨⟨r52, f54, rfl, ⟨hT, hR, trivial, trivial⟩, by rw [ht]; exact hP, va_K.moved hW.alike hK, hD⟩, hS.F ht⟩) hS.2.2 dX11_bill_36
  · have ic3 : r1.toInt = 0 := zi_nef rfl rfl c3
    refine lv_aload_n hx hb dX11_bill_10 rfl (lv_at hl 0 rfl) ?_
    refine lv_iconst (v := (-1)) hx hb dX11_bill_11 (by decide) ?_
    refine tgk_12 hG ht_h0 (fun y56 y57 y58 y59 y60 y61 => ?_)
    refine tpk_12 hT ht_h0 (fun o62_x6 hf_o62 => ?_)
    refine tpk_pos (tp_in hG ht_h0 (by decide)) hf_o62 (fun q63 eq63 => ?_)
    have hFc := tp_fr hD hS hA
    refine va_calli (va_runV (As := [.int (-1)]) (rest := []) ⟨hx, hb, hml, hown, hts⟩ (t_X11_refuse l dC dI _ Ω κ τ ν ρ L f hG hT h0 ((-1)) ht_h0) (cwV 1 hts gX11_bill_X11_refuse rfl rfl rfl ⟨rfl, pd_X11_refuse⟩ ⟨Nat.le_of_ble_eq_true rfl, Nat.le_of_ble_eq_true rfl⟩) ⟨pz_blind, va_recv hK hP (ci := 11) (q0 := q63) rfl eq63, pz_pre hP hK hD hN⟩ rfl rfl hl.1 rfl (lv_room (Nat.le_of_ble_eq_true rfl)) dX11_bill_12 ⟨Nat.le_of_ble_eq_true rfl, Nat.le_of_ble_eq_true rfl⟩) hS (fun q _ h => hFc q h) hFc (fun r64 f66 t H1 locs ht hvm hw65 hB hz1 hk1 hS => ?_)
    refine tn_4 hw65 (fun hT hF67 hw65r hw65p => ?_); clear hw65
    have hR := hR.then hF67 (by decide)
    have hP := hB.1; rw [ht] at hP; have hD := tp_ad f66 hD; clear hB hFc hz1 hk1; subst ht; generalize t.heap = H at hP hS ⊢
    exact W.iret (v := r64) hx hb hr (fun t ht hW => ⟨⟨r64, f66, rfl, ⟨hT, hR, trivial, trivial⟩, by rw [ht]; exact hP, va_K.moved hW.alike hK, hD⟩, hS.F ht⟩) hS.2.2 dX11_bill_15

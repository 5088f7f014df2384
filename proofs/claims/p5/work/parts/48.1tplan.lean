set_option maxHeartbeats 4000000 in
set_option maxRecDepth 100000 in
theorem t_X1_sails (l : Launch) (dC : Nat → ClassId) (dI : Nat → Nat → Nat) (sz : Nat) (Ω : Nat → (Nat → Nat) → va_E → Prop) (κ : Nat → ClassId) (τ ν : Nat → Nat) (ρ : Nat → Nat → Nat) (L : List Nat) (f : Nat → va_E) (hG : tp_G τ ν ρ L) (hT : tp_T Ω κ τ ν ρ f) (h0 : Nat) (v : Int32) (ht_h0 : τ h0 = 2) : Met l yX1_sails wqX1_sails ({ frames := 3, cells := 0, slots := 0, locals := 800 }) (va_Pc [.ref h0, .int v] (pz_B dC dI (tp_K κ) (va_pl L f) sz)) (vp_Si (fun r => (0 ≤ r.toInt ∧ r.toInt ≤ 1) ∧ (r.toInt ≠ 0 → 0 ≤ v.toInt ∧ v.toInt ≤ 2))) 0 0 (fun _ => False) := by
  refine Met.ofW (cc := cX1_sails) (maxL := 2) (ret := some .boolean) (by decide) rfl ?_
  intro p e s m args below meth c s₁ B hml hv
  obtain ⟨rfl, hsz, hP, hK, hD0, hN⟩ := hv
  have hx := B.exec
  have hb := B.bytes
  have hr := B.returns
  have hts := fun (w : Cond) (h : w ∈ WALL) => atoms_spec (ws := wqX1_sails) B.pre w (List.mem_cons_of_mem _ h)
  have hown : s.vm.findClass RX1 = some m.cls := findClass_of_methodNamed B.named
  have hlocks := B.notSynchronized
  subst hsz
  have hD := hD0
  have hS : va_S (fun _ => True) s.heap s.heap [] := va_S.rf
  have hl := lv_entry ([.ref h0, .int v]) (n := 2) (Nat.le_of_ble_eq_true rfl)
  rw [lg_entry_eq]
  generalize (lg_sl ([.ref h0, .int v]) ++ List.replicate (2 - (lg_sl ([.ref h0, .int v])).length) Slot.unset).toArray = ls at hl ⊢
  have hl : lv_has ls 2 [(0, .ref h0), (1, .int v)] := hl
  refine lv_aload_n hx hb dX1_sails_0 rfl (lv_at hl 0 rfl) ?_
  refine tgk_2 hG ht_h0 (fun y1 y2 y2n y3 y3n y4 y4n y5 y5n y6 y6n y7 y7n y8 y8n y9 y9n y10 y10n => ?_)
  refine tpk_2 hT ht_h0 (fun o11_x5 o11_x6 o11_x7 o11_x8 o11_x9 hf_o11 ro11_0 => ?_)
  refine tpk_pos (tp_in hG ht_h0 (by decide)) hf_o11 (fun q12 eq12 => ?_)
  refine va_get (D := (dC, dI)) (ci := 1) (v := .ref (ρ h0 0)) (C := RX1) (T := TX1) (N := 15) hx hb hts hfX1 hown hK hP q12 eq12 rfl 0 (by decide) (hts (.fieldLink RX1 40 "ColdShips$Planner" "world" "LColdShips$World;") wa_143) (fun _ h9 => h9) rfl dX1_sails_1 ?_
  refine lv_iload_n hx hb dX1_sails_4 rfl (lv_at hl 1 rfl) ?_
  refine tgk_11 hG y1 (fun y13 y13n y14 y14n y15 y16 y17 y18 y19 y20 y21 y21w y21m y22 y22w y22m y23 y23w y23m y24 y24w y24m => ?_)
  refine tpk_11 hT y1 (fun o25_x0 o25_x1 o25_x2 o25_x3 o25_x4 o25_x5 o25_x6 hf_o25 ro25_0 ro25_1 ro25_2 ro25_3 => ?_)
  refine tpk_pos (tp_in hG y1 (by decide)) hf_o25 (fun q26 eq26 => ?_)
  refine pz_calli (va_runV (As := [.int v]) (rest := []) ⟨hx, hb, hml, hown, hts⟩ (t_X10_hasShip l dC dI _ Ω κ τ ν ρ L f hG hT (ρ h0 0) v y1 o25_x0 o25_x1 o25_x2 o25_x3 o25_x4 o25_x5 o25_x6 hf_o25) (cwV 1 hts gX1_sails_X10_hasShip rfl rfl rfl ⟨rfl, pd_X10_hasShip⟩ ⟨Nat.le_of_ble_eq_true rfl, Nat.le_of_ble_eq_true rfl⟩) ⟨pz_blind, va_recv hK hP (ci := 10) (q0 := q26) rfl eq26, pz_pre hP hK hD hN⟩ rfl rfl hl.1 rfl (lv_room (Nat.le_of_ble_eq_true rfl)) dX1_sails_5 ⟨Nat.le_of_ble_eq_true rfl, Nat.le_of_ble_eq_true rfl⟩) (fun r27 hw28 => ?_)
  obtain ⟨hw28r, hw28p⟩ := hw28
  refine lv_if_eq (tgt := 20) hx hb dX1_sails_8 (by decide) (fun c29 => ?_) (fun c29 => ?_)
  · have ic29 : r27.toInt = 0 := zi_eq rfl rfl c29
    refine lv_iconst (v := 0) hx hb dX1_sails_20 (by decide) ?_
    exact W.zret (v := 0) hx hb hr rfl (fun t ht hW => ⟨0, rfl, ⟨(by first | decide | omega), (fun q => absurd rfl q)⟩, ht⟩) (fun _ h => by cases h) dX1_sails_21
  · have ic29 : r27.toInt ≠ 0 := zi_eqf rfl rfl c29
    have p30 : 0 ≤ v.toInt ∧ v.toInt < o25_x5.toInt := (tp_cond.yes hw28p) (by omega)
    refine lv_iload_n hx hb dX1_sails_11 rfl (lv_at hl 1 rfl) ?_
    refine lv_iconst (v := 3) hx hb dX1_sails_12 (by decide) ?_
    refine lv_icmp_ge (tgt := 20) hx hb dX1_sails_13 (by decide) (fun c31 => ?_) (fun c31 => ?_)
    · have ic31 : v.toInt ≥ 3 := zi_ge rfl rfl c31
      refine lv_iconst (v := 0) hx hb dX1_sails_20 (by decide) ?_
      exact W.zret (v := 0) hx hb hr rfl (fun t ht hW => ⟨0, rfl, ⟨(by first | decide | omega), (fun q => absurd rfl q)⟩, ht⟩) (fun _ h => by cases h) dX1_sails_21
    · have ic31 : v.toInt < 3 := zi_gef rfl rfl c31
      refine lv_iconst (v := 1) hx hb dX1_sails_16 (by decide) ?_
      refine lv_goto (tgt := 21) hx hb dX1_sails_17 (by decide) ?_
      exact W.zret (v := 1) hx hb hr rfl (fun t ht hW => ⟨1, rfl, ⟨(by first | decide | omega), (fun _ => by omega)⟩, ht⟩) (fun _ h => by cases h) dX1_sails_21
set_option maxHeartbeats 4000000 in
set_option maxRecDepth 100000 in
theorem t_X1_reckon (l : Launch) (dC : Nat → ClassId) (dI : Nat → Nat → Nat) (sz : Nat) (Ω : Nat → (Nat → Nat) → va_E → Prop) (κ : Nat → ClassId) (τ ν : Nat → Nat) (ρ : Nat → Nat → Nat) (L : List Nat) (f : Nat → va_E) (hG : tp_G τ ν ρ L) (hT : tp_T Ω κ τ ν ρ f) (h0 : Nat) (v : Int32) (u : Int32) (a : Int32) (b : Int32) (ht_h0 : τ h0 = 2) (hr_v : 0 ≤ v.toInt ∧ v.toInt ≤ 5) : Met l yX1_reckon wqX1_reckon ({ frames := 4, cells := 0, slots := 0, locals := 1200 }) (va_Pc [.ref h0, .int v, .int u, .int a, .int b] (pz_B dC dI (tp_K κ) (va_pl L f) sz)) (va_Qi (fun (r : Int32) (f1 : Nat → va_E) => tp_T Ω κ τ ν ρ f1 ∧ tp_F τ [2] f f1 ∧ (0 ≤ r.toInt ∧ r.toInt ≤ 1) ∧ True) (fun (f1 : Nat → va_E) (t : State) => pz_E dC dI (tp_K κ) (va_A (va_pl L f) sz) (va_pl L f1) t) (va_A (va_pl L f) sz)) 0 0 (va_A (va_pl L f) sz) := by
  refine Met.ofW (cc := cX1_reckon) (maxL := 14) (ret := some .boolean) (by decide) rfl ?_
  intro p e s m args below meth c s₁ B hml hv
  obtain ⟨rfl, hsz, hP, hK, hD0, hN⟩ := hv
  have hx := B.exec
  have hb := B.bytes
  have hr := B.returns
  have hts := fun (w : Cond) (h : w ∈ WALL) => atoms_spec (ws := wqX1_reckon) B.pre w (List.mem_cons_of_mem _ h)
  have hown : s.vm.findClass RX1 = some m.cls := findClass_of_methodNamed B.named
  have hlocks := B.notSynchronized
  subst hsz
  have hD := hD0.self (sz := s.heap.size)
  generalize hAe : va_A (va_pl L f) s.heap.size = A at hD ⊢
  have hA : ∀ q : Nat, s.heap.size ≤ q → A q := fun q h => by rw [← hAe]; exact Or.inr h
  have hS : va_S A s.heap s.heap [] := va_S.rf
  have hR : tp_F τ [2] f f := tp_F.rf
  have hl := lv_entry ([.ref h0, .int v, .int u, .int a, .int b]) (n := 14) (Nat.le_of_ble_eq_true rfl)
  rw [lg_entry_eq]
  generalize (lg_sl ([.ref h0, .int v, .int u, .int a, .int b]) ++ List.replicate (14 - (lg_sl ([.ref h0, .int v, .int u, .int a, .int b])).length) Slot.unset).toArray = ls at hl ⊢
  have hl : lv_has ls 14 [(0, .ref h0), (1, .int v), (2, .int u), (3, .int a), (4, .int b)] := hl
  refine lv_aload_n hx hb dX1_reckon_0 rfl (lv_at hl 0 rfl) ?_
  refine tgk_2 hG ht_h0 (fun y1 y2 y2n y3 y3n y4 y4n y5 y5n y6 y6n y7 y7n y8 y8n y9 y9n y10 y10n => ?_)
  refine tpk_2 hT ht_h0 (fun o11_x5 o11_x6 o11_x7 o11_x8 o11_x9 hf_o11 ro11_0 => ?_)
  refine tpk_pos (tp_in hG ht_h0 (by decide)) hf_o11 (fun q12 eq12 => ?_)
  refine va_get (D := (dC, dI)) (ci := 1) (v := .ref (ρ h0 0)) (C := RX1) (T := TX1) (N := 15) hx hb hts hfX1 hown hK hP q12 eq12 rfl 0 (by decide) (hts (.fieldLink RX1 40 "ColdShips$Planner" "world" "LColdShips$World;") wa_143) (fun _ h9 => h9) rfl dX1_reckon_1 ?_
  refine tgk_11 hG y1 (fun y13 y13n y14 y14n y15 y16 y17 y18 y19 y20 y21 y21w y21m y22 y22w y22m y23 y23w y23m y24 y24w y24m => ?_)
  refine tpk_11 hT y1 (fun o25_x0 o25_x1 o25_x2 o25_x3 o25_x4 o25_x5 o25_x6 hf_o25 ro25_0 ro25_1 ro25_2 ro25_3 => ?_)
  refine tpk_pos (tp_in hG y1 (by decide)) hf_o25 (fun q26 eq26 => ?_)
  refine va_getN (D := (dC, dI)) (ci := 10) (v := .ref (ρ (ρ h0 0) 18)) (C := RX10) (T := TX10) (N := 19) hx hb hts hfX10 hown hK hP q26 eq26 rfl 18 (by decide) (va_Nw.use rfl (hN.1 (.fieldLinkNest RX1 50 "ColdShips$World" "cargoes" "LColdShips$Rows;" "ColdShips") nzw_86)) (fun _ h9 => h9) rfl dX1_reckon_4 ?_
  refine lv_astore (lv' := [(5, .ref (ρ (ρ h0 0) 18)), (0, .ref h0), (1, .int v), (2, .int u), (3, .int a), (4, .int b)]) hx hb dX1_reckon_7 hl (by decide) rfl (fun ls hl => ?_)
  refine lv_aload hx hb dX1_reckon_9 (lv_at hl 0 rfl) ?_
  refine lv_iload_n hx hb dX1_reckon_11 rfl (lv_at hl 3 rfl) ?_
  refine lv_iconst (v := 0) hx hb dX1_reckon_12 (by decide) ?_
  refine tgk_5 hG y24 (fun y27 y27n y28a y28b y28c => ?_)
  refine tpk_5 hT y24 (fun o29_x0 o29_x2 hf_o29 ro29_0 ro29_1 => ?_)
  refine tpk_pos (tp_in hG y24 (by decide)) hf_o29 (fun q30 eq30 => ?_)
  refine pz_calli (va_runV (As := [.int u, .int 0]) (rest := []) ⟨hx, hb, hml, hown, hts⟩ (t_X4_number l dC dI _ Ω κ τ ν ρ L f hG hT (ρ (ρ h0 0) 18) u (0) y24) (cwV 2 hts gX1_reckon_X4_number rfl rfl rfl ⟨rfl, pd_X4_number⟩ ⟨Nat.le_of_ble_eq_true rfl, Nat.le_of_ble_eq_true rfl⟩) ⟨pz_blind, va_recv hK hP (ci := 4) (q0 := q30) rfl eq30, pz_pre hP hK hD hN⟩ rfl rfl hl.1 rfl (lv_room (Nat.le_of_ble_eq_true rfl)) dX1_reckon_13 ⟨Nat.le_of_ble_eq_true rfl, Nat.le_of_ble_eq_true rfl⟩) (fun r31 hw32 => ?_)
  obtain ⟨hw32r, hw32p⟩ := hw32
  refine lv_istore (lv' := [(6, .int r31), (5, .ref (ρ (ρ h0 0) 18)), (0, .ref h0), (1, .int v), (2, .int u), (3, .int a), (4, .int b)]) hx hb dX1_reckon_16 hl (by decide) rfl (fun ls hl => ?_)
  refine lv_aload hx hb dX1_reckon_18 (lv_at hl 1 rfl) ?_
  refine lv_iload_n hx hb dX1_reckon_20 rfl (lv_at hl 4 rfl) ?_
  refine lv_iconst (v := 1) hx hb dX1_reckon_21 (by decide) ?_
  refine pz_calli (va_runV (As := [.int u, .int 1]) (rest := []) ⟨hx, hb, hml, hown, hts⟩ (t_X4_number l dC dI _ Ω κ τ ν ρ L f hG hT (ρ (ρ h0 0) 18) u (1) y24) (cwV 2 hts gX1_reckon_X4_number rfl rfl rfl ⟨rfl, pd_X4_number⟩ ⟨Nat.le_of_ble_eq_true rfl, Nat.le_of_ble_eq_true rfl⟩) ⟨pz_blind, va_recv hK hP (ci := 4) (q0 := q30) rfl eq30, pz_pre hP hK hD hN⟩ rfl rfl hl.1 rfl (lv_room (Nat.le_of_ble_eq_true rfl)) dX1_reckon_22 ⟨Nat.le_of_ble_eq_true rfl, Nat.le_of_ble_eq_true rfl⟩) (fun r33 hw34 => ?_)
  obtain ⟨hw34r, hw34p⟩ := hw34
  refine lv_istore (lv' := [(7, .int r33), (6, .int r31), (5, .ref (ρ (ρ h0 0) 18)), (0, .ref h0), (1, .int v), (2, .int u), (3, .int a), (4, .int b)]) hx hb dX1_reckon_25 hl (by decide) rfl (fun ls hl => ?_)
  refine lv_aload hx hb dX1_reckon_27 (lv_at hl 2 rfl) ?_
  refine lv_iload_n hx hb dX1_reckon_29 rfl (lv_at hl 5 rfl) ?_
  refine lv_bipush (v := 6) hx hb dX1_reckon_30 (by decide) ?_
  refine pz_calli (va_runV (As := [.int u, .int 6]) (rest := []) ⟨hx, hb, hml, hown, hts⟩ (t_X4_number l dC dI _ Ω κ τ ν ρ L f hG hT (ρ (ρ h0 0) 18) u (6) y24) (cwV 2 hts gX1_reckon_X4_number rfl rfl rfl ⟨rfl, pd_X4_number⟩ ⟨Nat.le_of_ble_eq_true rfl, Nat.le_of_ble_eq_true rfl⟩) ⟨pz_blind, va_recv hK hP (ci := 4) (q0 := q30) rfl eq30, pz_pre hP hK hD hN⟩ rfl rfl hl.1 rfl (lv_room (Nat.le_of_ble_eq_true rfl)) dX1_reckon_32 ⟨Nat.le_of_ble_eq_true rfl, Nat.le_of_ble_eq_true rfl⟩) (fun r35 hw36 => ?_)
  obtain ⟨hw36r, hw36p⟩ := hw36
  refine lv_istore (lv' := [(8, .int r35), (7, .int r33), (6, .int r31), (5, .ref (ρ (ρ h0 0) 18)), (0, .ref h0), (1, .int v), (2, .int u), (3, .int a), (4, .int b)]) hx hb dX1_reckon_35 hl (by decide) rfl (fun ls hl => ?_)
  refine lv_aload_n hx hb dX1_reckon_37 rfl (lv_at hl 4 rfl) ?_
  refine va_get (D := (dC, dI)) (ci := 1) (v := .ref (ρ h0 0)) (C := RX1) (T := TX1) (N := 15) hx hb hts hfX1 hown hK hP q12 eq12 rfl 0 (by decide) (hts (.fieldLink RX1 40 "ColdShips$Planner" "world" "LColdShips$World;") wa_143) (fun _ h9 => h9) rfl dX1_reckon_38 ?_
  refine lv_iload_n hx hb dX1_reckon_41 rfl (lv_at hl 7 rfl) ?_
  refine lv_iload hx hb dX1_reckon_42 (lv_at hl 2 rfl) ?_
  refine pz_calli (va_runV (As := [.int a, .int r31]) (rest := []) ⟨hx, hb, hml, hown, hts⟩ (t_X10_hoursBetween l dC dI _ Ω κ τ ν ρ L f hG hT (ρ h0 0) a r31 y1 o25_x0 o25_x1 o25_x2 o25_x3 o25_x4 o25_x5 o25_x6 hf_o25) (cwV 2 hts gX1_reckon_X10_hoursBetween rfl rfl rfl ⟨rfl, pd_X10_hoursBetween⟩ ⟨Nat.le_of_ble_eq_true rfl, Nat.le_of_ble_eq_true rfl⟩) ⟨pz_blind, va_recv hK hP (ci := 10) (q0 := q26) rfl eq26, pz_pre hP hK hD hN⟩ rfl rfl hl.1 rfl (lv_room (Nat.le_of_ble_eq_true rfl)) dX1_reckon_44 ⟨Nat.le_of_ble_eq_true rfl, Nat.le_of_ble_eq_true rfl⟩) (fun r37 hw38 => ?_)
  obtain ⟨hw38r, hw38p⟩ := hw38
  refine lv_istore (lv' := [(9, .int r37), (8, .int r35), (7, .int r33), (6, .int r31), (5, .ref (ρ (ρ h0 0) 18)), (0, .ref h0), (1, .int v), (2, .int u), (3, .int a), (4, .int b)]) hx hb dX1_reckon_47 hl (by decide) rfl (fun ls hl => ?_)
  refine lv_aload_n hx hb dX1_reckon_49 rfl (lv_at hl 5 rfl) ?_
  refine va_get (D := (dC, dI)) (ci := 1) (v := .ref (ρ h0 0)) (C := RX1) (T := TX1) (N := 15) hx hb hts hfX1 hown hK hP q12 eq12 rfl 0 (by decide) (hts (.fieldLink RX1 40 "ColdShips$Planner" "world" "LColdShips$World;") wa_143) (fun _ h9 => h9) rfl dX1_reckon_50 ?_
  refine lv_iload hx hb dX1_reckon_53 (lv_at hl 3 rfl) ?_
  refine lv_iload hx hb dX1_reckon_55 (lv_at hl 2 rfl) ?_
  refine pz_calli (va_runV (As := [.int r31, .int r33]) (rest := []) ⟨hx, hb, hml, hown, hts⟩ (t_X10_hoursBetween l dC dI _ Ω κ τ ν ρ L f hG hT (ρ h0 0) r31 r33 y1 o25_x0 o25_x1 o25_x2 o25_x3 o25_x4 o25_x5 o25_x6 hf_o25) (cwV 2 hts gX1_reckon_X10_hoursBetween rfl rfl rfl ⟨rfl, pd_X10_hoursBetween⟩ ⟨Nat.le_of_ble_eq_true rfl, Nat.le_of_ble_eq_true rfl⟩) ⟨pz_blind, va_recv hK hP (ci := 10) (q0 := q26) rfl eq26, pz_pre hP hK hD hN⟩ rfl rfl hl.1 rfl (lv_room (Nat.le_of_ble_eq_true rfl)) dX1_reckon_57 ⟨Nat.le_of_ble_eq_true rfl, Nat.le_of_ble_eq_true rfl⟩) (fun r39 hw40 => ?_)
  obtain ⟨hw40r, hw40p⟩ := hw40
  refine lv_istore (lv' := [(10, .int r39), (9, .int r37), (8, .int r35), (7, .int r33), (6, .int r31), (5, .ref (ρ (ρ h0 0) 18)), (0, .ref h0), (1, .int v), (2, .int u), (3, .int a), (4, .int b)]) hx hb dX1_reckon_60 hl (by decide) rfl (fun ls hl => ?_)
  refine lv_iload hx hb dX1_reckon_62 (lv_at hl 1 rfl) ?_
  refine lv_iconst (v := (-1)) hx hb dX1_reckon_64 (by decide) ?_
  refine lv_icmp_eq (tgt := 94) hx hb dX1_reckon_65 (by decide) (fun c41 => ?_) (fun c41 => ?_)
  · have ic41 : r37.toInt = (-1) := zi_eq rfl rfl c41
    refine lv_iconst (v := 0) hx hb dX1_reckon_94 (by decide) ?_
    exact W.zret (v := 0) hx hb hr rfl (fun t ht hW => ⟨⟨0, f, rfl, ⟨hT, hR, (by first | decide | omega), trivial⟩, by rw [ht]; exact hP, va_K.moved hW.alike hK, hD⟩, hS.F ht⟩) hS.2.2 dX1_reckon_95
  · have ic41 : r37.toInt ≠ (-1) := zi_eqf rfl rfl c41
    have p42 : 0 ≤ a.toInt ∧ a.toInt ≤ 5 ∧ 0 ≤ r31.toInt ∧ r31.toInt ≤ 5 := hw38p (by omega)
    refine lv_iload hx hb dX1_reckon_68 (lv_at hl 0 rfl) ?_
    refine lv_iconst (v := (-1)) hx hb dX1_reckon_70 (by decide) ?_
    refine lv_icmp_eq (tgt := 94) hx hb dX1_reckon_71 (by decide) (fun c43 => ?_) (fun c43 => ?_)
    · have ic43 : r39.toInt = (-1) := zi_eq rfl rfl c43
      refine lv_iconst (v := 0) hx hb dX1_reckon_94 (by decide) ?_
      exact W.zret (v := 0) hx hb hr rfl (fun t ht hW => ⟨⟨0, f, rfl, ⟨hT, hR, (by first | decide | omega), trivial⟩, by rw [ht]; exact hP, va_K.moved hW.alike hK, hD⟩, hS.F ht⟩) hS.2.2 dX1_reckon_95
    · have ic43 : r39.toInt ≠ (-1) := zi_eqf rfl rfl c43
      have p44 : 0 ≤ r31.toInt ∧ r31.toInt ≤ 5 ∧ 0 ≤ r33.toInt ∧ r33.toInt ≤ 5 := hw40p (by omega)
      refine lv_iload hx hb dX1_reckon_74 (lv_at hl 2 rfl) ?_
      refine lv_aload_n hx hb dX1_reckon_76 rfl (lv_at hl 6 rfl) ?_
      refine va_get (D := (dC, dI)) (ci := 1) (v := .ref (ρ h0 0)) (C := RX1) (T := TX1) (N := 15) hx hb hts hfX1 hown hK hP q12 eq12 rfl 0 (by decide) (hts (.fieldLink RX1 40 "ColdShips$Planner" "world" "LColdShips$World;") wa_143) (fun _ h9 => h9) rfl dX1_reckon_77 ?_
      refine va_getN (D := (dC, dI)) (ci := 10) (v := .ref (ρ (ρ h0 0) 10)) (C := RX10) (T := TX10) (N := 19) hx hb hts hfX10 hown hK hP q26 eq26 rfl 10 (by decide) (va_Nw.use rfl (hN.1 (.fieldLinkNest RX1 80 "ColdShips$World" "ships" "[LColdShips$Ship;" "ColdShips") nzw_70)) (fun _ h9 => h9) rfl dX1_reckon_80 ?_
      refine lv_iload_n hx hb dX1_reckon_83 rfl (lv_at hl 7 rfl) ?_
      refine tpk_25 hT y16 (fun g46 hf_o45 hf_o45e => ?_)
      refine tpk_pos (tp_in hG y16 (by decide)) hf_o45 (fun q47 eq47 => ?_)
      refine va_aldq hx hb hK hP q47 5 eq47 rfl (vp_in_iff.mpr ⟨by omega, by omega⟩) dX1_reckon_84 ?_
      obtain ⟨b48, hb49⟩ : ∃ b : Nat, b = ρ (ρ (ρ h0 0) 10) v.toNatClampNeg := ⟨_, rfl⟩
      have hb49t : τ b48 = 6 := by rw [hb49]; exact tpg_25 hG y16 _ (zi_cl (vp_in_iff.mpr ⟨by omega, by omega⟩))
      have hb49g : g46 v.toNatClampNeg = some b48 := by rw [hb49]; exact hf_o45e _ (zi_cl (vp_in_iff.mpr ⟨by omega, by omega⟩))
      refine W.eq (g2 := F0 m 85 ls (.ref b48 :: [.int r35])) (congrArg (fun o => F0 m 85 ls (va_rf o :: [.int r35])) hb49g) ?_
      refine tgk_6 hG hb49t (fun y50 y51 y51n y52 y52n y53 y53n y54 y54n y55 y55n y56 y56n => ?_)
      refine tpk_6 hT hb49t (fun o57_x1 o57_x2 o57_x3 o57_x4 o57_x5 o57_x6 o57_x10 o57_x11 o57_x12 o57_x14 hf_o57 ro57_0 ro57_1 ro57_2 => ?_)
      refine tpk_pos (tp_in hG hb49t (by decide)) hf_o57 (fun q58 eq58 => ?_)
      refine va_getN (D := (dC, dI)) (ci := 5) (v := .ref (ρ b48 0)) (C := RX5) (T := TX5) (N := 17) hx hb hts hfX5 hown hK hP q58 eq58 rfl 0 (by decide) (va_Nw.use rfl (hN.1 (.fieldLinkNest RX1 154 "ColdShips$Ship" "tank" "LColdShips$Tank;" "ColdShips") nzw_23)) (fun _ h9 => h9) rfl dX1_reckon_85 ?_
      refine tgk_8 hG y50 (fun y59 y59n y60 y60n y61 y61n => ?_)
      refine tpk_8 hT y50 (fun o62_x0 o62_x1 o62_x2 o62_x3 hf_o62 ro62_0 => ?_)
      refine tpk_pos (tp_in hG y50 (by decide)) hf_o62 (fun q63 eq63 => ?_)
      refine pz_calli (va_runV (As := []) (rest := [.int r35]) ⟨hx, hb, hml, hown, hts⟩ (t_X7_top l dC dI _ Ω κ τ ν ρ L f hG hT (ρ b48 0) y50) (cwV 0 hts gX1_reckon_X7_top rfl rfl rfl ⟨rfl, pd_X7_top⟩ ⟨Nat.le_of_ble_eq_true rfl, Nat.le_of_ble_eq_true rfl⟩) ⟨pz_blind, va_recv hK hP (ci := 7) (q0 := q63) rfl eq63, pz_pre hP hK hD hN⟩ rfl rfl hl.1 rfl (lv_room (Nat.le_of_ble_eq_true rfl)) dX1_reckon_88 ⟨Nat.le_of_ble_eq_true rfl, Nat.le_of_ble_eq_true rfl⟩) (fun r64 hw65 => ?_)
      obtain ⟨hw65r, hw65p⟩ := hw65
      refine lv_icmp_le (tgt := 96) hx hb dX1_reckon_91 (by decide) (fun c66 => ?_) (fun c66 => ?_)
      · have ic66 : r35.toInt ≤ r64.toInt := zi_le rfl rfl c66
        refine lv_aload_n hx hb dX1_reckon_96 rfl (lv_at hl 6 rfl) ?_
        refine lv_iload hx hb dX1_reckon_97 (lv_at hl 10 rfl) ?_
        refine lv_iload hx hb dX1_reckon_99 (lv_at hl 1 rfl) ?_
        refine lv_iadd hx hb dX1_reckon_101 ?_
        refine lv_topi (fun z67 ez67 => ?_)
        refine lv_aload hx hb dX1_reckon_102 (lv_at hl 5 rfl) ?_
        refine lv_iload_n hx hb dX1_reckon_104 rfl (lv_at hl 8 rfl) ?_
        refine lv_iconst (v := 2) hx hb dX1_reckon_105 (by decide) ?_
        refine pz_calli (va_runV (As := [.int u, .int 2]) (rest := [.int z67, .ref h0]) ⟨hx, hb, hml, hown, hts⟩ (t_X4_number l dC dI _ Ω κ τ ν ρ L f hG hT (ρ (ρ h0 0) 18) u (2) y24) (cwV 2 hts gX1_reckon_X4_number rfl rfl rfl ⟨rfl, pd_X4_number⟩ ⟨Nat.le_of_ble_eq_true rfl, Nat.le_of_ble_eq_true rfl⟩) ⟨pz_blind, va_recv hK hP (ci := 4) (q0 := q30) rfl eq30, pz_pre hP hK hD hN⟩ rfl rfl hl.1 rfl (lv_room (Nat.le_of_ble_eq_true rfl)) dX1_reckon_106 ⟨Nat.le_of_ble_eq_true rfl, Nat.le_of_ble_eq_true rfl⟩) (fun r68 hw69 => ?_)
        obtain ⟨hw69r, hw69p⟩ := hw69
        refine va_mmax hx hb (by rw [hml]; exact hl.1.symm) hown (hts (.methodLink RX1 164 Lib.Math.max.name) wa_1362) (hts (.static Lib.Math.max.name) wa_70) (hts (.initialized "java/lang/Math") wa_71) (hts (.code Lib.Math.max.name Lib.Math.max.code 2 (some .int)) wa_72) (Nat.le_of_ble_eq_true rfl) (Nat.le_of_ble_eq_true rfl) (Nat.le_of_ble_eq_true rfl) (Nat.le_of_ble_eq_true rfl) dX1_reckon_109 ?_
        refine lv_topi (fun z70 ez70 => ?_)
        have iz70 := zi_max ez70 (rfl : z67.toInt = _) (rfl : r68.toInt = _)
        refine va_put (D := (dC, dI)) (ci := 1) (v := .int z70) (ty := .int) (C := RX1) (T := TX1) (N := 15) hx hb hts hfX1 tyX1 tyX1_ok nmX1 hown hK hP hD hS q12 eq12 rfl 5 (by decide) (hts (.fieldLink RX1 142 "ColdShips$Planner" "loadAt" "I") wa_1363) (fun _ h9 => h9) rfl (tyX1_ok 5 (by decide)) rfl rfl (Nat.le_of_ble_eq_true rfl) dX1_reckon_112 (tp_k (.inr (1, [.ref (ρ h0 0), .ref (ρ h0 1), .ref (ρ h0 2), .ref (ρ h0 3), .ref (ρ h0 4), .int z70, .int o11_x6, .int o11_x7, .long o11_x8, .int o11_x9, .ref (ρ h0 10), .ref (ρ h0 11), .ref (ρ h0 12), .ref (ρ h0 13), .ref (ρ h0 14)])) hD (tp_in hG ht_h0 (by decide)) eq12 (fun f71 H locs hP hD hS g73 k72 => ?_))
        have hT := hT.up ht_h0 g73 k72 ⟨_, _, _, _, _, rfl, (by first | decide | omega | (omega))⟩
        have hR := hR.up ht_h0 (by decide) k72
        refine lv_aload_n hx hb dX1_reckon_115 rfl (lv_at hl 6 rfl) ?_
        refine tpk_pos (tp_in hG ht_h0 (by decide)) g73 (fun q74 eq74 => ?_)
        refine va_get (D := (dC, dI)) (ci := 1) (v := .int z70) (C := RX1) (T := TX1) (N := 15) hx hb hts hfX1 hown hK hP q74 eq74 rfl 5 (by decide) (hts (.fieldLink RX1 142 "ColdShips$Planner" "loadAt" "I") wa_1363) (fun _ h9 => h9) rfl dX1_reckon_116 ?_
        refine lv_aload hx hb dX1_reckon_119 (lv_at hl 5 rfl) ?_
        refine lv_iload_n hx hb dX1_reckon_121 rfl (lv_at hl 8 rfl) ?_
        refine lv_iconst (v := 3) hx hb dX1_reckon_122 (by decide) ?_
        have hf_75 : f71 (ρ (ρ h0 0) 18) = .inr (4, [.int o29_x0, .ref (ρ (ρ (ρ h0 0) 18) 1), .int o29_x2]) := (k72 _ (tp_ne y24 ht_h0 (by decide))).trans hf_o29
        refine tpk_pos (tp_in hG y24 (by decide)) hf_75 (fun q76 eq76 => ?_)
        refine pz_calli (va_runV (As := [.int u, .int 3]) (rest := [.int z70]) ⟨hx, hb, hml, hown, hts⟩ (t_X4_number l dC dI _ Ω κ τ ν ρ L f71 hG hT (ρ (ρ h0 0) 18) u (3) y24) (cwV 2 hts gX1_reckon_X4_number rfl rfl rfl ⟨rfl, pd_X4_number⟩ ⟨Nat.le_of_ble_eq_true rfl, Nat.le_of_ble_eq_true rfl⟩) ⟨pz_blind, va_recv hK hP (ci := 4) (q0 := q76) rfl eq76, pz_pre hP hK hD hN⟩ rfl rfl hl.1 rfl (lv_room (Nat.le_of_ble_eq_true rfl)) dX1_reckon_123 ⟨Nat.le_of_ble_eq_true rfl, Nat.le_of_ble_eq_true rfl⟩) (fun r77 hw78 => ?_)
        obtain ⟨hw78r, hw78p⟩ := hw78
        refine lv_icmp_le (tgt := 131) hx hb dX1_reckon_126 (by decide) (fun c79 => ?_) (fun c79 => ?_)
        · have ic79 : z70.toInt ≤ r77.toInt := zi_le rfl rfl c79
          refine lv_aload_n hx hb dX1_reckon_131 rfl (lv_at hl 6 rfl) ?_
          refine va_get (D := (dC, dI)) (ci := 1) (v := .ref (ρ h0 0)) (C := RX1) (T := TX1) (N := 15) hx hb hts hfX1 hown hK hP q74 eq74 rfl 0 (by decide) (hts (.fieldLink RX1 40 "ColdShips$Planner" "world" "LColdShips$World;") wa_143) (fun _ h9 => h9) rfl dX1_reckon_132 ?_
          have hf_80 : f71 (ρ h0 0) = .inr (10, [.int o25_x0, .int o25_x1, .int o25_x2, .int o25_x3, .int o25_x4, .int o25_x5, .int o25_x6, .ref (ρ (ρ h0 0) 7), .ref (ρ (ρ h0 0) 8), .ref (ρ (ρ h0 0) 9), .ref (ρ (ρ h0 0) 10), .ref (ρ (ρ h0 0) 11), .ref (ρ (ρ h0 0) 12), .ref (ρ (ρ h0 0) 13), .ref (ρ (ρ h0 0) 14), .ref (ρ (ρ h0 0) 15), .ref (ρ (ρ h0 0) 16), .ref (ρ (ρ h0 0) 17), .ref (ρ (ρ h0 0) 18)]) := (k72 _ (tp_ne y1 ht_h0 (by decide))).trans hf_o25
          refine tpk_pos (tp_in hG y1 (by decide)) hf_80 (fun q81 eq81 => ?_)
          refine va_getN (D := (dC, dI)) (ci := 10) (v := .ref (ρ (ρ h0 0) 13)) (C := RX10) (T := TX10) (N := 19) hx hb hts hfX10 hown hK hP q81 eq81 rfl 13 (by decide) (va_Nw.use rfl (hN.1 (.fieldLinkNest RX1 167 "ColdShips$World" "breaks" "LColdShips$Spans;" "ColdShips") nzw_77)) (fun _ h9 => h9) rfl dX1_reckon_135 ?_
          refine lv_iload hx hb dX1_reckon_138 (lv_at hl 4 rfl) ?_
          refine lv_iload hx hb dX1_reckon_140 (lv_at hl 4 rfl) ?_
          refine lv_aload_n hx hb dX1_reckon_142 rfl (lv_at hl 6 rfl) ?_
          refine va_get (D := (dC, dI)) (ci := 1) (v := .int z70) (C := RX1) (T := TX1) (N := 15) hx hb hts hfX1 hown hK hP q74 eq74 rfl 5 (by decide) (hts (.fieldLink RX1 142 "ColdShips$Planner" "loadAt" "I") wa_1363) (fun _ h9 => h9) rfl dX1_reckon_143 ?_
          refine lv_aload_n hx hb dX1_reckon_146 rfl (lv_at hl 6 rfl) ?_
          refine va_get (D := (dC, dI)) (ci := 1) (v := .ref (ρ h0 0)) (C := RX1) (T := TX1) (N := 15) hx hb hts hfX1 hown hK hP q74 eq74 rfl 0 (by decide) (hts (.fieldLink RX1 40 "ColdShips$Planner" "world" "LColdShips$World;") wa_143) (fun _ h9 => h9) rfl dX1_reckon_147 ?_
          refine va_getN (D := (dC, dI)) (ci := 10) (v := .ref (ρ (ρ h0 0) 9)) (C := RX10) (T := TX10) (N := 19) hx hb hts hfX10 hown hK hP q81 eq81 rfl 9 (by decide) (va_Nw.use rfl (hN.1 (.fieldLinkNest RX1 171 "ColdShips$World" "terminals" "[LColdShips$Terminal;" "ColdShips") nzw_67)) (fun _ h9 => h9) rfl dX1_reckon_150 ?_
          refine lv_iload hx hb dX1_reckon_153 (lv_at hl 4 rfl) ?_
          refine tpk_24 hT y15 (fun g83 hf_o82 hf_o82e => ?_)
          refine tpk_pos (tp_in hG y15 (by decide)) hf_o82 (fun q84 eq84 => ?_)
          refine va_aldq hx hb hK hP q84 4 eq84 rfl (vp_in_iff.mpr ⟨by omega, by omega⟩) dX1_reckon_155 ?_
          obtain ⟨b85, hb86⟩ : ∃ b : Nat, b = ρ (ρ (ρ h0 0) 9) r31.toNatClampNeg := ⟨_, rfl⟩
          have hb86t : τ b85 = 9 := by rw [hb86]; exact tpg_24 hG y15 _ (zi_cl (vp_in_iff.mpr ⟨by omega, by omega⟩))
          have hb86g : g83 r31.toNatClampNeg = some b85 := by rw [hb86]; exact hf_o82e _ (zi_cl (vp_in_iff.mpr ⟨by omega, by omega⟩))
          refine W.eq (g2 := F0 m 156 ls (.ref b85 :: [.int z70, .int r31, .int r31, .ref (ρ (ρ h0 0) 13)])) (congrArg (fun o => F0 m 156 ls (va_rf o :: [.int z70, .int r31, .int r31, .ref (ρ (ρ h0 0) 13)])) hb86g) ?_
          refine lv_iload hx hb dX1_reckon_156 (lv_at hl 2 rfl) ?_
          refine tgk_9 hG hb86t (fun y87 y87n y88 y88n => ?_)
          refine tpk_9 hT hb86t (fun o89_x0 o89_x1 o89_x2 o89_x3 o89_x4 hf_o89 ro89_0 => ?_)
          refine tpk_pos (tp_in hG hb86t (by decide)) hf_o89 (fun q90 eq90 => ?_)
          refine pz_calli (va_runV (As := [.int r35]) (rest := [.int z70, .int r31, .int r31, .ref (ρ (ρ h0 0) 13)]) ⟨hx, hb, hml, hown, hts⟩ (t_X8_hoursFor l dC dI _ Ω κ τ ν ρ L f71 hG hT b85 r35 hb86t) (cwV 1 hts gX1_reckon_X8_hoursFor rfl rfl rfl ⟨rfl, pd_X8_hoursFor⟩ ⟨Nat.le_of_ble_eq_true rfl, Nat.le_of_ble_eq_true rfl⟩) ⟨pz_blind, va_recv hK hP (ci := 8) (q0 := q90) rfl eq90, pz_pre hP hK hD hN⟩ rfl rfl hl.1 rfl (lv_room (Nat.le_of_ble_eq_true rfl)) dX1_reckon_158 ⟨Nat.le_of_ble_eq_true rfl, Nat.le_of_ble_eq_true rfl⟩) (fun r91 hw92 => ?_)
          obtain ⟨hw92r, hw92p⟩ := hw92
          refine tgk_7 hG y19 (fun y93 y93n y94 y94n y95 y95n => ?_)
          refine tpk_7 hT y19 (fun o96_x3 hf_o96 ro96_0 => ?_)
          refine tpk_pos (tp_in hG y19 (by decide)) hf_o96 (fun q97 eq97 => ?_)
          refine pz_calli (va_runV (As := [.int r31, .int r31, .int z70, .int r91]) (rest := []) ⟨hx, hb, hml, hown, hts⟩ (t_X6_hourBehind l dC dI _ Ω κ τ ν ρ L f71 hG hT (ρ (ρ h0 0) 13) r31 r31 z70 r91 y19 o96_x3 hf_o96) (cwV 4 hts gX1_reckon_X6_hourBehind rfl rfl rfl ⟨rfl, pd_X6_hourBehind⟩ ⟨Nat.le_of_ble_eq_true rfl, Nat.le_of_ble_eq_true rfl⟩) ⟨pz_blind, va_recv hK hP (ci := 6) (q0 := q97) rfl eq97, pz_pre hP hK hD hN⟩ rfl rfl hl.1 rfl (lv_room (Nat.le_of_ble_eq_true rfl)) dX1_reckon_161 ⟨Nat.le_of_ble_eq_true rfl, Nat.le_of_ble_eq_true rfl⟩) (fun r98 hw99 => ?_)
          obtain ⟨hw99r, hw99p⟩ := hw99
          refine lv_istore (lv' := [(11, .int r98), (10, .int r39), (9, .int r37), (8, .int r35), (7, .int r33), (6, .int r31), (5, .ref (ρ (ρ h0 0) 18)), (0, .ref h0), (1, .int v), (2, .int u), (3, .int a), (4, .int b)]) hx hb dX1_reckon_164 hl (by decide) rfl (fun ls hl => ?_)
          refine lv_iload hx hb dX1_reckon_166 (lv_at hl 0 rfl) ?_
          refine lv_iconst (v := (-1)) hx hb dX1_reckon_168 (by decide) ?_
          refine lv_icmp_ne (tgt := 174) hx hb dX1_reckon_169 (by decide) (fun c100 => ?_) (fun c100 => ?_)
          · have ic100 : r98.toInt ≠ (-1) := zi_ne rfl rfl c100
            refine lv_aload_n hx hb dX1_reckon_174 rfl (lv_at hl 7 rfl) ?_
            refine lv_iload hx hb dX1_reckon_175 (lv_at hl 0 rfl) ?_
            refine lv_iload hx hb dX1_reckon_177 (lv_at hl 1 rfl) ?_
            refine lv_iadd hx hb dX1_reckon_179 ?_
            refine lv_topi (fun z101 ez101 => ?_)
            refine lv_aload hx hb dX1_reckon_180 (lv_at hl 6 rfl) ?_
            refine lv_iload_n hx hb dX1_reckon_182 rfl (lv_at hl 9 rfl) ?_
            refine lv_iconst (v := 4) hx hb dX1_reckon_183 (by decide) ?_
            refine pz_calli (va_runV (As := [.int u, .int 4]) (rest := [.int z101, .ref h0]) ⟨hx, hb, hml, hown, hts⟩ (t_X4_number l dC dI _ Ω κ τ ν ρ L f71 hG hT (ρ (ρ h0 0) 18) u (4) y24) (cwV 2 hts gX1_reckon_X4_number rfl rfl rfl ⟨rfl, pd_X4_number⟩ ⟨Nat.le_of_ble_eq_true rfl, Nat.le_of_ble_eq_true rfl⟩) ⟨pz_blind, va_recv hK hP (ci := 4) (q0 := q76) rfl eq76, pz_pre hP hK hD hN⟩ rfl rfl hl.1 rfl (lv_room (Nat.le_of_ble_eq_true rfl)) dX1_reckon_184 ⟨Nat.le_of_ble_eq_true rfl, Nat.le_of_ble_eq_true rfl⟩) (fun r102 hw103 => ?_)
            obtain ⟨hw103r, hw103p⟩ := hw103
            refine va_mmax hx hb (by rw [hml]; exact hl.1.symm) hown (hts (.methodLink RX1 164 Lib.Math.max.name) wa_1362) (hts (.static Lib.Math.max.name) wa_70) (hts (.initialized "java/lang/Math") wa_71) (hts (.code Lib.Math.max.name Lib.Math.max.code 2 (some .int)) wa_72) (Nat.le_of_ble_eq_true rfl) (Nat.le_of_ble_eq_true rfl) (Nat.le_of_ble_eq_true rfl) (Nat.le_of_ble_eq_true rfl) dX1_reckon_187 ?_
            refine lv_topi (fun z104 ez104 => ?_)
            have iz104 := zi_max ez104 (rfl : z101.toInt = _) (rfl : r102.toInt = _)
            refine va_put (D := (dC, dI)) (ci := 1) (v := .int z104) (ty := .int) (C := RX1) (T := TX1) (N := 15) hx hb hts hfX1 tyX1 tyX1_ok nmX1 hown hK hP hD hS q74 eq74 rfl 6 (by decide) (hts (.fieldLink RX1 145 "ColdShips$Planner" "landAt" "I") wa_1364) (fun _ h9 => h9) rfl (tyX1_ok 6 (by decide)) rfl rfl (Nat.le_of_ble_eq_true rfl) dX1_reckon_190 (tp_k (.inr (1, [.ref (ρ h0 0), .ref (ρ h0 1), .ref (ρ h0 2), .ref (ρ h0 3), .ref (ρ h0 4), .int z70, .int z104, .int o11_x7, .long o11_x8, .int o11_x9, .ref (ρ h0 10), .ref (ρ h0 11), .ref (ρ h0 12), .ref (ρ h0 13), .ref (ρ h0 14)])) hD (tp_in hG ht_h0 (by decide)) eq74 (fun f105 H locs hP hD hS g107 k106 => ?_))
            have hT := hT.up ht_h0 g107 k106 ⟨_, _, _, _, _, rfl, (by first | decide | omega | (omega))⟩
            have hR := hR.up ht_h0 (by decide) k106
            refine lv_aload_n hx hb dX1_reckon_193 rfl (lv_at hl 7 rfl) ?_
            refine tpk_pos (tp_in hG ht_h0 (by decide)) g107 (fun q108 eq108 => ?_)
            refine va_get (D := (dC, dI)) (ci := 1) (v := .int z104) (C := RX1) (T := TX1) (N := 15) hx hb hts hfX1 hown hK hP q108 eq108 rfl 6 (by decide) (hts (.fieldLink RX1 145 "ColdShips$Planner" "landAt" "I") wa_1364) (fun _ h9 => h9) rfl dX1_reckon_194 ?_
            refine lv_aload hx hb dX1_reckon_197 (lv_at hl 6 rfl) ?_
            refine lv_iload_n hx hb dX1_reckon_199 rfl (lv_at hl 9 rfl) ?_
            refine lv_iconst (v := 5) hx hb dX1_reckon_200 (by decide) ?_
            have hf_109 : f105 (ρ (ρ h0 0) 18) = .inr (4, [.int o29_x0, .ref (ρ (ρ (ρ h0 0) 18) 1), .int o29_x2]) := (k106 _ (tp_ne y24 ht_h0 (by decide))).trans hf_75
            refine tpk_pos (tp_in hG y24 (by decide)) hf_109 (fun q110 eq110 => ?_)
            refine pz_calli (va_runV (As := [.int u, .int 5]) (rest := [.int z104]) ⟨hx, hb, hml, hown, hts⟩ (t_X4_number l dC dI _ Ω κ τ ν ρ L f105 hG hT (ρ (ρ h0 0) 18) u (5) y24) (cwV 2 hts gX1_reckon_X4_number rfl rfl rfl ⟨rfl, pd_X4_number⟩ ⟨Nat.le_of_ble_eq_true rfl, Nat.le_of_ble_eq_true rfl⟩) ⟨pz_blind, va_recv hK hP (ci := 4) (q0 := q110) rfl eq110, pz_pre hP hK hD hN⟩ rfl rfl hl.1 rfl (lv_room (Nat.le_of_ble_eq_true rfl)) dX1_reckon_201 ⟨Nat.le_of_ble_eq_true rfl, Nat.le_of_ble_eq_true rfl⟩) (fun r111 hw112 => ?_)
            obtain ⟨hw112r, hw112p⟩ := hw112
            refine lv_icmp_le (tgt := 209) hx hb dX1_reckon_204 (by decide) (fun c113 => ?_) (fun c113 => ?_)
            · have ic113 : z104.toInt ≤ r111.toInt := zi_le rfl rfl c113
              refine lv_aload_n hx hb dX1_reckon_209 rfl (lv_at hl 7 rfl) ?_
              refine lv_aload_n hx hb dX1_reckon_210 rfl (lv_at hl 7 rfl) ?_
              refine va_get (D := (dC, dI)) (ci := 1) (v := .ref (ρ h0 0)) (C := RX1) (T := TX1) (N := 15) hx hb hts hfX1 hown hK hP q108 eq108 rfl 0 (by decide) (hts (.fieldLink RX1 40 "ColdShips$Planner" "world" "LColdShips$World;") wa_143) (fun _ h9 => h9) rfl dX1_reckon_211 ?_
              have hf_114 : f105 (ρ h0 0) = .inr (10, [.int o25_x0, .int o25_x1, .int o25_x2, .int o25_x3, .int o25_x4, .int o25_x5, .int o25_x6, .ref (ρ (ρ h0 0) 7), .ref (ρ (ρ h0 0) 8), .ref (ρ (ρ h0 0) 9), .ref (ρ (ρ h0 0) 10), .ref (ρ (ρ h0 0) 11), .ref (ρ (ρ h0 0) 12), .ref (ρ (ρ h0 0) 13), .ref (ρ (ρ h0 0) 14), .ref (ρ (ρ h0 0) 15), .ref (ρ (ρ h0 0) 16), .ref (ρ (ρ h0 0) 17), .ref (ρ (ρ h0 0) 18)]) := (k106 _ (tp_ne y1 ht_h0 (by decide))).trans hf_80
              refine tpk_pos (tp_in hG y1 (by decide)) hf_114 (fun q115 eq115 => ?_)
              refine va_getN (D := (dC, dI)) (ci := 10) (v := .ref (ρ (ρ h0 0) 13)) (C := RX10) (T := TX10) (N := 19) hx hb hts hfX10 hown hK hP q115 eq115 rfl 13 (by decide) (va_Nw.use rfl (hN.1 (.fieldLinkNest RX1 167 "ColdShips$World" "breaks" "LColdShips$Spans;" "ColdShips") nzw_77)) (fun _ h9 => h9) rfl dX1_reckon_214 ?_
              refine lv_iload hx hb dX1_reckon_217 (lv_at hl 4 rfl) ?_
              refine lv_iload hx hb dX1_reckon_219 (lv_at hl 4 rfl) ?_
              refine lv_aload_n hx hb dX1_reckon_221 rfl (lv_at hl 7 rfl) ?_
              refine va_get (D := (dC, dI)) (ci := 1) (v := .int z104) (C := RX1) (T := TX1) (N := 15) hx hb hts hfX1 hown hK hP q108 eq108 rfl 6 (by decide) (hts (.fieldLink RX1 145 "ColdShips$Planner" "landAt" "I") wa_1364) (fun _ h9 => h9) rfl dX1_reckon_222 ?_
              refine lv_aload_n hx hb dX1_reckon_225 rfl (lv_at hl 7 rfl) ?_
              refine va_get (D := (dC, dI)) (ci := 1) (v := .ref (ρ h0 0)) (C := RX1) (T := TX1) (N := 15) hx hb hts hfX1 hown hK hP q108 eq108 rfl 0 (by decide) (hts (.fieldLink RX1 40 "ColdShips$Planner" "world" "LColdShips$World;") wa_143) (fun _ h9 => h9) rfl dX1_reckon_226 ?_
              refine va_getN (D := (dC, dI)) (ci := 10) (v := .ref (ρ (ρ h0 0) 9)) (C := RX10) (T := TX10) (N := 19) hx hb hts hfX10 hown hK hP q115 eq115 rfl 9 (by decide) (va_Nw.use rfl (hN.1 (.fieldLinkNest RX1 171 "ColdShips$World" "terminals" "[LColdShips$Terminal;" "ColdShips") nzw_67)) (fun _ h9 => h9) rfl dX1_reckon_229 ?_
              refine lv_iload hx hb dX1_reckon_232 (lv_at hl 4 rfl) ?_
              have hf_116 : f105 (ρ (ρ h0 0) 9) = .inl (κ 4, 6, .inr (.inr (.inr (.inr g83)))) := (k106 _ (tp_ne y15 ht_h0 (by decide))).trans hf_o82
              refine tpk_pos (tp_in hG y15 (by decide)) hf_116 (fun q117 eq117 => ?_)
              refine va_aldq hx hb hK hP q117 4 eq117 rfl (vp_in_iff.mpr ⟨by omega, by omega⟩) dX1_reckon_234 ?_
              obtain ⟨b118, hb119⟩ : ∃ b : Nat, b = ρ (ρ (ρ h0 0) 9) r33.toNatClampNeg := ⟨_, rfl⟩
              have hb119t : τ b118 = 9 := by rw [hb119]; exact tpg_24 hG y15 _ (zi_cl (vp_in_iff.mpr ⟨by omega, by omega⟩))
              have hb119g : g83 r33.toNatClampNeg = some b118 := by rw [hb119]; exact hf_o82e _ (zi_cl (vp_in_iff.mpr ⟨by omega, by omega⟩))
              refine W.eq (g2 := F0 m 235 ls (.ref b118 :: [.int z104, .int r33, .int r33, .ref (ρ (ρ h0 0) 13), .ref h0])) (congrArg (fun o => F0 m 235 ls (va_rf o :: [.int z104, .int r33, .int r33, .ref (ρ (ρ h0 0) 13), .ref h0])) hb119g) ?_
              refine lv_iload hx hb dX1_reckon_235 (lv_at hl 3 rfl) ?_
              refine tgk_9 hG hb119t (fun y120 y120n y121 y121n => ?_)
              refine tpk_9 hT hb119t (fun o122_x0 o122_x1 o122_x2 o122_x3 o122_x4 hf_o122 ro122_0 => ?_)
              refine tpk_pos (tp_in hG hb119t (by decide)) hf_o122 (fun q123 eq123 => ?_)
              refine pz_calli (va_runV (As := [.int r35]) (rest := [.int z104, .int r33, .int r33, .ref (ρ (ρ h0 0) 13), .ref h0]) ⟨hx, hb, hml, hown, hts⟩ (t_X8_hoursFor l dC dI _ Ω κ τ ν ρ L f105 hG hT b118 r35 hb119t) (cwV 1 hts gX1_reckon_X8_hoursFor rfl rfl rfl ⟨rfl, pd_X8_hoursFor⟩ ⟨Nat.le_of_ble_eq_true rfl, Nat.le_of_ble_eq_true rfl⟩) ⟨pz_blind, va_recv hK hP (ci := 8) (q0 := q123) rfl eq123, pz_pre hP hK hD hN⟩ rfl rfl hl.1 rfl (lv_room (Nat.le_of_ble_eq_true rfl)) dX1_reckon_237 ⟨Nat.le_of_ble_eq_true rfl, Nat.le_of_ble_eq_true rfl⟩) (fun r124 hw125 => ?_)
              obtain ⟨hw125r, hw125p⟩ := hw125
              have hf_126 : f105 (ρ (ρ h0 0) 13) = .inr (6, [.ref (ρ (ρ (ρ h0 0) 13) 0), .ref (ρ (ρ (ρ h0 0) 13) 1), .ref (ρ (ρ (ρ h0 0) 13) 2), .int o96_x3]) := (k106 _ (tp_ne y19 ht_h0 (by decide))).trans hf_o96
              refine tpk_pos (tp_in hG y19 (by decide)) hf_126 (fun q127 eq127 => ?_)
              refine pz_calli (va_runV (As := [.int r33, .int r33, .int z104, .int r124]) (rest := [.ref h0]) ⟨hx, hb, hml, hown, hts⟩ (t_X6_hourBehind l dC dI _ Ω κ τ ν ρ L f105 hG hT (ρ (ρ h0 0) 13) r33 r33 z104 r124 y19 o96_x3 hf_126) (cwV 4 hts gX1_reckon_X6_hourBehind rfl rfl rfl ⟨rfl, pd_X6_hourBehind⟩ ⟨Nat.le_of_ble_eq_true rfl, Nat.le_of_ble_eq_true rfl⟩) ⟨pz_blind, va_recv hK hP (ci := 6) (q0 := q127) rfl eq127, pz_pre hP hK hD hN⟩ rfl rfl hl.1 rfl (lv_room (Nat.le_of_ble_eq_true rfl)) dX1_reckon_240 ⟨Nat.le_of_ble_eq_true rfl, Nat.le_of_ble_eq_true rfl⟩) (fun r128 hw129 => ?_)
              obtain ⟨hw129r, hw129p⟩ := hw129
              refine va_put (D := (dC, dI)) (ci := 1) (v := .int r128) (ty := .int) (C := RX1) (T := TX1) (N := 15) hx hb hts hfX1 tyX1 tyX1_ok nmX1 hown hK hP hD hS q108 eq108 rfl 7 (by decide) (hts (.fieldLink RX1 119 "ColdShips$Planner" "freeAt" "I") wa_1357) (fun _ h9 => h9) rfl (tyX1_ok 7 (by decide)) rfl rfl (Nat.le_of_ble_eq_true rfl) dX1_reckon_243 (tp_k (.inr (1, [.ref (ρ h0 0), .ref (ρ h0 1), .ref (ρ h0 2), .ref (ρ h0 3), .ref (ρ h0 4), .int z70, .int z104, .int r128, .long o11_x8, .int o11_x9, .ref (ρ h0 10), .ref (ρ h0 11), .ref (ρ h0 12), .ref (ρ h0 13), .ref (ρ h0 14)])) hD (tp_in hG ht_h0 (by decide)) eq108 (fun f130 H locs hP hD hS g132 k131 => ?_))
              have hT := hT.up ht_h0 g132 k131 ⟨_, _, _, _, _, rfl, (by first | decide | omega | (omega))⟩
              have hR := hR.up ht_h0 (by decide) k131
              refine lv_iload hx hb dX1_reckon_246 (lv_at hl 3 rfl) ?_
              refine lv_i2l hx hb dX1_reckon_248 rfl ?_
              refine lv_iload hx hb dX1_reckon_249 (lv_at hl 3 rfl) ?_
              refine lv_i2l hx hb dX1_reckon_251 rfl ?_
              refine lv_aload_n hx hb dX1_reckon_252 rfl (lv_at hl 7 rfl) ?_
              refine tpk_pos (tp_in hG ht_h0 (by decide)) g132 (fun q133 eq133 => ?_)
              refine va_get (D := (dC, dI)) (ci := 1) (v := .int z104) (C := RX1) (T := TX1) (N := 15) hx hb hts hfX1 hown hK hP q133 eq133 rfl 6 (by decide) (hts (.fieldLink RX1 145 "ColdShips$Planner" "landAt" "I") wa_1364) (fun _ h9 => h9) rfl dX1_reckon_253 ?_
              refine lv_aload_n hx hb dX1_reckon_256 rfl (lv_at hl 7 rfl) ?_
              refine va_get (D := (dC, dI)) (ci := 1) (v := .int z70) (C := RX1) (T := TX1) (N := 15) hx hb hts hfX1 hown hK hP q133 eq133 rfl 5 (by decide) (hts (.fieldLink RX1 142 "ColdShips$Planner" "loadAt" "I") wa_1363) (fun _ h9 => h9) rfl dX1_reckon_257 ?_
              refine lv_isub hx hb dX1_reckon_260 ?_
              refine lv_topi (fun z134 ez134 => ?_)
              refine lv_i2l hx hb dX1_reckon_261 rfl ?_
              refine lv_lmul hx hb dX1_reckon_262 ?_
              refine lv_topl (fun z135 ez135 => ?_)
              refine lv_aload_n hx hb dX1_reckon_263 rfl (lv_at hl 7 rfl) ?_
              refine va_get (D := (dC, dI)) (ci := 1) (v := .ref (ρ h0 0)) (C := RX1) (T := TX1) (N := 15) hx hb hts hfX1 hown hK hP q133 eq133 rfl 0 (by decide) (hts (.fieldLink RX1 40 "ColdShips$Planner" "world" "LColdShips$World;") wa_143) (fun _ h9 => h9) rfl dX1_reckon_264 ?_
              have hf_136 : f130 (ρ h0 0) = .inr (10, [.int o25_x0, .int o25_x1, .int o25_x2, .int o25_x3, .int o25_x4, .int o25_x5, .int o25_x6, .ref (ρ (ρ h0 0) 7), .ref (ρ (ρ h0 0) 8), .ref (ρ (ρ h0 0) 9), .ref (ρ (ρ h0 0) 10), .ref (ρ (ρ h0 0) 11), .ref (ρ (ρ h0 0) 12), .ref (ρ (ρ h0 0) 13), .ref (ρ (ρ h0 0) 14), .ref (ρ (ρ h0 0) 15), .ref (ρ (ρ h0 0) 16), .ref (ρ (ρ h0 0) 17), .ref (ρ (ρ h0 0) 18)]) := (k131 _ (tp_ne y1 ht_h0 (by decide))).trans hf_114
              refine tpk_pos (tp_in hG y1 (by decide)) hf_136 (fun q137 eq137 => ?_)
              refine va_getN (D := (dC, dI)) (ci := 10) (v := .int o25_x1) (C := RX10) (T := TX10) (N := 19) hx hb hts hfX10 hown hK hP q137 eq137 rfl 1 (by decide) (va_Nw.use rfl (hN.1 (.fieldLinkNest RX1 186 "ColdShips$World" "boils" "I" "ColdShips") nzw_52)) (fun _ h9 => h9) rfl dX1_reckon_267 ?_
              refine lv_i2l hx hb dX1_reckon_270 rfl ?_
              refine lv_lmul hx hb dX1_reckon_271 ?_
              refine lv_topl (fun z138 ez138 => ?_)
              refine lv_ldc2 (own := RX1) (v := 100000) hx hb hown (hts (.constantLong RX1 189 (100000)) wa_1365) dX1_reckon_272 ?_
              refine lv_ldiv hx hb dX1_reckon_275 (by decide) ?_
              refine lv_topl (fun z139 ez139 => ?_)
              refine va_mmin_long hx hb (by rw [hml]; exact hl.1.symm) hown (hts (.methodLink RX1 191 Lib.MathLoose.min_long.x) wa_1366) (hts (.static Lib.MathLoose.min_long.x) wa_437) (hts (.initialized "java/lang/Math") wa_71) (hts (.code Lib.MathLoose.min_long.x Lib.MathLoose.min_long.code 4 (some .long)) wa_438) (Nat.le_of_ble_eq_true rfl) (Nat.le_of_ble_eq_true rfl) (Nat.le_of_ble_eq_true rfl) (Nat.le_of_ble_eq_true rfl) dX1_reckon_276 ?_
              refine lv_topl (fun z140 ez140 => ?_)
              refine lv_lstore (lv' := [(12, .long z140), (11, .int r98), (10, .int r39), (9, .int r37), (8, .int r35), (7, .int r33), (6, .int r31), (5, .ref (ρ (ρ h0 0) 18)), (0, .ref h0), (1, .int v), (2, .int u), (3, .int a), (4, .int b)]) hx hb dX1_reckon_279 hl (by decide) rfl (fun ls hl => ?_)
              refine lv_aload_n hx hb dX1_reckon_281 rfl (lv_at hl 8 rfl) ?_
              refine lv_iload hx hb dX1_reckon_282 (lv_at hl 4 rfl) ?_
              refine lv_i2l hx hb dX1_reckon_284 rfl ?_
              refine lv_lload hx hb dX1_reckon_285 (lv_at hl 0 rfl) ?_
              refine lv_lsub hx hb dX1_reckon_287 ?_
              refine lv_topl (fun z141 ez141 => ?_)
              refine lv_aload hx hb dX1_reckon_288 (lv_at hl 7 rfl) ?_
              refine lv_iload_n hx hb dX1_reckon_290 rfl (lv_at hl 10 rfl) ?_
              refine lv_bipush (v := 7) hx hb dX1_reckon_291 (by decide) ?_
              have hf_142 : f130 (ρ (ρ h0 0) 18) = .inr (4, [.int o29_x0, .ref (ρ (ρ (ρ h0 0) 18) 1), .int o29_x2]) := (k131 _ (tp_ne y24 ht_h0 (by decide))).trans hf_109
              refine tpk_pos (tp_in hG y24 (by decide)) hf_142 (fun q143 eq143 => ?_)
              refine pz_calll (va_runV (As := [.int u, .int 7]) (rest := [.long z141, .ref h0]) ⟨hx, hb, hml, hown, hts⟩ (t_X4_at l dC dI _ Ω κ τ ν ρ L f130 hG hT (ρ (ρ h0 0) 18) u (7) y24 o29_x0 o29_x2 hf_142) (cwV 2 hts gX1_reckon_X4_at rfl rfl rfl ⟨rfl, pd_X4_at⟩ ⟨Nat.le_of_ble_eq_true rfl, Nat.le_of_ble_eq_true rfl⟩) ⟨pz_blind, va_recv hK hP (ci := 4) (q0 := q143) rfl eq143, pz_pre hP hK hD hN⟩ rfl rfl hl.1 rfl (lv_room (Nat.le_of_ble_eq_true rfl)) dX1_reckon_293 ⟨Nat.le_of_ble_eq_true rfl, Nat.le_of_ble_eq_true rfl⟩) (fun r144 hw145 => ?_)
              obtain ⟨hw145r, hw145p⟩ := hw145
              refine lv_lmul hx hb dX1_reckon_296 ?_
              refine lv_topl (fun z146 ez146 => ?_)
              refine lv_ldc2 (own := RX1) (v := 100) hx hb hown (hts (.constantLong RX1 198 (100)) wa_1367) dX1_reckon_297 ?_
              refine lv_aload_n hx hb dX1_reckon_300 rfl (lv_at hl 8 rfl) ?_
              refine va_get (D := (dC, dI)) (ci := 1) (v := .ref (ρ h0 0)) (C := RX1) (T := TX1) (N := 15) hx hb hts hfX1 hown hK hP q133 eq133 rfl 0 (by decide) (hts (.fieldLink RX1 40 "ColdShips$Planner" "world" "LColdShips$World;") wa_143) (fun _ h9 => h9) rfl dX1_reckon_301 ?_
              refine va_getN (D := (dC, dI)) (ci := 10) (v := .ref (ρ (ρ h0 0) 10)) (C := RX10) (T := TX10) (N := 19) hx hb hts hfX10 hown hK hP q137 eq137 rfl 10 (by decide) (va_Nw.use rfl (hN.1 (.fieldLinkNest RX1 80 "ColdShips$World" "ships" "[LColdShips$Ship;" "ColdShips") nzw_70)) (fun _ h9 => h9) rfl dX1_reckon_304 ?_
              refine lv_iload_n hx hb dX1_reckon_307 rfl (lv_at hl 9 rfl) ?_
              have hf_147 : f71 (ρ (ρ h0 0) 10) = .inl (κ 5, 6, .inr (.inr (.inr (.inr g46)))) := (k72 _ (tp_ne y16 ht_h0 (by decide))).trans hf_o45
              have hf_148 : f105 (ρ (ρ h0 0) 10) = .inl (κ 5, 6, .inr (.inr (.inr (.inr g46)))) := (k106 _ (tp_ne y16 ht_h0 (by decide))).trans hf_147
              have hf_149 : f130 (ρ (ρ h0 0) 10) = .inl (κ 5, 6, .inr (.inr (.inr (.inr g46)))) := (k131 _ (tp_ne y16 ht_h0 (by decide))).trans hf_148
              refine tpk_pos (tp_in hG y16 (by decide)) hf_149 (fun q150 eq150 => ?_)
              refine va_aldq hx hb hK hP q150 5 eq150 rfl (vp_in_iff.mpr ⟨by omega, by omega⟩) dX1_reckon_308 ?_
              obtain ⟨b151, hb152⟩ : ∃ b : Nat, b = ρ (ρ (ρ h0 0) 10) v.toNatClampNeg := ⟨_, rfl⟩
              have hb152t : τ b151 = 6 := by rw [hb152]; exact tpg_25 hG y16 _ (zi_cl (vp_in_iff.mpr ⟨by omega, by omega⟩))
              have hb152g : g46 v.toNatClampNeg = some b151 := by rw [hb152]; exact hf_o45e _ (zi_cl (vp_in_iff.mpr ⟨by omega, by omega⟩))
              refine W.eq (g2 := F0 m 309 ls (.ref b151 :: [.long 100, .long z146, .ref h0])) (congrArg (fun o => F0 m 309 ls (va_rf o :: [.long 100, .long z146, .ref h0])) hb152g) ?_
              refine tgk_6 hG hb152t (fun y153 y154 y154n y155 y155n y156 y156n y157 y157n y158 y158n y159 y159n => ?_)
              refine tpk_6 hT hb152t (fun o160_x1 o160_x2 o160_x3 o160_x4 o160_x5 o160_x6 o160_x10 o160_x11 o160_x12 o160_x14 hf_o160 ro160_0 ro160_1 ro160_2 => ?_)
              refine tpk_pos (tp_in hG hb152t (by decide)) hf_o160 (fun q161 eq161 => ?_)
              refine va_getN (D := (dC, dI)) (ci := 5) (v := .int o160_x1) (C := RX5) (T := TX5) (N := 17) hx hb hts hfX5 hown hK hP q161 eq161 rfl 1 (by decide) (va_Nw.use rfl (hN.1 (.fieldLinkNest RX1 200 "ColdShips$Ship" "fuel" "I" "ColdShips") nzw_25)) (fun _ h9 => h9) rfl dX1_reckon_309 ?_
              refine lv_i2l hx hb dX1_reckon_312 rfl ?_
              refine lv_lmul hx hb dX1_reckon_313 ?_
              refine lv_topl (fun z162 ez162 => ?_)
              refine lv_iload hx hb dX1_reckon_314 (lv_at hl 3 rfl) ?_
              refine lv_iload hx hb dX1_reckon_316 (lv_at hl 2 rfl) ?_
              refine lv_iadd hx hb dX1_reckon_318 ?_
              refine lv_topi (fun z163 ez163 => ?_)
              refine lv_i2l hx hb dX1_reckon_319 rfl ?_
              refine lv_lmul hx hb dX1_reckon_320 ?_
              refine lv_topl (fun z164 ez164 => ?_)
              refine lv_lsub hx hb dX1_reckon_321 ?_
              refine lv_topl (fun z165 ez165 => ?_)
              refine va_put (D := (dC, dI)) (ci := 1) (v := .long z165) (ty := .long) (C := RX1) (T := TX1) (N := 15) hx hb hts hfX1 tyX1 tyX1_ok nmX1 hown hK hP hD hS q133 eq133 rfl 8 (by decide) (hts (.fieldLink RX1 108 "ColdShips$Planner" "worth" "J") wa_1356) (fun _ h9 => h9) rfl (tyX1_ok 8 (by decide)) rfl rfl (Nat.le_of_ble_eq_true rfl) dX1_reckon_322 (tp_k (.inr (1, [.ref (ρ h0 0), .ref (ρ h0 1), .ref (ρ h0 2), .ref (ρ h0 3), .ref (ρ h0 4), .int z70, .int z104, .int r128, .long z165, .int o11_x9, .ref (ρ h0 10), .ref (ρ h0 11), .ref (ρ h0 12), .ref (ρ h0 13), .ref (ρ h0 14)])) hD (tp_in hG ht_h0 (by decide)) eq133 (fun f166 H locs hP hD hS g168 k167 => ?_))
              have hT := hT.up ht_h0 g168 k167 ⟨_, _, _, _, _, rfl, (by first | decide | omega | (omega))⟩
              have hR := hR.up ht_h0 (by decide) k167
              refine lv_aload_n hx hb dX1_reckon_325 rfl (lv_at hl 8 rfl) ?_
              refine tpk_pos (tp_in hG ht_h0 (by decide)) g168 (fun q169 eq169 => ?_)
              refine va_get (D := (dC, dI)) (ci := 1) (v := .int r128) (C := RX1) (T := TX1) (N := 15) hx hb hts hfX1 hown hK hP q169 eq169 rfl 7 (by decide) (hts (.fieldLink RX1 119 "ColdShips$Planner" "freeAt" "I") wa_1357) (fun _ h9 => h9) rfl dX1_reckon_326 ?_
              refine lv_iconst (v := (-1)) hx hb dX1_reckon_329 (by decide) ?_
              refine lv_icmp_eq (tgt := 337) hx hb dX1_reckon_330 (by decide) (fun c170 => ?_) (fun c170 => ?_)
              · have ic170 : r128.toInt = (-1) := zi_eq rfl rfl c170
                refine lv_iconst (v := 0) hx hb dX1_reckon_337 (by decide) ?_
                exact W.zret (v := 0) hx hb hr rfl (fun t ht hW => ⟨⟨0, f166, rfl, ⟨hT, hR, (by first | decide | omega), trivial⟩, by rw [ht]; exact hP, va_K.moved hW.alike hK, hD⟩, hS.F ht⟩) hS.2.2 dX1_reckon_338
              · have ic170 : r128.toInt ≠ (-1) := zi_eqf rfl rfl c170
                refine lv_iconst (v := 1) hx hb dX1_reckon_333 (by decide) ?_
                refine lv_goto (tgt := 338) hx hb dX1_reckon_334 (by decide) ?_
                exact W.zret (v := 1) hx hb hr rfl (fun t ht hW => ⟨⟨1, f166, rfl, ⟨hT, hR, (by first | decide | omega), trivial⟩, by rw [ht]; exact hP, va_K.moved hW.alike hK, hD⟩, hS.F ht⟩) hS.2.2 dX1_reckon_338
            · have ic113 : z104.toInt > r111.toInt := zi_lef rfl rfl c113
              refine lv_iconst (v := 0) hx hb dX1_reckon_207 (by decide) ?_
              exact W.zret (v := 0) hx hb hr rfl (fun t ht hW => ⟨⟨0, f105, rfl, ⟨hT, hR, (by first | decide | omega), trivial⟩, by rw [ht]; exact hP, va_K.moved hW.alike hK, hD⟩, hS.F ht⟩) hS.2.2 dX1_reckon_208
          · have ic100 : r98.toInt = (-1) := zi_nef rfl rfl c100
            refine lv_iconst (v := 0) hx hb dX1_reckon_172 (by decide) ?_
            exact W.zret (v := 0) hx hb hr rfl (fun t ht hW => ⟨⟨0, f71, rfl, ⟨hT, hR, (by first | decide | omega), trivial⟩, by rw [ht]; exact hP, va_K.moved hW.alike hK, hD⟩, hS.F ht⟩) hS.2.2 dX1_reckon_173
        · have ic79 : z70.toInt > r77.toInt := zi_lef rfl rfl c79
          refine lv_iconst (v := 0) hx hb dX1_reckon_129 (by decide) ?_
          exact W.zret (v := 0) hx hb hr rfl (fun t ht hW => ⟨⟨0, f71, rfl, ⟨hT, hR, (by first | decide | omega), trivial⟩, by rw [ht]; exact hP, va_K.moved hW.alike hK, hD⟩, hS.F ht⟩) hS.2.2 dX1_reckon_130
      · have ic66 : r35.toInt > r64.toInt := zi_lef rfl rfl c66
        refine lv_iconst (v := 0) hx hb dX1_reckon_94 (by decide) ?_
        exact W.zret (v := 0) hx hb hr rfl (fun t ht hW => ⟨⟨0, f, rfl, ⟨hT, hR, (by first | decide | omega), trivial⟩, by rw [ht]; exact hP, va_K.moved hW.alike hK, hD⟩, hS.F ht⟩) hS.2.2 dX1_reckon_95
set_option maxHeartbeats 4000000 in
set_option maxRecDepth 100000 in
theorem t_X1_keepRow (l : Launch) (dC : Nat → ClassId) (dI : Nat → Nat → Nat) (sz : Nat) (Ω : Nat → (Nat → Nat) → va_E → Prop) (κ : Nat → ClassId) (τ ν : Nat → Nat) (ρ : Nat → Nat → Nat) (L : List Nat) (f : Nat → va_E) (hG : tp_G τ ν ρ L) (hT : tp_T Ω κ τ ν ρ f) (h0 : Nat) (v : Int32) (x : Int64) (u : Int32) (ht_h0 : τ h0 = 2) : Met l yX1_keepRow wqX1_keepRow ({ frames := 2, cells := 0, slots := 0, locals := 400 }) (va_Pc [.ref h0, .int v, .long x, .int u] (pz_B dC dI (tp_K κ) (va_pl L f) sz)) (va_Qv (fun (f1 : Nat → va_E) => tp_T Ω κ τ ν ρ f1 ∧ tp_F τ [20, 21] f f1 ∧ True) (fun (f1 : Nat → va_E) (t : State) => pz_E dC dI (tp_K κ) (va_A (va_pl L f) sz) (va_pl L f1) t) (va_A (va_pl L f) sz)) 0 0 (va_A (va_pl L f) sz) := by
  refine Met.ofW (cc := cX1_keepRow) (maxL := 5) (ret := none) (by decide) rfl ?_
  intro p e s m args below meth c s₁ B hml hv
  obtain ⟨rfl, hsz, hP, hK, hD0, hN⟩ := hv
  have hx := B.exec
  have hb := B.bytes
  have hr := B.returns
  have hts := fun (w : Cond) (h : w ∈ WALL) => atoms_spec (ws := wqX1_keepRow) B.pre w (List.mem_cons_of_mem _ h)
  have hown : s.vm.findClass RX1 = some m.cls := findClass_of_methodNamed B.named
  have hlocks := B.notSynchronized
  subst hsz
  have hD := hD0.self (sz := s.heap.size)
  generalize hAe : va_A (va_pl L f) s.heap.size = A at hD ⊢
  have hA : ∀ q : Nat, s.heap.size ≤ q → A q := fun q h => by rw [← hAe]; exact Or.inr h
  have hS : va_S A s.heap s.heap [] := va_S.rf
  have hR : tp_F τ [20, 21] f f := tp_F.rf
  have hl := lv_entry ([.ref h0, .int v, .long x, .int u]) (n := 5) (Nat.le_of_ble_eq_true rfl)
  rw [lg_entry_eq]
  generalize (lg_sl ([.ref h0, .int v, .long x, .int u]) ++ List.replicate (5 - (lg_sl ([.ref h0, .int v, .long x, .int u])).length) Slot.unset).toArray = ls at hl ⊢
  have hl : lv_has ls 5 [(0, .ref h0), (1, .int v), (2, .long x), (4, .int u)] := hl
  refine lv_iload_n hx hb dX1_keepRow_0 rfl (lv_at hl 1 rfl) ?_
  refine lv_if_lt (tgt := 13) hx hb dX1_keepRow_1 (by decide) (fun c1 => ?_) (fun c1 => ?_)
  · have ic1 : v.toInt < 0 := zi_lt rfl rfl c1
    exact W.vret hx hb hr (fun t ht hW => ⟨⟨f, rfl, ⟨hT, hR, trivial⟩, by rw [ht]; exact hP, va_K.moved hW.alike hK, hD⟩, hS.F ht⟩) hS.2.2 dX1_keepRow_13
  · have ic1 : v.toInt ≥ 0 := zi_ltf rfl rfl c1
    refine lv_iload_n hx hb dX1_keepRow_4 rfl (lv_at hl 1 rfl) ?_
    refine lv_aload_n hx hb dX1_keepRow_5 rfl (lv_at hl 0 rfl) ?_
    refine tgk_2 hG ht_h0 (fun y2 y3 y3n y4 y4n y5 y5n y6 y6n y7 y7n y8 y8n y9 y9n y10 y10n y11 y11n => ?_)
    refine tpk_2 hT ht_h0 (fun o12_x5 o12_x6 o12_x7 o12_x8 o12_x9 hf_o12 ro12_0 => ?_)
    refine tpk_pos (tp_in hG ht_h0 (by decide)) hf_o12 (fun q13 eq13 => ?_)
    refine va_get (D := (dC, dI)) (ci := 1) (v := .ref (ρ h0 1)) (C := RX1) (T := TX1) (N := 15) hx hb hts hfX1 hown hK hP q13 eq13 rfl 1 (by decide) (hts (.fieldLink RX1 11 "ColdShips$Planner" "rowWorths" "[J") wa_134) (fun _ h9 => h9) rfl dX1_keepRow_6 ?_
    refine tpk_21 hT y3 y3n (fun g15 hf_o14 => ?_)
    refine tpk_pos (tp_in hG y3 (by decide)) hf_o14 (fun q16 eq16 => ?_)
    refine va_alen hx hb hK hP q16 1 eq16 rfl (rfl : Int32.ofNat 192 = (192 : Int32)) dX1_keepRow_9 ?_
    refine lv_icmp_lt (tgt := 14) hx hb dX1_keepRow_10 (by decide) (fun c17 => ?_) (fun c17 => ?_)
    · have ic17 : v.toInt < 192 := zi_lt rfl rfl c17
      refine lv_lload_n hx hb dX1_keepRow_14 rfl (lv_at hl 2 rfl) ?_
      refine lv_aload_n hx hb dX1_keepRow_15 rfl (lv_at hl 0 rfl) ?_
      refine va_get (D := (dC, dI)) (ci := 1) (v := .ref (ρ h0 1)) (C := RX1) (T := TX1) (N := 15) hx hb hts hfX1 hown hK hP q13 eq13 rfl 1 (by decide) (hts (.fieldLink RX1 11 "ColdShips$Planner" "rowWorths" "[J") wa_134) (fun _ h9 => h9) rfl dX1_keepRow_16 ?_
      refine lv_iload_n hx hb dX1_keepRow_19 rfl (lv_at hl 1 rfl) ?_
      refine va_lald hx hb hK hP q16 1 eq16 rfl (vp_in_iff.mpr ⟨by omega, by omega⟩) dX1_keepRow_20 ?_
      refine lv_topl (fun z18 ez18 => ?_)
      refine tp_join 47 (fun H locs ls stk => stk = [] ∧ va_P (dC, dI) vwCl (va_pl L f) H ∧ va_D A (va_pl L f) ∧ va_S A s.heap H locs ∧ lv_has ls 5 [(0, .ref h0), (1, .int v), (2, .long x), (4, .int u)]) ?_ (fun hj19 => ?_)
      · intro H locs ls stk hI
        refine tn_5 hI (fun e90 hP hD hS hl => ?_)
        clear hI; subst e90
        refine lv_aload_n hx hb dX1_keepRow_47 rfl (lv_at hl 0 rfl) ?_
        refine va_get (D := (dC, dI)) (ci := 1) (v := .ref (ρ h0 1)) (C := RX1) (T := TX1) (N := 15) hx hb hts hfX1 hown hK hP q13 eq13 rfl 1 (by decide) (hts (.fieldLink RX1 11 "ColdShips$Planner" "rowWorths" "[J") wa_134) (fun _ h9 => h9) rfl dX1_keepRow_48 ?_
        refine lv_iload_n hx hb dX1_keepRow_51 rfl (lv_at hl 1 rfl) ?_
        refine lv_lload_n hx hb dX1_keepRow_52 rfl (lv_at hl 2 rfl) ?_
        refine va_last hx hb hK hP hD hS q16 1 eq16 rfl (vp_in_iff.mpr ⟨by omega, by omega⟩) dX1_keepRow_53 (tp_k (.inl (κ 1, 192, .inr (.inl (vp_updL g15 v.toNatClampNeg x)))) hD (tp_in hG y3 (by decide)) eq16 (fun f20 H locs hP hD hS g22 k21 => ?_))
        have hT := hT.up y3 g22 k21 (tp_o21 y3n)
        have hR := hR.up y3 (by decide) k21
        generalize (vp_updL g15 v.toNatClampNeg x) = g23 at g22
        refine lv_aload_n hx hb dX1_keepRow_54 rfl (lv_at hl 0 rfl) ?_
        have hf_24 : f20 h0 = .inr (1, [.ref (ρ h0 0), .ref (ρ h0 1), .ref (ρ h0 2), .ref (ρ h0 3), .ref (ρ h0 4), .int o12_x5, .int o12_x6, .int o12_x7, .long o12_x8, .int o12_x9, .ref (ρ h0 10), .ref (ρ h0 11), .ref (ρ h0 12), .ref (ρ h0 13), .ref (ρ h0 14)]) := (k21 _ (tp_ne ht_h0 y3 (by decide))).trans hf_o12
        refine tpk_pos (tp_in hG ht_h0 (by decide)) hf_24 (fun q25 eq25 => ?_)
        refine va_get (D := (dC, dI)) (ci := 1) (v := .ref (ρ h0 2)) (C := RX1) (T := TX1) (N := 15) hx hb hts hfX1 hown hK hP q25 eq25 rfl 2 (by decide) (hts (.fieldLink RX1 15 "ColdShips$Planner" "rowPlaces" "[I") wa_135) (fun _ h9 => h9) rfl dX1_keepRow_55 ?_
        refine lv_iload_n hx hb dX1_keepRow_58 rfl (lv_at hl 1 rfl) ?_
        refine lv_iload hx hb dX1_keepRow_59 (lv_at hl 3 rfl) ?_
        refine tpk_20 hT y4 y4n (fun g27 hf_o26 => ?_)
        refine tpk_pos (tp_in hG y4 (by decide)) hf_o26 (fun q28 eq28 => ?_)
        refine va_iast hx hb hK hP hD hS q28 0 eq28 rfl (vp_in_iff.mpr ⟨by omega, by omega⟩) dX1_keepRow_61 (tp_k (.inl (κ 0, 192, .inl (upd g27 v.toNatClampNeg u))) hD (tp_in hG y4 (by decide)) eq28 (fun f29 H locs hP hD hS g31 k30 => ?_))
        have hT := hT.up y4 g31 k30 (tp_o20 y4n)
        have hR := hR.up y4 (by decide) k30
        generalize (upd g27 v.toNatClampNeg u) = g32 at g31
        exact W.vret hx hb hr (fun t ht hW => ⟨⟨f29, rfl, ⟨hT, hR, trivial⟩, by rw [ht]; exact hP, va_K.moved hW.alike hK, hD⟩, hS.F ht⟩) hS.2.2 dX1_keepRow_62
      · refine W.lcmp hx hb dX1_keepRow_21 ?_
        refine lv_if_gt (tgt := 47) hx hb dX1_keepRow_22 (by decide) (fun c33 => ?_) (fun c33 => ?_)
        · have ic33 : x.toInt > z18.toInt := zl_gt rfl rfl c33
          exact hj19 _ _ _ _ ⟨rfl, hP, hD, hS, lv_sub hl [0, 1, 2, 3] rfl⟩
        · have ic33 : x.toInt ≤ z18.toInt := zl_gtf rfl rfl c33
          refine lv_lload_n hx hb dX1_keepRow_25 rfl (lv_at hl 2 rfl) ?_
          refine lv_aload_n hx hb dX1_keepRow_26 rfl (lv_at hl 0 rfl) ?_
          refine va_get (D := (dC, dI)) (ci := 1) (v := .ref (ρ h0 1)) (C := RX1) (T := TX1) (N := 15) hx hb hts hfX1 hown hK hP q13 eq13 rfl 1 (by decide) (hts (.fieldLink RX1 11 "ColdShips$Planner" "rowWorths" "[J") wa_134) (fun _ h9 => h9) rfl dX1_keepRow_27 ?_
          refine lv_iload_n hx hb dX1_keepRow_30 rfl (lv_at hl 1 rfl) ?_
          refine va_lald hx hb hK hP q16 1 eq16 rfl (vp_in_iff.mpr ⟨by omega, by omega⟩) dX1_keepRow_31 ?_
          refine lv_topl (fun z34 ez34 => ?_)
          refine W.lcmp hx hb dX1_keepRow_32 ?_
          refine lv_if_ne (tgt := 62) hx hb dX1_keepRow_33 (by decide) (fun c35 => ?_) (fun c35 => ?_)
          · have ic35 : x.toInt ≠ z34.toInt := zl_ne rfl rfl c35
            exact W.vret hx hb hr (fun t ht hW => ⟨⟨f, rfl, ⟨hT, hR, trivial⟩, by rw [ht]; exact hP, va_K.moved hW.alike hK, hD⟩, hS.F ht⟩) hS.2.2 dX1_keepRow_62
          · have ic35 : x.toInt = z34.toInt := zl_nef rfl rfl c35
            refine lv_iload hx hb dX1_keepRow_36 (lv_at hl 3 rfl) ?_
            refine lv_aload_n hx hb dX1_keepRow_38 rfl (lv_at hl 0 rfl) ?_
            refine va_get (D := (dC, dI)) (ci := 1) (v := .ref (ρ h0 2)) (C := RX1) (T := TX1) (N := 15) hx hb hts hfX1 hown hK hP q13 eq13 rfl 2 (by decide) (hts (.fieldLink RX1 15 "ColdShips$Planner" "rowPlaces" "[I") wa_135) (fun _ h9 => h9) rfl dX1_keepRow_39 ?_
            refine lv_iload_n hx hb dX1_keepRow_42 rfl (lv_at hl 1 rfl) ?_
            refine tpk_20 hT y4 y4n (fun g37 hf_o36 => ?_)
            refine tpk_pos (tp_in hG y4 (by decide)) hf_o36 (fun q38 eq38 => ?_)
            refine va_iald hx hb hK hP q38 0 eq38 rfl (vp_in_iff.mpr ⟨by omega, by omega⟩) dX1_keepRow_43 ?_
            refine lv_topi (fun z39 ez39 => ?_)
            refine lv_icmp_ge (tgt := 62) hx hb dX1_keepRow_44 (by decide) (fun c40 => ?_) (fun c40 => ?_)
            · have ic40 : u.toInt ≥ z39.toInt := zi_ge rfl rfl c40
              exact W.vret hx hb hr (fun t ht hW => ⟨⟨f, rfl, ⟨hT, hR, trivial⟩, by rw [ht]; exact hP, va_K.moved hW.alike hK, hD⟩, hS.F ht⟩) hS.2.2 dX1_keepRow_62
            · have ic40 : u.toInt < z39.toInt := zi_gef rfl rfl c40
              exact hj19 _ _ _ _ ⟨rfl, hP, hD, hS, lv_sub hl [0, 1, 2, 3] rfl⟩
    · have ic17 : v.toInt ≥ 192 := zi_ltf rfl rfl c17
      exact W.vret hx hb hr (fun t ht hW => ⟨⟨f, rfl, ⟨hT, hR, trivial⟩, by rw [ht]; exact hP, va_K.moved hW.alike hK, hD⟩, hS.F ht⟩) hS.2.2 dX1_keepRow_13
set_option maxHeartbeats 4000000 in
set_option maxRecDepth 100000 in
theorem t_X1_extend6 (l : Launch) (dC : Nat → ClassId) (dI : Nat → Nat → Nat) (sz : Nat) (Ω : Nat → (Nat → Nat) → va_E → Prop) (κ : Nat → ClassId) (τ ν : Nat → Nat) (ρ : Nat → Nat → Nat) (L : List Nat) (f : Nat → va_E) (hG : tp_G τ ν ρ L) (hT : tp_T Ω κ τ ν ρ f) (h0 : Nat) (v : Int32) (dd : Int32) (u : Int32) (a : Int32) (b : Int32) (x : Int64) (a6 : Int32) (ht_h0 : τ h0 = 2) (hr_v : 0 ≤ v.toInt ∧ v.toInt ≤ 2) (hr_dd : 6 ≤ dd.toInt ∧ dd.toInt ≤ 6) : Met l yX1_extend wqX1_extend ({ frames := 2, cells := 0, slots := 0, locals := 400 }) (va_Pc [.ref h0, .int v, .int dd, .int u, .int a, .int b, .long x, .int a6] (pz_B dC dI (tp_K κ) (va_pl L f) sz)) (va_Qv (fun (f1 : Nat → va_E) => tp_T Ω κ τ ν ρ f1 ∧ tp_F τ [2, 20, 21] f f1 ∧ True) (fun (f1 : Nat → va_E) (t : State) => pz_E dC dI (tp_K κ) (va_A (va_pl L f) sz) (va_pl L f1) t) (va_A (va_pl L f) sz)) 0 0 (va_A (va_pl L f) sz) := by
  refine Met.ofW (cc := cX1_extend) (maxL := 14) (ret := none) (by decide) rfl ?_
  intro p e s m args below meth c s₁ B hml hv
  obtain ⟨rfl, hsz, hP, hK, hD0, hN⟩ := hv
  have hx := B.exec
  have hb := B.bytes
  have hr := B.returns
  have hts := fun (w : Cond) (h : w ∈ WALL) => atoms_spec (ws := wqX1_extend) B.pre w (List.mem_cons_of_mem _ h)
  have hown : s.vm.findClass RX1 = some m.cls := findClass_of_methodNamed B.named
  have hlocks := B.notSynchronized
  subst hsz
  have hD := hD0.self (sz := s.heap.size)
  generalize hAe : va_A (va_pl L f) s.heap.size = A at hD ⊢
  have hA : ∀ q : Nat, s.heap.size ≤ q → A q := fun q h => by rw [← hAe]; exact Or.inr h
  have hS : va_S A s.heap s.heap [] := va_S.rf
  have hR : tp_F τ [2, 20, 21] f f := tp_F.rf
  have hl := lv_entry ([.ref h0, .int v, .int dd, .int u, .int a, .int b, .long x, .int a6]) (n := 14) (Nat.le_of_ble_eq_true rfl)
  rw [lg_entry_eq]
  generalize (lg_sl ([.ref h0, .int v, .int dd, .int u, .int a, .int b, .long x, .int a6]) ++ List.replicate (14 - (lg_sl ([.ref h0, .int v, .int dd, .int u, .int a, .int b, .long x, .int a6])).length) Slot.unset).toArray = ls at hl ⊢
  have hl : lv_has ls 14 [(0, .ref h0), (1, .int v), (2, .int dd), (3, .int u), (4, .int a), (5, .int b), (6, .long x), (8, .int a6)] := hl
  refine lv_iload_n hx hb dX1_extend_0 rfl (lv_at hl 2 rfl) ?_
  refine lv_bipush (v := 6) hx hb dX1_extend_1 (by decide) ?_
  refine lv_icmp_lt (tgt := 7) hx hb dX1_extend_3 (by decide) (fun c1 => ?_) (fun c1 => ?_)
  · have ic1 : dd.toInt < 6 := zi_lt rfl rfl c1
    exfalso; omega
  · have ic1 : dd.toInt ≥ 6 := zi_ltf rfl rfl c1
    exact W.vret hx hb hr (fun t ht hW => ⟨⟨f, rfl, ⟨hT, hR, trivial⟩, by rw [ht]; exact hP, va_K.moved hW.alike hK, hD⟩, hS.F ht⟩) hS.2.2 dX1_extend_6
set_option maxHeartbeats 4000000 in
set_option maxRecDepth 100000 in
theorem t_X1_extend5 (l : Launch) (dC : Nat → ClassId) (dI : Nat → Nat → Nat) (sz : Nat) (Ω : Nat → (Nat → Nat) → va_E → Prop) (κ : Nat → ClassId) (τ ν : Nat → Nat) (ρ : Nat → Nat → Nat) (L : List Nat) (f : Nat → va_E) (hG : tp_G τ ν ρ L) (hT : tp_T Ω κ τ ν ρ f) (h0 : Nat) (v : Int32) (dd : Int32) (u : Int32) (a : Int32) (b : Int32) (x : Int64) (a6 : Int32) (ht_h0 : τ h0 = 2) (hr_v : 0 ≤ v.toInt ∧ v.toInt ≤ 2) (hr_dd : 5 ≤ dd.toInt ∧ dd.toInt ≤ 5) : Met l yX1_extend wqX1_extend ({ frames := 5, cells := 0, slots := 0, locals := 1600 }) (va_Pc [.ref h0, .int v, .int dd, .int u, .int a, .int b, .long x, .int a6] (pz_B dC dI (tp_K κ) (va_pl L f) sz)) (va_Qv (fun (f1 : Nat → va_E) => tp_T Ω κ τ ν ρ f1 ∧ tp_F τ [2, 20, 21] f f1 ∧ True) (fun (f1 : Nat → va_E) (t : State) => pz_E dC dI (tp_K κ) (va_A (va_pl L f) sz) (va_pl L f1) t) (va_A (va_pl L f) sz)) 0 0 (va_A (va_pl L f) sz) := by
  refine Met.ofW (cc := cX1_extend) (maxL := 14) (ret := none) (by decide) rfl ?_
  intro p e s m args below meth c s₁ B hml hv
  obtain ⟨rfl, hsz, hP, hK, hD0, hN⟩ := hv
  have hx := B.exec
  have hb := B.bytes
  have hr := B.returns
  have hts := fun (w : Cond) (h : w ∈ WALL) => atoms_spec (ws := wqX1_extend) B.pre w (List.mem_cons_of_mem _ h)
  have hown : s.vm.findClass RX1 = some m.cls := findClass_of_methodNamed B.named
  have hlocks := B.notSynchronized
  subst hsz
  have hD := hD0.self (sz := s.heap.size)
  generalize hAe : va_A (va_pl L f) s.heap.size = A at hD ⊢
  have hA : ∀ q : Nat, s.heap.size ≤ q → A q := fun q h => by rw [← hAe]; exact Or.inr h
  have hS : va_S A s.heap s.heap [] := va_S.rf
  have hR : tp_F τ [2, 20, 21] f f := tp_F.rf
  have hl := lv_entry ([.ref h0, .int v, .int dd, .int u, .int a, .int b, .long x, .int a6]) (n := 14) (Nat.le_of_ble_eq_true rfl)
  rw [lg_entry_eq]
  generalize (lg_sl ([.ref h0, .int v, .int dd, .int u, .int a, .int b, .long x, .int a6]) ++ List.replicate (14 - (lg_sl ([.ref h0, .int v, .int dd, .int u, .int a, .int b, .long x, .int a6])).length) Slot.unset).toArray = ls at hl ⊢
  have hl : lv_has ls 14 [(0, .ref h0), (1, .int v), (2, .int dd), (3, .int u), (4, .int a), (5, .int b), (6, .long x), (8, .int a6)] := hl
  refine lv_iload_n hx hb dX1_extend_0 rfl (lv_at hl 2 rfl) ?_
  refine lv_bipush (v := 6) hx hb dX1_extend_1 (by decide) ?_
  refine lv_icmp_lt (tgt := 7) hx hb dX1_extend_3 (by decide) (fun c1 => ?_) (fun c1 => ?_)
  · have ic1 : dd.toInt < 6 := zi_lt rfl rfl c1
    refine lv_iconst (v := 0) hx hb dX1_extend_7 (by decide) ?_
    refine lv_istore (lv' := [(9, .int 0), (0, .ref h0), (1, .int v), (2, .int dd), (3, .int u), (4, .int a), (5, .int b), (6, .long x), (8, .int a6)]) hx hb dX1_extend_8 hl (by decide) rfl (fun ls hl => ?_)
    refine pz_loop (fun n0 H locs ls => ∃ f3 : Nat → va_E, ∃ w2 : Int32, n0 = (6 - (w2.toInt)).toNat ∧ tp_T Ω κ τ ν ρ f3 ∧ tp_F τ [2, 20, 21] f f3 ∧ (0 ≤ w2.toInt ∧ w2.toInt ≤ 6) ∧ va_P (dC, dI) vwCl (va_pl L f3) H ∧ va_D A (va_pl L f3) ∧ va_S A s.heap H locs ∧ lv_has ls 14 [(9, .int w2), (0, .ref h0), (1, .int v), (2, .int dd), (3, .int u), (4, .int a), (5, .int b), (6, .long x), (8, .int a6)]) ?_ _ _ _ _ ⟨f, 0, rfl, hT, hR, (by have : (0 : Int32).toInt = 0 := rfl; omega), hP, hD, hS, lv_sub hl [0, 1, 2, 3, 4, 5, 6, 7, 8] rfl⟩
    intro n0 H locs ls hI ih4
    refine Exists.elim hI (fun f3 hE90 => Exists.elim hE90 (fun w2 hE91 => tn_8 hE91 (fun hn5 hT hR rw2 hP hD hS hl => ?_)))
    clear hE91 hE90 hI
    refine lv_iload hx hb dX1_extend_10 (lv_at hl 0 rfl) ?_
    refine lv_aload_n hx hb dX1_extend_12 rfl (lv_at hl 1 rfl) ?_
    refine tgk_2 hG ht_h0 (fun y6 y7 y7n y8 y8n y9 y9n y10 y10n y11 y11n y12 y12n y13 y13n y14 y14n y15 y15n => ?_)
    refine tpk_2 hT ht_h0 (fun o16_x5 o16_x6 o16_x7 o16_x8 o16_x9 hf_o16 ro16_0 => ?_)
    refine tpk_pos (tp_in hG ht_h0 (by decide)) hf_o16 (fun q17 eq17 => ?_)
    refine va_get (D := (dC, dI)) (ci := 1) (v := .ref (ρ h0 0)) (C := RX1) (T := TX1) (N := 15) hx hb hts hfX1 hown hK hP q17 eq17 rfl 0 (by decide) (hts (.fieldLink RX1 40 "ColdShips$Planner" "world" "LColdShips$World;") wa_143) (fun _ h9 => h9) rfl dX1_extend_13 ?_
    refine tgk_11 hG y6 (fun y18 y18n y19 y19n y20 y21 y22 y23 y24 y25 y26 y26w y26m y27 y27w y27m y28 y28w y28m y29 y29w y29m => ?_)
    refine tpk_11 hT y6 (fun o30_x0 o30_x1 o30_x2 o30_x3 o30_x4 o30_x5 o30_x6 hf_o30 ro30_0 ro30_1 ro30_2 ro30_3 => ?_)
    refine tpk_pos (tp_in hG y6 (by decide)) hf_o30 (fun q31 eq31 => ?_)
    refine va_getN (D := (dC, dI)) (ci := 10) (v := .ref (ρ (ρ h0 0) 18)) (C := RX10) (T := TX10) (N := 19) hx hb hts hfX10 hown hK hP q31 eq31 rfl 18 (by decide) (va_Nw.use rfl (hN.1 (.fieldLinkNest RX1 50 "ColdShips$World" "cargoes" "LColdShips$Rows;" "ColdShips") nzw_86)) (fun _ h9 => h9) rfl dX1_extend_16 ?_
    refine tgk_5 hG y29 (fun y32 y32n y33a y33b y33c => ?_)
    refine tpk_5 hT y29 (fun o34_x0 o34_x2 hf_o34 ro34_0 ro34_1 => ?_)
    refine tpk_pos (tp_in hG y29 (by decide)) hf_o34 (fun q35 eq35 => ?_)
    refine va_getN (D := (dC, dI)) (ci := 4) (v := .int o34_x2) (C := RX4) (T := TX4) (N := 3) hx hb hts hfX4 hown hK hP q35 eq35 rfl 2 (by decide) (va_Nw.use rfl (hN.1 (.fieldLinkNest RX1 54 "ColdShips$Rows" "size" "I" "ColdShips") nzw_1)) (fun _ h9 => h9) rfl dX1_extend_19 ?_
    refine lv_icmp_ge (tgt := 137) hx hb dX1_extend_22 (by decide) (fun c36 => ?_) (fun c36 => ?_)
    · have ic36 : w2.toInt ≥ o34_x2.toInt := zi_ge rfl rfl c36
      exact W.vret hx hb hr (fun t ht hW => ⟨⟨f3, rfl, ⟨hT, hR, trivial⟩, by rw [ht]; exact hP, va_K.moved hW.alike hK, hD⟩, hS.F ht⟩) hS.2.2 dX1_extend_137
    · have ic36 : w2.toInt < o34_x2.toInt := zi_gef rfl rfl c36
      refine lv_iload hx hb dX1_extend_25 (lv_at hl 0 rfl) ?_
      refine lv_bipush (v := 6) hx hb dX1_extend_27 (by decide) ?_
      refine lv_icmp_ge (tgt := 137) hx hb dX1_extend_29 (by decide) (fun c37 => ?_) (fun c37 => ?_)
      · have ic37 : w2.toInt ≥ 6 := zi_ge rfl rfl c37
        exact W.vret hx hb hr (fun t ht hW => ⟨⟨f3, rfl, ⟨hT, hR, trivial⟩, by rw [ht]; exact hP, va_K.moved hW.alike hK, hD⟩, hS.F ht⟩) hS.2.2 dX1_extend_137
      · have ic37 : w2.toInt < 6 := zi_gef rfl rfl c37
        refine lv_iload_n hx hb dX1_extend_32 rfl (lv_at hl 4 rfl) ?_
        refine lv_iload hx hb dX1_extend_33 (lv_at hl 0 rfl) ?_
        refine lv_ishr hx hb dX1_extend_35 ?_
        refine lv_topi (fun z38 ez38 => ?_)
        refine lv_iconst (v := 1) hx hb dX1_extend_36 (by decide) ?_
        refine lv_iand hx hb dX1_extend_37 ?_
        refine lv_topi (fun z39 ez39 => ?_)
        have iz39 : 0 ≤ z39.toInt ∧ z39.toInt ≤ 1 := zb_mask ez39 (by decide)
        refine lv_if_ne (tgt := 131) hx hb dX1_extend_38 (by decide) (fun c40 => ?_) (fun c40 => ?_)
        · have ic40 : z39.toInt ≠ 0 := zi_ne rfl rfl c40
          obtain ⟨z41, ez41⟩ : ∃ y : Int32, y = w2 + 1 := ⟨_, rfl⟩
          refine lv_iinc (v := z41) (lv' := [(9, .int z41), (0, .ref h0), (1, .int v), (2, .int dd), (3, .int u), (4, .int a), (5, .int b), (6, .long x), (8, .int a6)]) hx hb dX1_extend_131 hl (k := 0) rfl (by rw [ez41]; rfl) (by decide) rfl (fun ls hl => ?_)
          have iz41 : z41.toInt = w2.toInt + 1 := zi_add ez41 rfl rfl (by omega) (by omega)
          refine lv_goto (tgt := 10) hx hb dX1_extend_134 (by decide) ?_
          exact ih4 _ _ _ _ (by rw [hn5]; omega) ⟨f3, z41, rfl, hT, hR, (by omega), hP, hD, hS, lv_sub hl [0, 1, 2, 3, 4, 5, 6, 7, 8] rfl⟩
        · have ic40 : z39.toInt = 0 := zi_nef rfl rfl c40
          refine lv_aload_n hx hb dX1_extend_41 rfl (lv_at hl 1 rfl) ?_
          refine lv_iload_n hx hb dX1_extend_42 rfl (lv_at hl 2 rfl) ?_
          refine lv_iload hx hb dX1_extend_43 (lv_at hl 0 rfl) ?_
          refine lv_iload hx hb dX1_extend_45 (lv_at hl 5 rfl) ?_
          refine lv_iload hx hb dX1_extend_47 (lv_at hl 6 rfl) ?_
          have hFc := tp_fr hD hS hA
          refine va_calli (va_runV (As := [.int v, .int w2, .int a, .int b]) (rest := []) ⟨hx, hb, hml, hown, hts⟩ (t_X1_reckon l dC dI _ Ω κ τ ν ρ L f3 hG hT h0 v w2 a b ht_h0 (by first | decide | omega)) (cwV 4 hts gX1_extend_X1_reckon rfl rfl rfl ⟨rfl, pd_X1_reckon⟩ ⟨Nat.le_of_ble_eq_true rfl, Nat.le_of_ble_eq_true rfl⟩) ⟨pz_blind, va_recv hK hP (ci := 1) (q0 := q17) rfl eq17, pz_pre hP hK hD hN⟩ rfl rfl hl.1 rfl (lv_room (Nat.le_of_ble_eq_true rfl)) dX1_extend_49 ⟨Nat.le_of_ble_eq_true rfl, Nat.le_of_ble_eq_true rfl⟩) hS (fun q _ h => hFc q h) hFc (fun r42 f44 t H1 locs ht hvm hw43 hB hz1 hk1 hS => ?_)
          refine tn_4 hw43 (fun hT hF45 hw43r hw43p => ?_); clear hw43
          have hR := hR.then hF45 (by decide)
          have hP := hB.1; rw [ht] at hP; have hD := tp_ad f44 hD; clear hB hFc hz1 hk1; subst ht; generalize t.heap = H at hP hS ⊢
          refine lv_if_eq (tgt := 131) hx hb dX1_extend_52 (by decide) (fun c46 => ?_) (fun c46 => ?_)
          · have ic46 : r42.toInt = 0 := zi_eq rfl rfl c46
            obtain ⟨z47, ez47⟩ : ∃ y : Int32, y = w2 + 1 := ⟨_, rfl⟩
            refine lv_iinc (v := z47) (lv' := [(9, .int z47), (0, .ref h0), (1, .int v), (2, .int dd), (3, .int u), (4, .int a), (5, .int b), (6, .long x), (8, .int a6)]) hx hb dX1_extend_131 hl (k := 0) rfl (by rw [ez47]; rfl) (by decide) rfl (fun ls hl => ?_)
            have iz47 : z47.toInt = w2.toInt + 1 := zi_add ez47 rfl rfl (by omega) (by omega)
            refine lv_goto (tgt := 10) hx hb dX1_extend_134 (by decide) ?_
            exact ih4 _ _ _ _ (by rw [hn5]; omega) ⟨f44, z47, rfl, hT, hR, (by omega), hP, hD, hS, lv_sub hl [0, 1, 2, 3, 4, 5, 6, 7, 8] rfl⟩
          · have ic46 : r42.toInt ≠ 0 := zi_eqf rfl rfl c46
            refine lv_iload_n hx hb dX1_extend_55 rfl (lv_at hl 4 rfl) ?_
            refine lv_iconst (v := 1) hx hb dX1_extend_56 (by decide) ?_
            refine lv_iload hx hb dX1_extend_57 (lv_at hl 0 rfl) ?_
            refine lv_ishl hx hb dX1_extend_59 ?_
            refine lv_topi (fun z48 ez48 => ?_)
            have iz48 : 1 ≤ z48.toInt ∧ z48.toInt ≤ 32 := zb_shl5 ez48 rfl (by omega) (by omega)
            refine lv_ior hx hb dX1_extend_60 ?_
            refine lv_topi (fun z49 ez49 => ?_)
            refine lv_istore (lv' := [(10, .int z49), (9, .int w2), (0, .ref h0), (1, .int v), (2, .int dd), (3, .int u), (4, .int a), (5, .int b), (6, .long x), (8, .int a6)]) hx hb dX1_extend_61 hl (by decide) rfl (fun ls hl => ?_)
            refine lv_iload hx hb dX1_extend_63 (lv_at hl 9 rfl) ?_
            refine lv_iload_n hx hb dX1_extend_65 rfl (lv_at hl 4 rfl) ?_
            refine lv_iconst (v := 3) hx hb dX1_extend_66 (by decide) ?_
            refine lv_iconst (v := 5) hx hb dX1_extend_67 (by decide) ?_
            refine lv_iload hx hb dX1_extend_68 (lv_at hl 1 rfl) ?_
            refine lv_isub hx hb dX1_extend_70 ?_
            refine lv_topi (fun z50 ez50 => ?_)
            have iz50 : z50.toInt = 5 - w2.toInt := zi_sub ez50 rfl rfl (by omega) (by omega)
            refine lv_imul hx hb dX1_extend_71 ?_
            refine lv_topi (fun z51 ez51 => ?_)
            have iz51 : z51.toInt = 3 * z50.toInt := zi_mul ez51 rfl rfl (by omega) (by omega)
            refine lv_ishl hx hb dX1_extend_72 ?_
            refine lv_topi (fun z52 ez52 => ?_)
            refine lv_ior hx hb dX1_extend_73 ?_
            refine lv_topi (fun z53 ez53 => ?_)
            refine lv_istore (lv' := [(11, .int z53), (10, .int z49), (9, .int w2), (0, .ref h0), (1, .int v), (2, .int dd), (3, .int u), (4, .int a), (5, .int b), (6, .long x), (8, .int a6)]) hx hb dX1_extend_74 hl (by decide) rfl (fun ls hl => ?_)
            refine lv_lload hx hb dX1_extend_76 (lv_at hl 9 rfl) ?_
            refine lv_aload_n hx hb dX1_extend_78 rfl (lv_at hl 3 rfl) ?_
            refine tpk_2 hT ht_h0 (fun o54_x5 o54_x6 o54_x7 o54_x8 o54_x9 hf_o54 ro54_0 => ?_)
            refine tpk_pos (tp_in hG ht_h0 (by decide)) hf_o54 (fun q55 eq55 => ?_)
            refine va_get (D := (dC, dI)) (ci := 1) (v := .long o54_x8) (C := RX1) (T := TX1) (N := 15) hx hb hts hfX1 hown hK hP q55 eq55 rfl 8 (by decide) (hts (.fieldLink RX1 108 "ColdShips$Planner" "worth" "J") wa_1356) (fun _ h9 => h9) rfl dX1_extend_79 ?_
            refine lv_ladd hx hb dX1_extend_82 ?_
            refine lv_topl (fun z56 ez56 => ?_)
            refine lv_lstore (lv' := [(12, .long z56), (11, .int z53), (10, .int z49), (9, .int w2), (0, .ref h0), (1, .int v), (2, .int dd), (3, .int u), (4, .int a), (5, .int b), (6, .long x), (8, .int a6)]) hx hb dX1_extend_83 hl (by decide) rfl (fun ls hl => ?_)
            refine lv_aload_n hx hb dX1_extend_85 rfl (lv_at hl 4 rfl) ?_
            refine lv_iload_n hx hb dX1_extend_86 rfl (lv_at hl 5 rfl) ?_
            refine lv_bipush (v := 64) hx hb dX1_extend_87 (by decide) ?_
            refine lv_imul hx hb dX1_extend_89 ?_
            refine lv_topi (fun z57 ez57 => ?_)
            have iz57 : z57.toInt = v.toInt * 64 := zi_mul ez57 rfl rfl (by omega) (by omega)
            refine lv_iload hx hb dX1_extend_90 (lv_at hl 2 rfl) ?_
            refine lv_iadd hx hb dX1_extend_92 ?_
            refine lv_topi (fun z58 ez58 => ?_)
            refine lv_lload hx hb dX1_extend_93 (lv_at hl 0 rfl) ?_
            refine lv_iload hx hb dX1_extend_95 (lv_at hl 1 rfl) ?_
            have hFc := tp_fr hD hS hA
            refine va_callv (va_runV (As := [.int z58, .long z56, .int z53]) (rest := []) ⟨hx, hb, hml, hown, hts⟩ (t_X1_keepRow l dC dI _ Ω κ τ ν ρ L f44 hG hT h0 z58 z56 z53 ht_h0) (cwV 3 hts gX1_extend_X1_keepRow rfl rfl rfl ⟨rfl, pd_X1_keepRow⟩ ⟨Nat.le_of_ble_eq_true rfl, Nat.le_of_ble_eq_true rfl⟩) ⟨pz_blind, va_recv hK hP (ci := 1) (q0 := q55) rfl eq55, pz_pre hP hK hD hN⟩ rfl rfl hl.1 rfl (lv_room (Nat.le_of_ble_eq_true rfl)) dX1_extend_97 ⟨Nat.le_of_ble_eq_true rfl, Nat.le_of_ble_eq_true rfl⟩) hS (fun q _ h => hFc q h) hFc (fun f61 t H1 locs ht hvm hw60 hB hz1 hk1 hS => ?_)
            refine tn_3 hw60 (fun hT hF62 hw60p => ?_); clear hw60
            have hR := hR.then hF62 (by decide)
            have hP := hB.1; rw [ht] at hP; have hD := tp_ad f61 hD; clear hB hFc hz1 hk1; subst ht; generalize t.heap = H at hP hS ⊢
            refine lv_aload_n hx hb dX1_extend_100 rfl (lv_at hl 4 rfl) ?_
            refine lv_iload_n hx hb dX1_extend_101 rfl (lv_at hl 5 rfl) ?_
            refine lv_iload_n hx hb dX1_extend_102 rfl (lv_at hl 6 rfl) ?_
            refine lv_iconst (v := 1) hx hb dX1_extend_103 (by decide) ?_
            refine lv_iadd hx hb dX1_extend_104 ?_
            refine lv_topi (fun z63 ez63 => ?_)
            have iz63 : z63.toInt = dd.toInt + 1 := zi_add ez63 rfl rfl (by omega) (by omega)
            refine lv_iload hx hb dX1_extend_105 (lv_at hl 2 rfl) ?_
            refine lv_aload_n hx hb dX1_extend_107 rfl (lv_at hl 4 rfl) ?_
            have hf_64 : f61 h0 = .inr (1, [.ref (ρ h0 0), .ref (ρ h0 1), .ref (ρ h0 2), .ref (ρ h0 3), .ref (ρ h0 4), .int o54_x5, .int o54_x6, .int o54_x7, .long o54_x8, .int o54_x9, .ref (ρ h0 10), .ref (ρ h0 11), .ref (ρ h0 12), .ref (ρ h0 13), .ref (ρ h0 14)]) := (hF62 _ (by rw [ht_h0]; decide)).trans hf_o54
            refine tpk_pos (tp_in hG ht_h0 (by decide)) hf_64 (fun q65 eq65 => ?_)
            refine va_get (D := (dC, dI)) (ci := 1) (v := .ref (ρ h0 0)) (C := RX1) (T := TX1) (N := 15) hx hb hts hfX1 hown hK hP q65 eq65 rfl 0 (by decide) (hts (.fieldLink RX1 40 "ColdShips$Planner" "world" "LColdShips$World;") wa_143) (fun _ h9 => h9) rfl dX1_extend_108 ?_
            have hf_66 : f44 (ρ h0 0) = .inr (10, [.int o30_x0, .int o30_x1, .int o30_x2, .int o30_x3, .int o30_x4, .int o30_x5, .int o30_x6, .ref (ρ (ρ h0 0) 7), .ref (ρ (ρ h0 0) 8), .ref (ρ (ρ h0 0) 9), .ref (ρ (ρ h0 0) 10), .ref (ρ (ρ h0 0) 11), .ref (ρ (ρ h0 0) 12), .ref (ρ (ρ h0 0) 13), .ref (ρ (ρ h0 0) 14), .ref (ρ (ρ h0 0) 15), .ref (ρ (ρ h0 0) 16), .ref (ρ (ρ h0 0) 17), .ref (ρ (ρ h0 0) 18)]) := (hF45 _ (by rw [y6]; decide)).trans hf_o30
            have hf_67 : f61 (ρ h0 0) = .inr (10, [.int o30_x0, .int o30_x1, .int o30_x2, .int o30_x3, .int o30_x4, .int o30_x5, .int o30_x6, .ref (ρ (ρ h0 0) 7), .ref (ρ (ρ h0 0) 8), .ref (ρ (ρ h0 0) 9), .ref (ρ (ρ h0 0) 10), .ref (ρ (ρ h0 0) 11), .ref (ρ (ρ h0 0) 12), .ref (ρ (ρ h0 0) 13), .ref (ρ (ρ h0 0) 14), .ref (ρ (ρ h0 0) 15), .ref (ρ (ρ h0 0) 16), .ref (ρ (ρ h0 0) 17), .ref (ρ (ρ h0 0) 18)]) := (hF62 _ (by rw [y6]; decide)).trans hf_66
            refine tpk_pos (tp_in hG y6 (by decide)) hf_67 (fun q68 eq68 => ?_)
            refine va_getN (D := (dC, dI)) (ci := 10) (v := .ref (ρ (ρ h0 0) 18)) (C := RX10) (T := TX10) (N := 19) hx hb hts hfX10 hown hK hP q68 eq68 rfl 18 (by decide) (va_Nw.use rfl (hN.1 (.fieldLinkNest RX1 50 "ColdShips$World" "cargoes" "LColdShips$Rows;" "ColdShips") nzw_86)) (fun _ h9 => h9) rfl dX1_extend_111 ?_
            refine lv_iload hx hb dX1_extend_114 (lv_at hl 3 rfl) ?_
            refine lv_iconst (v := 1) hx hb dX1_extend_116 (by decide) ?_
            have hf_69 : f44 (ρ (ρ h0 0) 18) = .inr (4, [.int o34_x0, .ref (ρ (ρ (ρ h0 0) 18) 1), .int o34_x2]) := (hF45 _ (by rw [y29]; decide)).trans hf_o34
            have hf_70 : f61 (ρ (ρ h0 0) 18) = .inr (4, [.int o34_x0, .ref (ρ (ρ (ρ h0 0) 18) 1), .int o34_x2]) := (hF62 _ (by rw [y29]; decide)).trans hf_69
            refine tpk_pos (tp_in hG y29 (by decide)) hf_70 (fun q71 eq71 => ?_)
            refine pz_calli (va_runV (As := [.int w2, .int 1]) (rest := [.int z49, .int z63, .int v, .ref h0]) ⟨hx, hb, hml, hown, hts⟩ (t_X4_number l dC dI _ Ω κ τ ν ρ L f61 hG hT (ρ (ρ h0 0) 18) w2 (1) y29) (cwV 2 hts gX1_extend_X4_number rfl rfl rfl ⟨rfl, pd_X4_number⟩ ⟨Nat.le_of_ble_eq_true rfl, Nat.le_of_ble_eq_true rfl⟩) ⟨pz_blind, va_recv hK hP (ci := 4) (q0 := q71) rfl eq71, pz_pre hP hK hD hN⟩ rfl rfl hl.1 rfl (lv_room (Nat.le_of_ble_eq_true rfl)) dX1_extend_117 ⟨Nat.le_of_ble_eq_true rfl, Nat.le_of_ble_eq_true rfl⟩) (fun r72 hw73 => ?_)
            obtain ⟨hw73r, hw73p⟩ := hw73
            refine lv_aload_n hx hb dX1_extend_120 rfl (lv_at hl 4 rfl) ?_
            refine va_get (D := (dC, dI)) (ci := 1) (v := .int o54_x7) (C := RX1) (T := TX1) (N := 15) hx hb hts hfX1 hown hK hP q65 eq65 rfl 7 (by decide) (hts (.fieldLink RX1 119 "ColdShips$Planner" "freeAt" "I") wa_1357) (fun _ h9 => h9) rfl dX1_extend_121 ?_
            refine lv_lload hx hb dX1_extend_124 (lv_at hl 0 rfl) ?_
            refine lv_iload hx hb dX1_extend_126 (lv_at hl 1 rfl) ?_
            have hFc := tp_fr hD hS hA
            refine va_callv (va_runV (As := [.int v, .int z63, .int z49, .int r72, .int o54_x7, .long z56, .int z53]) (rest := []) ⟨hx, hb, hml, hown, hts⟩ (t_X1_extend6 l dC dI _ Ω κ τ ν ρ L f61 hG hT h0 v z63 z49 r72 o54_x7 z56 z53 ht_h0 (by first | decide | omega) (by first | decide | omega)) (cwV 7 hts gX1_extend_X1_extend rfl rfl rfl ⟨rfl, pd_X1_extend⟩ ⟨Nat.le_of_ble_eq_true rfl, Nat.le_of_ble_eq_true rfl⟩) ⟨pz_blind, va_recv hK hP (ci := 1) (q0 := q65) rfl eq65, pz_pre hP hK hD hN⟩ rfl rfl hl.1 rfl (lv_room (Nat.le_of_ble_eq_true rfl)) dX1_extend_128 ⟨Nat.le_of_ble_eq_true rfl, Nat.le_of_ble_eq_true rfl⟩) hS (fun q _ h => hFc q h) hFc (fun f76 t H1 locs ht hvm hw75 hB hz1 hk1 hS => ?_)
            refine tn_3 hw75 (fun hT hF77 hw75p => ?_); clear hw75
            have hR := hR.then hF77 (by decide)
            have hP := hB.1; rw [ht] at hP; have hD := tp_ad f76 hD; clear hB hFc hz1 hk1; subst ht; generalize t.heap = H at hP hS ⊢
            obtain ⟨z78, ez78⟩ : ∃ y : Int32, y = w2 + 1 := ⟨_, rfl⟩
            refine lv_iinc (v := z78) (lv' := [(9, .int z78), (12, .long z56), (11, .int z53), (10, .int z49), (0, .ref h0), (1, .int v), (2, .int dd), (3, .int u), (4, .int a), (5, .int b), (6, .long x), (8, .int a6)]) hx hb dX1_extend_131 hl (k := 3) rfl (by rw [ez78]; rfl) (by decide) rfl (fun ls hl => ?_)
            have iz78 : z78.toInt = w2.toInt + 1 := zi_add ez78 rfl rfl (by omega) (by omega)
            refine lv_goto (tgt := 10) hx hb dX1_extend_134 (by decide) ?_
            exact ih4 _ _ _ _ (by rw [hn5]; omega) ⟨f76, z78, rfl, hT, hR, (by omega), hP, hD, hS, lv_sub hl [0, 4, 5, 6, 7, 8, 9, 10, 11] rfl⟩
  · have ic1 : dd.toInt ≥ 6 := zi_ltf rfl rfl c1
    exfalso; omega
set_option maxHeartbeats 4000000 in
set_option maxRecDepth 100000 in
theorem t_X1_extend4 (l : Launch) (dC : Nat → ClassId) (dI : Nat → Nat → Nat) (sz : Nat) (Ω : Nat → (Nat → Nat) → va_E → Prop) (κ : Nat → ClassId) (τ ν : Nat → Nat) (ρ : Nat → Nat → Nat) (L : List Nat) (f : Nat → va_E) (hG : tp_G τ ν ρ L) (hT : tp_T Ω κ τ ν ρ f) (h0 : Nat) (v : Int32) (dd : Int32) (u : Int32) (a : Int32) (b : Int32) (x : Int64) (a6 : Int32) (ht_h0 : τ h0 = 2) (hr_v : 0 ≤ v.toInt ∧ v.toInt ≤ 2) (hr_dd : 4 ≤ dd.toInt ∧ dd.toInt ≤ 4) : Met l yX1_extend wqX1_extend ({ frames := 6, cells := 0, slots := 0, locals := 2000 }) (va_Pc [.ref h0, .int v, .int dd, .int u, .int a, .int b, .long x, .int a6] (pz_B dC dI (tp_K κ) (va_pl L f) sz)) (va_Qv (fun (f1 : Nat → va_E) => tp_T Ω κ τ ν ρ f1 ∧ tp_F τ [2, 20, 21] f f1 ∧ True) (fun (f1 : Nat → va_E) (t : State) => pz_E dC dI (tp_K κ) (va_A (va_pl L f) sz) (va_pl L f1) t) (va_A (va_pl L f) sz)) 0 0 (va_A (va_pl L f) sz) := by
  refine Met.ofW (cc := cX1_extend) (maxL := 14) (ret := none) (by decide) rfl ?_
  intro p e s m args below meth c s₁ B hml hv
  obtain ⟨rfl, hsz, hP, hK, hD0, hN⟩ := hv
  have hx := B.exec
  have hb := B.bytes
  have hr := B.returns
  have hts := fun (w : Cond) (h : w ∈ WALL) => atoms_spec (ws := wqX1_extend) B.pre w (List.mem_cons_of_mem _ h)
  have hown : s.vm.findClass RX1 = some m.cls := findClass_of_methodNamed B.named
  have hlocks := B.notSynchronized
  subst hsz
  have hD := hD0.self (sz := s.heap.size)
  generalize hAe : va_A (va_pl L f) s.heap.size = A at hD ⊢
  have hA : ∀ q : Nat, s.heap.size ≤ q → A q := fun q h => by rw [← hAe]; exact Or.inr h
  have hS : va_S A s.heap s.heap [] := va_S.rf
  have hR : tp_F τ [2, 20, 21] f f := tp_F.rf
  have hl := lv_entry ([.ref h0, .int v, .int dd, .int u, .int a, .int b, .long x, .int a6]) (n := 14) (Nat.le_of_ble_eq_true rfl)
  rw [lg_entry_eq]
  generalize (lg_sl ([.ref h0, .int v, .int dd, .int u, .int a, .int b, .long x, .int a6]) ++ List.replicate (14 - (lg_sl ([.ref h0, .int v, .int dd, .int u, .int a, .int b, .long x, .int a6])).length) Slot.unset).toArray = ls at hl ⊢
  have hl : lv_has ls 14 [(0, .ref h0), (1, .int v), (2, .int dd), (3, .int u), (4, .int a), (5, .int b), (6, .long x), (8, .int a6)] := hl
  refine lv_iload_n hx hb dX1_extend_0 rfl (lv_at hl 2 rfl) ?_
  refine lv_bipush (v := 6) hx hb dX1_extend_1 (by decide) ?_
  refine lv_icmp_lt (tgt := 7) hx hb dX1_extend_3 (by decide) (fun c1 => ?_) (fun c1 => ?_)
  · have ic1 : dd.toInt < 6 := zi_lt rfl rfl c1
    refine lv_iconst (v := 0) hx hb dX1_extend_7 (by decide) ?_
    refine lv_istore (lv' := [(9, .int 0), (0, .ref h0), (1, .int v), (2, .int dd), (3, .int u), (4, .int a), (5, .int b), (6, .long x), (8, .int a6)]) hx hb dX1_extend_8 hl (by decide) rfl (fun ls hl => ?_)
    refine pz_loop (fun n0 H locs ls => ∃ f3 : Nat → va_E, ∃ w2 : Int32, n0 = (6 - (w2.toInt)).toNat ∧ tp_T Ω κ τ ν ρ f3 ∧ tp_F τ [2, 20, 21] f f3 ∧ (0 ≤ w2.toInt ∧ w2.toInt ≤ 6) ∧ va_P (dC, dI) vwCl (va_pl L f3) H ∧ va_D A (va_pl L f3) ∧ va_S A s.heap H locs ∧ lv_has ls 14 [(9, .int w2), (0, .ref h0), (1, .int v), (2, .int dd), (3, .int u), (4, .int a), (5, .int b), (6, .long x), (8, .int a6)]) ?_ _ _ _ _ ⟨f, 0, rfl, hT, hR, (by have : (0 : Int32).toInt = 0 := rfl; omega), hP, hD, hS, lv_sub hl [0, 1, 2, 3, 4, 5, 6, 7, 8] rfl⟩
    intro n0 H locs ls hI ih4
    refine Exists.elim hI (fun f3 hE90 => Exists.elim hE90 (fun w2 hE91 => tn_8 hE91 (fun hn5 hT hR rw2 hP hD hS hl => ?_)))
    clear hE91 hE90 hI
    refine lv_iload hx hb dX1_extend_10 (lv_at hl 0 rfl) ?_
    refine lv_aload_n hx hb dX1_extend_12 rfl (lv_at hl 1 rfl) ?_
    refine tgk_2 hG ht_h0 (fun y6 y7 y7n y8 y8n y9 y9n y10 y10n y11 y11n y12 y12n y13 y13n y14 y14n y15 y15n => ?_)
    refine tpk_2 hT ht_h0 (fun o16_x5 o16_x6 o16_x7 o16_x8 o16_x9 hf_o16 ro16_0 => ?_)
    refine tpk_pos (tp_in hG ht_h0 (by decide)) hf_o16 (fun q17 eq17 => ?_)
    refine va_get (D := (dC, dI)) (ci := 1) (v := .ref (ρ h0 0)) (C := RX1) (T := TX1) (N := 15) hx hb hts hfX1 hown hK hP q17 eq17 rfl 0 (by decide) (hts (.fieldLink RX1 40 "ColdShips$Planner" "world" "LColdShips$World;") wa_143) (fun _ h9 => h9) rfl dX1_extend_13 ?_
    refine tgk_11 hG y6 (fun y18 y18n y19 y19n y20 y21 y22 y23 y24 y25 y26 y26w y26m y27 y27w y27m y28 y28w y28m y29 y29w y29m => ?_)
    refine tpk_11 hT y6 (fun o30_x0 o30_x1 o30_x2 o30_x3 o30_x4 o30_x5 o30_x6 hf_o30 ro30_0 ro30_1 ro30_2 ro30_3 => ?_)
    refine tpk_pos (tp_in hG y6 (by decide)) hf_o30 (fun q31 eq31 => ?_)
    refine va_getN (D := (dC, dI)) (ci := 10) (v := .ref (ρ (ρ h0 0) 18)) (C := RX10) (T := TX10) (N := 19) hx hb hts hfX10 hown hK hP q31 eq31 rfl 18 (by decide) (va_Nw.use rfl (hN.1 (.fieldLinkNest RX1 50 "ColdShips$World" "cargoes" "LColdShips$Rows;" "ColdShips") nzw_86)) (fun _ h9 => h9) rfl dX1_extend_16 ?_
    refine tgk_5 hG y29 (fun y32 y32n y33a y33b y33c => ?_)
    refine tpk_5 hT y29 (fun o34_x0 o34_x2 hf_o34 ro34_0 ro34_1 => ?_)
    refine tpk_pos (tp_in hG y29 (by decide)) hf_o34 (fun q35 eq35 => ?_)
    refine va_getN (D := (dC, dI)) (ci := 4) (v := .int o34_x2) (C := RX4) (T := TX4) (N := 3) hx hb hts hfX4 hown hK hP q35 eq35 rfl 2 (by decide) (va_Nw.use rfl (hN.1 (.fieldLinkNest RX1 54 "ColdShips$Rows" "size" "I" "ColdShips") nzw_1)) (fun _ h9 => h9) rfl dX1_extend_19 ?_
    refine lv_icmp_ge (tgt := 137) hx hb dX1_extend_22 (by decide) (fun c36 => ?_) (fun c36 => ?_)
    · have ic36 : w2.toInt ≥ o34_x2.toInt := zi_ge rfl rfl c36
      exact W.vret hx hb hr (fun t ht hW => ⟨⟨f3, rfl, ⟨hT, hR, trivial⟩, by rw [ht]; exact hP, va_K.moved hW.alike hK, hD⟩, hS.F ht⟩) hS.2.2 dX1_extend_137
    · have ic36 : w2.toInt < o34_x2.toInt := zi_gef rfl rfl c36
      refine lv_iload hx hb dX1_extend_25 (lv_at hl 0 rfl) ?_
      refine lv_bipush (v := 6) hx hb dX1_extend_27 (by decide) ?_
      refine lv_icmp_ge (tgt := 137) hx hb dX1_extend_29 (by decide) (fun c37 => ?_) (fun c37 => ?_)
      · have ic37 : w2.toInt ≥ 6 := zi_ge rfl rfl c37
        exact W.vret hx hb hr (fun t ht hW => ⟨⟨f3, rfl, ⟨hT, hR, trivial⟩, by rw [ht]; exact hP, va_K.moved hW.alike hK, hD⟩, hS.F ht⟩) hS.2.2 dX1_extend_137
      · have ic37 : w2.toInt < 6 := zi_gef rfl rfl c37
        refine lv_iload_n hx hb dX1_extend_32 rfl (lv_at hl 4 rfl) ?_
        refine lv_iload hx hb dX1_extend_33 (lv_at hl 0 rfl) ?_
        refine lv_ishr hx hb dX1_extend_35 ?_
        refine lv_topi (fun z38 ez38 => ?_)
        refine lv_iconst (v := 1) hx hb dX1_extend_36 (by decide) ?_
        refine lv_iand hx hb dX1_extend_37 ?_
        refine lv_topi (fun z39 ez39 => ?_)
        have iz39 : 0 ≤ z39.toInt ∧ z39.toInt ≤ 1 := zb_mask ez39 (by decide)
        refine lv_if_ne (tgt := 131) hx hb dX1_extend_38 (by decide) (fun c40 => ?_) (fun c40 => ?_)
        · have ic40 : z39.toInt ≠ 0 := zi_ne rfl rfl c40
          obtain ⟨z41, ez41⟩ : ∃ y : Int32, y = w2 + 1 := ⟨_, rfl⟩
          refine lv_iinc (v := z41) (lv' := [(9, .int z41), (0, .ref h0), (1, .int v), (2, .int dd), (3, .int u), (4, .int a), (5, .int b), (6, .long x), (8, .int a6)]) hx hb dX1_extend_131 hl (k := 0) rfl (by rw [ez41]; rfl) (by decide) rfl (fun ls hl => ?_)
          have iz41 : z41.toInt = w2.toInt + 1 := zi_add ez41 rfl rfl (by omega) (by omega)
          refine lv_goto (tgt := 10) hx hb dX1_extend_134 (by decide) ?_
          exact ih4 _ _ _ _ (by rw [hn5]; omega) ⟨f3, z41, rfl, hT, hR, (by omega), hP, hD, hS, lv_sub hl [0, 1, 2, 3, 4, 5, 6, 7, 8] rfl⟩
        · have ic40 : z39.toInt = 0 := zi_nef rfl rfl c40
          refine lv_aload_n hx hb dX1_extend_41 rfl (lv_at hl 1 rfl) ?_
          refine lv_iload_n hx hb dX1_extend_42 rfl (lv_at hl 2 rfl) ?_
          refine lv_iload hx hb dX1_extend_43 (lv_at hl 0 rfl) ?_
          refine lv_iload hx hb dX1_extend_45 (lv_at hl 5 rfl) ?_
          refine lv_iload hx hb dX1_extend_47 (lv_at hl 6 rfl) ?_
          have hFc := tp_fr hD hS hA
          refine va_calli (va_runV (As := [.int v, .int w2, .int a, .int b]) (rest := []) ⟨hx, hb, hml, hown, hts⟩ (t_X1_reckon l dC dI _ Ω κ τ ν ρ L f3 hG hT h0 v w2 a b ht_h0 (by first | decide | omega)) (cwV 4 hts gX1_extend_X1_reckon rfl rfl rfl ⟨rfl, pd_X1_reckon⟩ ⟨Nat.le_of_ble_eq_true rfl, Nat.le_of_ble_eq_true rfl⟩) ⟨pz_blind, va_recv hK hP (ci := 1) (q0 := q17) rfl eq17, pz_pre hP hK hD hN⟩ rfl rfl hl.1 rfl (lv_room (Nat.le_of_ble_eq_true rfl)) dX1_extend_49 ⟨Nat.le_of_ble_eq_true rfl, Nat.le_of_ble_eq_true rfl⟩) hS (fun q _ h => hFc q h) hFc (fun r42 f44 t H1 locs ht hvm hw43 hB hz1 hk1 hS => ?_)
          refine tn_4 hw43 (fun hT hF45 hw43r hw43p => ?_); clear hw43
          have hR := hR.then hF45 (by decide)
          have hP := hB.1; rw [ht] at hP; have hD := tp_ad f44 hD; clear hB hFc hz1 hk1; subst ht; generalize t.heap = H at hP hS ⊢
          refine lv_if_eq (tgt := 131) hx hb dX1_extend_52 (by decide) (fun c46 => ?_) (fun c46 => ?_)
          · have ic46 : r42.toInt = 0 := zi_eq rfl rfl c46
            obtain ⟨z47, ez47⟩ : ∃ y : Int32, y = w2 + 1 := ⟨_, rfl⟩
            refine lv_iinc (v := z47) (lv' := [(9, .int z47), (0, .ref h0), (1, .int v), (2, .int dd), (3, .int u), (4, .int a), (5, .int b), (6, .long x), (8, .int a6)]) hx hb dX1_extend_131 hl (k := 0) rfl (by rw [ez47]; rfl) (by decide) rfl (fun ls hl => ?_)
            have iz47 : z47.toInt = w2.toInt + 1 := zi_add ez47 rfl rfl (by omega) (by omega)
            refine lv_goto (tgt := 10) hx hb dX1_extend_134 (by decide) ?_
            exact ih4 _ _ _ _ (by rw [hn5]; omega) ⟨f44, z47, rfl, hT, hR, (by omega), hP, hD, hS, lv_sub hl [0, 1, 2, 3, 4, 5, 6, 7, 8] rfl⟩
          · have ic46 : r42.toInt ≠ 0 := zi_eqf rfl rfl c46
            refine lv_iload_n hx hb dX1_extend_55 rfl (lv_at hl 4 rfl) ?_
            refine lv_iconst (v := 1) hx hb dX1_extend_56 (by decide) ?_
            refine lv_iload hx hb dX1_extend_57 (lv_at hl 0 rfl) ?_
            refine lv_ishl hx hb dX1_extend_59 ?_
            refine lv_topi (fun z48 ez48 => ?_)
            have iz48 : 1 ≤ z48.toInt ∧ z48.toInt ≤ 32 := zb_shl5 ez48 rfl (by omega) (by omega)
            refine lv_ior hx hb dX1_extend_60 ?_
            refine lv_topi (fun z49 ez49 => ?_)
            refine lv_istore (lv' := [(10, .int z49), (9, .int w2), (0, .ref h0), (1, .int v), (2, .int dd), (3, .int u), (4, .int a), (5, .int b), (6, .long x), (8, .int a6)]) hx hb dX1_extend_61 hl (by decide) rfl (fun ls hl => ?_)
            refine lv_iload hx hb dX1_extend_63 (lv_at hl 9 rfl) ?_
            refine lv_iload_n hx hb dX1_extend_65 rfl (lv_at hl 4 rfl) ?_
            refine lv_iconst (v := 3) hx hb dX1_extend_66 (by decide) ?_
            refine lv_iconst (v := 5) hx hb dX1_extend_67 (by decide) ?_
            refine lv_iload hx hb dX1_extend_68 (lv_at hl 1 rfl) ?_
            refine lv_isub hx hb dX1_extend_70 ?_
            refine lv_topi (fun z50 ez50 => ?_)
            have iz50 : z50.toInt = 5 - w2.toInt := zi_sub ez50 rfl rfl (by omega) (by omega)
            refine lv_imul hx hb dX1_extend_71 ?_
            refine lv_topi (fun z51 ez51 => ?_)
            have iz51 : z51.toInt = 3 * z50.toInt := zi_mul ez51 rfl rfl (by omega) (by omega)
            refine lv_ishl hx hb dX1_extend_72 ?_
            refine lv_topi (fun z52 ez52 => ?_)
            refine lv_ior hx hb dX1_extend_73 ?_
            refine lv_topi (fun z53 ez53 => ?_)
            refine lv_istore (lv' := [(11, .int z53), (10, .int z49), (9, .int w2), (0, .ref h0), (1, .int v), (2, .int dd), (3, .int u), (4, .int a), (5, .int b), (6, .long x), (8, .int a6)]) hx hb dX1_extend_74 hl (by decide) rfl (fun ls hl => ?_)
            refine lv_lload hx hb dX1_extend_76 (lv_at hl 9 rfl) ?_
            refine lv_aload_n hx hb dX1_extend_78 rfl (lv_at hl 3 rfl) ?_
            refine tpk_2 hT ht_h0 (fun o54_x5 o54_x6 o54_x7 o54_x8 o54_x9 hf_o54 ro54_0 => ?_)
            refine tpk_pos (tp_in hG ht_h0 (by decide)) hf_o54 (fun q55 eq55 => ?_)
            refine va_get (D := (dC, dI)) (ci := 1) (v := .long o54_x8) (C := RX1) (T := TX1) (N := 15) hx hb hts hfX1 hown hK hP q55 eq55 rfl 8 (by decide) (hts (.fieldLink RX1 108 "ColdShips$Planner" "worth" "J") wa_1356) (fun _ h9 => h9) rfl dX1_extend_79 ?_
            refine lv_ladd hx hb dX1_extend_82 ?_
            refine lv_topl (fun z56 ez56 => ?_)
            refine lv_lstore (lv' := [(12, .long z56), (11, .int z53), (10, .int z49), (9, .int w2), (0, .ref h0), (1, .int v), (2, .int dd), (3, .int u), (4, .int a), (5, .int b), (6, .long x), (8, .int a6)]) hx hb dX1_extend_83 hl (by decide) rfl (fun ls hl => ?_)
            refine lv_aload_n hx hb dX1_extend_85 rfl (lv_at hl 4 rfl) ?_
            refine lv_iload_n hx hb dX1_extend_86 rfl (lv_at hl 5 rfl) ?_
            refine lv_bipush (v := 64) hx hb dX1_extend_87 (by decide) ?_
            refine lv_imul hx hb dX1_extend_89 ?_
            refine lv_topi (fun z57 ez57 => ?_)
            have iz57 : z57.toInt = v.toInt * 64 := zi_mul ez57 rfl rfl (by omega) (by omega)
            refine lv_iload hx hb dX1_extend_90 (lv_at hl 2 rfl) ?_
            refine lv_iadd hx hb dX1_extend_92 ?_
            refine lv_topi (fun z58 ez58 => ?_)
            refine lv_lload hx hb dX1_extend_93 (lv_at hl 0 rfl) ?_
            refine lv_iload hx hb dX1_extend_95 (lv_at hl 1 rfl) ?_
            have hFc := tp_fr hD hS hA
            refine va_callv (va_runV (As := [.int z58, .long z56, .int z53]) (rest := []) ⟨hx, hb, hml, hown, hts⟩ (t_X1_keepRow l dC dI _ Ω κ τ ν ρ L f44 hG hT h0 z58 z56 z53 ht_h0) (cwV 3 hts gX1_extend_X1_keepRow rfl rfl rfl ⟨rfl, pd_X1_keepRow⟩ ⟨Nat.le_of_ble_eq_true rfl, Nat.le_of_ble_eq_true rfl⟩) ⟨pz_blind, va_recv hK hP (ci := 1) (q0 := q55) rfl eq55, pz_pre hP hK hD hN⟩ rfl rfl hl.1 rfl (lv_room (Nat.le_of_ble_eq_true rfl)) dX1_extend_97 ⟨Nat.le_of_ble_eq_true rfl, Nat.le_of_ble_eq_true rfl⟩) hS (fun q _ h => hFc q h) hFc (fun f61 t H1 locs ht hvm hw60 hB hz1 hk1 hS => ?_)
            refine tn_3 hw60 (fun hT hF62 hw60p => ?_); clear hw60
            have hR := hR.then hF62 (by decide)
            have hP := hB.1; rw [ht] at hP; have hD := tp_ad f61 hD; clear hB hFc hz1 hk1; subst ht; generalize t.heap = H at hP hS ⊢
            refine lv_aload_n hx hb dX1_extend_100 rfl (lv_at hl 4 rfl) ?_
            refine lv_iload_n hx hb dX1_extend_101 rfl (lv_at hl 5 rfl) ?_
            refine lv_iload_n hx hb dX1_extend_102 rfl (lv_at hl 6 rfl) ?_
            refine lv_iconst (v := 1) hx hb dX1_extend_103 (by decide) ?_
            refine lv_iadd hx hb dX1_extend_104 ?_
            refine lv_topi (fun z63 ez63 => ?_)
            have iz63 : z63.toInt = dd.toInt + 1 := zi_add ez63 rfl rfl (by omega) (by omega)
            refine lv_iload hx hb dX1_extend_105 (lv_at hl 2 rfl) ?_
            refine lv_aload_n hx hb dX1_extend_107 rfl (lv_at hl 4 rfl) ?_
            have hf_64 : f61 h0 = .inr (1, [.ref (ρ h0 0), .ref (ρ h0 1), .ref (ρ h0 2), .ref (ρ h0 3), .ref (ρ h0 4), .int o54_x5, .int o54_x6, .int o54_x7, .long o54_x8, .int o54_x9, .ref (ρ h0 10), .ref (ρ h0 11), .ref (ρ h0 12), .ref (ρ h0 13), .ref (ρ h0 14)]) := (hF62 _ (by rw [ht_h0]; decide)).trans hf_o54
            refine tpk_pos (tp_in hG ht_h0 (by decide)) hf_64 (fun q65 eq65 => ?_)
            refine va_get (D := (dC, dI)) (ci := 1) (v := .ref (ρ h0 0)) (C := RX1) (T := TX1) (N := 15) hx hb hts hfX1 hown hK hP q65 eq65 rfl 0 (by decide) (hts (.fieldLink RX1 40 "ColdShips$Planner" "world" "LColdShips$World;") wa_143) (fun _ h9 => h9) rfl dX1_extend_108 ?_
            have hf_66 : f44 (ρ h0 0) = .inr (10, [.int o30_x0, .int o30_x1, .int o30_x2, .int o30_x3, .int o30_x4, .int o30_x5, .int o30_x6, .ref (ρ (ρ h0 0) 7), .ref (ρ (ρ h0 0) 8), .ref (ρ (ρ h0 0) 9), .ref (ρ (ρ h0 0) 10), .ref (ρ (ρ h0 0) 11), .ref (ρ (ρ h0 0) 12), .ref (ρ (ρ h0 0) 13), .ref (ρ (ρ h0 0) 14), .ref (ρ (ρ h0 0) 15), .ref (ρ (ρ h0 0) 16), .ref (ρ (ρ h0 0) 17), .ref (ρ (ρ h0 0) 18)]) := (hF45 _ (by rw [y6]; decide)).trans hf_o30
            have hf_67 : f61 (ρ h0 0) = .inr (10, [.int o30_x0, .int o30_x1, .int o30_x2, .int o30_x3, .int o30_x4, .int o30_x5, .int o30_x6, .ref (ρ (ρ h0 0) 7), .ref (ρ (ρ h0 0) 8), .ref (ρ (ρ h0 0) 9), .ref (ρ (ρ h0 0) 10), .ref (ρ (ρ h0 0) 11), .ref (ρ (ρ h0 0) 12), .ref (ρ (ρ h0 0) 13), .ref (ρ (ρ h0 0) 14), .ref (ρ (ρ h0 0) 15), .ref (ρ (ρ h0 0) 16), .ref (ρ (ρ h0 0) 17), .ref (ρ (ρ h0 0) 18)]) := (hF62 _ (by rw [y6]; decide)).trans hf_66
            refine tpk_pos (tp_in hG y6 (by decide)) hf_67 (fun q68 eq68 => ?_)
            refine va_getN (D := (dC, dI)) (ci := 10) (v := .ref (ρ (ρ h0 0) 18)) (C := RX10) (T := TX10) (N := 19) hx hb hts hfX10 hown hK hP q68 eq68 rfl 18 (by decide) (va_Nw.use rfl (hN.1 (.fieldLinkNest RX1 50 "ColdShips$World" "cargoes" "LColdShips$Rows;" "ColdShips") nzw_86)) (fun _ h9 => h9) rfl dX1_extend_111 ?_
            refine lv_iload hx hb dX1_extend_114 (lv_at hl 3 rfl) ?_
            refine lv_iconst (v := 1) hx hb dX1_extend_116 (by decide) ?_
            have hf_69 : f44 (ρ (ρ h0 0) 18) = .inr (4, [.int o34_x0, .ref (ρ (ρ (ρ h0 0) 18) 1), .int o34_x2]) := (hF45 _ (by rw [y29]; decide)).trans hf_o34
            have hf_70 : f61 (ρ (ρ h0 0) 18) = .inr (4, [.int o34_x0, .ref (ρ (ρ (ρ h0 0) 18) 1), .int o34_x2]) := (hF62 _ (by rw [y29]; decide)).trans hf_69
            refine tpk_pos (tp_in hG y29 (by decide)) hf_70 (fun q71 eq71 => ?_)
            refine pz_calli (va_runV (As := [.int w2, .int 1]) (rest := [.int z49, .int z63, .int v, .ref h0]) ⟨hx, hb, hml, hown, hts⟩ (t_X4_number l dC dI _ Ω κ τ ν ρ L f61 hG hT (ρ (ρ h0 0) 18) w2 (1) y29) (cwV 2 hts gX1_extend_X4_number rfl rfl rfl ⟨rfl, pd_X4_number⟩ ⟨Nat.le_of_ble_eq_true rfl, Nat.le_of_ble_eq_true rfl⟩) ⟨pz_blind, va_recv hK hP (ci := 4) (q0 := q71) rfl eq71, pz_pre hP hK hD hN⟩ rfl rfl hl.1 rfl (lv_room (Nat.le_of_ble_eq_true rfl)) dX1_extend_117 ⟨Nat.le_of_ble_eq_true rfl, Nat.le_of_ble_eq_true rfl⟩) (fun r72 hw73 => ?_)
            obtain ⟨hw73r, hw73p⟩ := hw73
            refine lv_aload_n hx hb dX1_extend_120 rfl (lv_at hl 4 rfl) ?_
            refine va_get (D := (dC, dI)) (ci := 1) (v := .int o54_x7) (C := RX1) (T := TX1) (N := 15) hx hb hts hfX1 hown hK hP q65 eq65 rfl 7 (by decide) (hts (.fieldLink RX1 119 "ColdShips$Planner" "freeAt" "I") wa_1357) (fun _ h9 => h9) rfl dX1_extend_121 ?_
            refine lv_lload hx hb dX1_extend_124 (lv_at hl 0 rfl) ?_
            refine lv_iload hx hb dX1_extend_126 (lv_at hl 1 rfl) ?_
            have hFc := tp_fr hD hS hA
            refine va_callv (va_runV (As := [.int v, .int z63, .int z49, .int r72, .int o54_x7, .long z56, .int z53]) (rest := []) ⟨hx, hb, hml, hown, hts⟩ (t_X1_extend5 l dC dI _ Ω κ τ ν ρ L f61 hG hT h0 v z63 z49 r72 o54_x7 z56 z53 ht_h0 (by first | decide | omega) (by first | decide | omega)) (cwV 7 hts gX1_extend_X1_extend rfl rfl rfl ⟨rfl, pd_X1_extend⟩ ⟨Nat.le_of_ble_eq_true rfl, Nat.le_of_ble_eq_true rfl⟩) ⟨pz_blind, va_recv hK hP (ci := 1) (q0 := q65) rfl eq65, pz_pre hP hK hD hN⟩ rfl rfl hl.1 rfl (lv_room (Nat.le_of_ble_eq_true rfl)) dX1_extend_128 ⟨Nat.le_of_ble_eq_true rfl, Nat.le_of_ble_eq_true rfl⟩) hS (fun q _ h => hFc q h) hFc (fun f76 t H1 locs ht hvm hw75 hB hz1 hk1 hS => ?_)
            refine tn_3 hw75 (fun hT hF77 hw75p => ?_); clear hw75
            have hR := hR.then hF77 (by decide)
            have hP := hB.1; rw [ht] at hP; have hD := tp_ad f76 hD; clear hB hFc hz1 hk1; subst ht; generalize t.heap = H at hP hS ⊢
            obtain ⟨z78, ez78⟩ : ∃ y : Int32, y = w2 + 1 := ⟨_, rfl⟩
            refine lv_iinc (v := z78) (lv' := [(9, .int z78), (12, .long z56), (11, .int z53), (10, .int z49), (0, .ref h0), (1, .int v), (2, .int dd), (3, .int u), (4, .int a), (5, .int b), (6, .long x), (8, .int a6)]) hx hb dX1_extend_131 hl (k := 3) rfl (by rw [ez78]; rfl) (by decide) rfl (fun ls hl => ?_)
            have iz78 : z78.toInt = w2.toInt + 1 := zi_add ez78 rfl rfl (by omega) (by omega)
            refine lv_goto (tgt := 10) hx hb dX1_extend_134 (by decide) ?_
            exact ih4 _ _ _ _ (by rw [hn5]; omega) ⟨f76, z78, rfl, hT, hR, (by omega), hP, hD, hS, lv_sub hl [0, 4, 5, 6, 7, 8, 9, 10, 11] rfl⟩
  · have ic1 : dd.toInt ≥ 6 := zi_ltf rfl rfl c1
    exfalso; omega
set_option maxHeartbeats 4000000 in
set_option maxRecDepth 100000 in
theorem t_X1_extend3 (l : Launch) (dC : Nat → ClassId) (dI : Nat → Nat → Nat) (sz : Nat) (Ω : Nat → (Nat → Nat) → va_E → Prop) (κ : Nat → ClassId) (τ ν : Nat → Nat) (ρ : Nat → Nat → Nat) (L : List Nat) (f : Nat → va_E) (hG : tp_G τ ν ρ L) (hT : tp_T Ω κ τ ν ρ f) (h0 : Nat) (v : Int32) (dd : Int32) (u : Int32) (a : Int32) (b : Int32) (x : Int64) (a6 : Int32) (ht_h0 : τ h0 = 2) (hr_v : 0 ≤ v.toInt ∧ v.toInt ≤ 2) (hr_dd : 3 ≤ dd.toInt ∧ dd.toInt ≤ 3) : Met l yX1_extend wqX1_extend ({ frames := 7, cells := 0, slots := 0, locals := 2400 }) (va_Pc [.ref h0, .int v, .int dd, .int u, .int a, .int b, .long x, .int a6] (pz_B dC dI (tp_K κ) (va_pl L f) sz)) (va_Qv (fun (f1 : Nat → va_E) => tp_T Ω κ τ ν ρ f1 ∧ tp_F τ [2, 20, 21] f f1 ∧ True) (fun (f1 : Nat → va_E) (t : State) => pz_E dC dI (tp_K κ) (va_A (va_pl L f) sz) (va_pl L f1) t) (va_A (va_pl L f) sz)) 0 0 (va_A (va_pl L f) sz) := by
  refine Met.ofW (cc := cX1_extend) (maxL := 14) (ret := none) (by decide) rfl ?_
  intro p e s m args below meth c s₁ B hml hv
  obtain ⟨rfl, hsz, hP, hK, hD0, hN⟩ := hv
  have hx := B.exec
  have hb := B.bytes
  have hr := B.returns
  have hts := fun (w : Cond) (h : w ∈ WALL) => atoms_spec (ws := wqX1_extend) B.pre w (List.mem_cons_of_mem _ h)
  have hown : s.vm.findClass RX1 = some m.cls := findClass_of_methodNamed B.named
  have hlocks := B.notSynchronized
  subst hsz
  have hD := hD0.self (sz := s.heap.size)
  generalize hAe : va_A (va_pl L f) s.heap.size = A at hD ⊢
  have hA : ∀ q : Nat, s.heap.size ≤ q → A q := fun q h => by rw [← hAe]; exact Or.inr h
  have hS : va_S A s.heap s.heap [] := va_S.rf
  have hR : tp_F τ [2, 20, 21] f f := tp_F.rf
  have hl := lv_entry ([.ref h0, .int v, .int dd, .int u, .int a, .int b, .long x, .int a6]) (n := 14) (Nat.le_of_ble_eq_true rfl)
  rw [lg_entry_eq]
  generalize (lg_sl ([.ref h0, .int v, .int dd, .int u, .int a, .int b, .long x, .int a6]) ++ List.replicate (14 - (lg_sl ([.ref h0, .int v, .int dd, .int u, .int a, .int b, .long x, .int a6])).length) Slot.unset).toArray = ls at hl ⊢
  have hl : lv_has ls 14 [(0, .ref h0), (1, .int v), (2, .int dd), (3, .int u), (4, .int a), (5, .int b), (6, .long x), (8, .int a6)] := hl
  refine lv_iload_n hx hb dX1_extend_0 rfl (lv_at hl 2 rfl) ?_
  refine lv_bipush (v := 6) hx hb dX1_extend_1 (by decide) ?_
  refine lv_icmp_lt (tgt := 7) hx hb dX1_extend_3 (by decide) (fun c1 => ?_) (fun c1 => ?_)
  · have ic1 : dd.toInt < 6 := zi_lt rfl rfl c1
    refine lv_iconst (v := 0) hx hb dX1_extend_7 (by decide) ?_
    refine lv_istore (lv' := [(9, .int 0), (0, .ref h0), (1, .int v), (2, .int dd), (3, .int u), (4, .int a), (5, .int b), (6, .long x), (8, .int a6)]) hx hb dX1_extend_8 hl (by decide) rfl (fun ls hl => ?_)
    refine pz_loop (fun n0 H locs ls => ∃ f3 : Nat → va_E, ∃ w2 : Int32, n0 = (6 - (w2.toInt)).toNat ∧ tp_T Ω κ τ ν ρ f3 ∧ tp_F τ [2, 20, 21] f f3 ∧ (0 ≤ w2.toInt ∧ w2.toInt ≤ 6) ∧ va_P (dC, dI) vwCl (va_pl L f3) H ∧ va_D A (va_pl L f3) ∧ va_S A s.heap H locs ∧ lv_has ls 14 [(9, .int w2), (0, .ref h0), (1, .int v), (2, .int dd), (3, .int u), (4, .int a), (5, .int b), (6, .long x), (8, .int a6)]) ?_ _ _ _ _ ⟨f, 0, rfl, hT, hR, (by have : (0 : Int32).toInt = 0 := rfl; omega), hP, hD, hS, lv_sub hl [0, 1, 2, 3, 4, 5, 6, 7, 8] rfl⟩
    intro n0 H locs ls hI ih4
    refine Exists.elim hI (fun f3 hE90 => Exists.elim hE90 (fun w2 hE91 => tn_8 hE91 (fun hn5 hT hR rw2 hP hD hS hl => ?_)))
    clear hE91 hE90 hI
    refine lv_iload hx hb dX1_extend_10 (lv_at hl 0 rfl) ?_
    refine lv_aload_n hx hb dX1_extend_12 rfl (lv_at hl 1 rfl) ?_
    refine tgk_2 hG ht_h0 (fun y6 y7 y7n y8 y8n y9 y9n y10 y10n y11 y11n y12 y12n y13 y13n y14 y14n y15 y15n => ?_)
    refine tpk_2 hT ht_h0 (fun o16_x5 o16_x6 o16_x7 o16_x8 o16_x9 hf_o16 ro16_0 => ?_)
    refine tpk_pos (tp_in hG ht_h0 (by decide)) hf_o16 (fun q17 eq17 => ?_)
    refine va_get (D := (dC, dI)) (ci := 1) (v := .ref (ρ h0 0)) (C := RX1) (T := TX1) (N := 15) hx hb hts hfX1 hown hK hP q17 eq17 rfl 0 (by decide) (hts (.fieldLink RX1 40 "ColdShips$Planner" "world" "LColdShips$World;") wa_143) (fun _ h9 => h9) rfl dX1_extend_13 ?_
    refine tgk_11 hG y6 (fun y18 y18n y19 y19n y20 y21 y22 y23 y24 y25 y26 y26w y26m y27 y27w y27m y28 y28w y28m y29 y29w y29m => ?_)
    refine tpk_11 hT y6 (fun o30_x0 o30_x1 o30_x2 o30_x3 o30_x4 o30_x5 o30_x6 hf_o30 ro30_0 ro30_1 ro30_2 ro30_3 => ?_)
    refine tpk_pos (tp_in hG y6 (by decide)) hf_o30 (fun q31 eq31 => ?_)
    refine va_getN (D := (dC, dI)) (ci := 10) (v := .ref (ρ (ρ h0 0) 18)) (C := RX10) (T := TX10) (N := 19) hx hb hts hfX10 hown hK hP q31 eq31 rfl 18 (by decide) (va_Nw.use rfl (hN.1 (.fieldLinkNest RX1 50 "ColdShips$World" "cargoes" "LColdShips$Rows;" "ColdShips") nzw_86)) (fun _ h9 => h9) rfl dX1_extend_16 ?_
    refine tgk_5 hG y29 (fun y32 y32n y33a y33b y33c => ?_)
    refine tpk_5 hT y29 (fun o34_x0 o34_x2 hf_o34 ro34_0 ro34_1 => ?_)
    refine tpk_pos (tp_in hG y29 (by decide)) hf_o34 (fun q35 eq35 => ?_)
    refine va_getN (D := (dC, dI)) (ci := 4) (v := .int o34_x2) (C := RX4) (T := TX4) (N := 3) hx hb hts hfX4 hown hK hP q35 eq35 rfl 2 (by decide) (va_Nw.use rfl (hN.1 (.fieldLinkNest RX1 54 "ColdShips$Rows" "size" "I" "ColdShips") nzw_1)) (fun _ h9 => h9) rfl dX1_extend_19 ?_
    refine lv_icmp_ge (tgt := 137) hx hb dX1_extend_22 (by decide) (fun c36 => ?_) (fun c36 => ?_)
    · have ic36 : w2.toInt ≥ o34_x2.toInt := zi_ge rfl rfl c36
      exact W.vret hx hb hr (fun t ht hW => ⟨⟨f3, rfl, ⟨hT, hR, trivial⟩, by rw [ht]; exact hP, va_K.moved hW.alike hK, hD⟩, hS.F ht⟩) hS.2.2 dX1_extend_137
    · have ic36 : w2.toInt < o34_x2.toInt := zi_gef rfl rfl c36
      refine lv_iload hx hb dX1_extend_25 (lv_at hl 0 rfl) ?_
      refine lv_bipush (v := 6) hx hb dX1_extend_27 (by decide) ?_
      refine lv_icmp_ge (tgt := 137) hx hb dX1_extend_29 (by decide) (fun c37 => ?_) (fun c37 => ?_)
      · have ic37 : w2.toInt ≥ 6 := zi_ge rfl rfl c37
        exact W.vret hx hb hr (fun t ht hW => ⟨⟨f3, rfl, ⟨hT, hR, trivial⟩, by rw [ht]; exact hP, va_K.moved hW.alike hK, hD⟩, hS.F ht⟩) hS.2.2 dX1_extend_137
      · have ic37 : w2.toInt < 6 := zi_gef rfl rfl c37
        refine lv_iload_n hx hb dX1_extend_32 rfl (lv_at hl 4 rfl) ?_
        refine lv_iload hx hb dX1_extend_33 (lv_at hl 0 rfl) ?_
        refine lv_ishr hx hb dX1_extend_35 ?_
        refine lv_topi (fun z38 ez38 => ?_)
        refine lv_iconst (v := 1) hx hb dX1_extend_36 (by decide) ?_
        refine lv_iand hx hb dX1_extend_37 ?_
        refine lv_topi (fun z39 ez39 => ?_)
        have iz39 : 0 ≤ z39.toInt ∧ z39.toInt ≤ 1 := zb_mask ez39 (by decide)
        refine lv_if_ne (tgt := 131) hx hb dX1_extend_38 (by decide) (fun c40 => ?_) (fun c40 => ?_)
        · have ic40 : z39.toInt ≠ 0 := zi_ne rfl rfl c40
          obtain ⟨z41, ez41⟩ : ∃ y : Int32, y = w2 + 1 := ⟨_, rfl⟩
          refine lv_iinc (v := z41) (lv' := [(9, .int z41), (0, .ref h0), (1, .int v), (2, .int dd), (3, .int u), (4, .int a), (5, .int b), (6, .long x), (8, .int a6)]) hx hb dX1_extend_131 hl (k := 0) rfl (by rw [ez41]; rfl) (by decide) rfl (fun ls hl => ?_)
          have iz41 : z41.toInt = w2.toInt + 1 := zi_add ez41 rfl rfl (by omega) (by omega)
          refine lv_goto (tgt := 10) hx hb dX1_extend_134 (by decide) ?_
          exact ih4 _ _ _ _ (by rw [hn5]; omega) ⟨f3, z41, rfl, hT, hR, (by omega), hP, hD, hS, lv_sub hl [0, 1, 2, 3, 4, 5, 6, 7, 8] rfl⟩
        · have ic40 : z39.toInt = 0 := zi_nef rfl rfl c40
          refine lv_aload_n hx hb dX1_extend_41 rfl (lv_at hl 1 rfl) ?_
          refine lv_iload_n hx hb dX1_extend_42 rfl (lv_at hl 2 rfl) ?_
          refine lv_iload hx hb dX1_extend_43 (lv_at hl 0 rfl) ?_
          refine lv_iload hx hb dX1_extend_45 (lv_at hl 5 rfl) ?_
          refine lv_iload hx hb dX1_extend_47 (lv_at hl 6 rfl) ?_
          have hFc := tp_fr hD hS hA
          refine va_calli (va_runV (As := [.int v, .int w2, .int a, .int b]) (rest := []) ⟨hx, hb, hml, hown, hts⟩ (t_X1_reckon l dC dI _ Ω κ τ ν ρ L f3 hG hT h0 v w2 a b ht_h0 (by first | decide | omega)) (cwV 4 hts gX1_extend_X1_reckon rfl rfl rfl ⟨rfl, pd_X1_reckon⟩ ⟨Nat.le_of_ble_eq_true rfl, Nat.le_of_ble_eq_true rfl⟩) ⟨pz_blind, va_recv hK hP (ci := 1) (q0 := q17) rfl eq17, pz_pre hP hK hD hN⟩ rfl rfl hl.1 rfl (lv_room (Nat.le_of_ble_eq_true rfl)) dX1_extend_49 ⟨Nat.le_of_ble_eq_true rfl, Nat.le_of_ble_eq_true rfl⟩) hS (fun q _ h => hFc q h) hFc (fun r42 f44 t H1 locs ht hvm hw43 hB hz1 hk1 hS => ?_)
          refine tn_4 hw43 (fun hT hF45 hw43r hw43p => ?_); clear hw43
          have hR := hR.then hF45 (by decide)
          have hP := hB.1; rw [ht] at hP; have hD := tp_ad f44 hD; clear hB hFc hz1 hk1; subst ht; generalize t.heap = H at hP hS ⊢
          refine lv_if_eq (tgt := 131) hx hb dX1_extend_52 (by decide) (fun c46 => ?_) (fun c46 => ?_)
          · have ic46 : r42.toInt = 0 := zi_eq rfl rfl c46
            obtain ⟨z47, ez47⟩ : ∃ y : Int32, y = w2 + 1 := ⟨_, rfl⟩
            refine lv_iinc (v := z47) (lv' := [(9, .int z47), (0, .ref h0), (1, .int v), (2, .int dd), (3, .int u), (4, .int a), (5, .int b), (6, .long x), (8, .int a6)]) hx hb dX1_extend_131 hl (k := 0) rfl (by rw [ez47]; rfl) (by decide) rfl (fun ls hl => ?_)
            have iz47 : z47.toInt = w2.toInt + 1 := zi_add ez47 rfl rfl (by omega) (by omega)
            refine lv_goto (tgt := 10) hx hb dX1_extend_134 (by decide) ?_
            exact ih4 _ _ _ _ (by rw [hn5]; omega) ⟨f44, z47, rfl, hT, hR, (by omega), hP, hD, hS, lv_sub hl [0, 1, 2, 3, 4, 5, 6, 7, 8] rfl⟩
          · have ic46 : r42.toInt ≠ 0 := zi_eqf rfl rfl c46
            refine lv_iload_n hx hb dX1_extend_55 rfl (lv_at hl 4 rfl) ?_
            refine lv_iconst (v := 1) hx hb dX1_extend_56 (by decide) ?_
            refine lv_iload hx hb dX1_extend_57 (lv_at hl 0 rfl) ?_
            refine lv_ishl hx hb dX1_extend_59 ?_
            refine lv_topi (fun z48 ez48 => ?_)
            have iz48 : 1 ≤ z48.toInt ∧ z48.toInt ≤ 32 := zb_shl5 ez48 rfl (by omega) (by omega)
            refine lv_ior hx hb dX1_extend_60 ?_
            refine lv_topi (fun z49 ez49 => ?_)
            refine lv_istore (lv' := [(10, .int z49), (9, .int w2), (0, .ref h0), (1, .int v), (2, .int dd), (3, .int u), (4, .int a), (5, .int b), (6, .long x), (8, .int a6)]) hx hb dX1_extend_61 hl (by decide) rfl (fun ls hl => ?_)
            refine lv_iload hx hb dX1_extend_63 (lv_at hl 9 rfl) ?_
            refine lv_iload_n hx hb dX1_extend_65 rfl (lv_at hl 4 rfl) ?_
            refine lv_iconst (v := 3) hx hb dX1_extend_66 (by decide) ?_
            refine lv_iconst (v := 5) hx hb dX1_extend_67 (by decide) ?_
            refine lv_iload hx hb dX1_extend_68 (lv_at hl 1 rfl) ?_
            refine lv_isub hx hb dX1_extend_70 ?_
            refine lv_topi (fun z50 ez50 => ?_)
            have iz50 : z50.toInt = 5 - w2.toInt := zi_sub ez50 rfl rfl (by omega) (by omega)
            refine lv_imul hx hb dX1_extend_71 ?_
            refine lv_topi (fun z51 ez51 => ?_)
            have iz51 : z51.toInt = 3 * z50.toInt := zi_mul ez51 rfl rfl (by omega) (by omega)
            refine lv_ishl hx hb dX1_extend_72 ?_
            refine lv_topi (fun z52 ez52 => ?_)
            refine lv_ior hx hb dX1_extend_73 ?_
            refine lv_topi (fun z53 ez53 => ?_)
            refine lv_istore (lv' := [(11, .int z53), (10, .int z49), (9, .int w2), (0, .ref h0), (1, .int v), (2, .int dd), (3, .int u), (4, .int a), (5, .int b), (6, .long x), (8, .int a6)]) hx hb dX1_extend_74 hl (by decide) rfl (fun ls hl => ?_)
            refine lv_lload hx hb dX1_extend_76 (lv_at hl 9 rfl) ?_
            refine lv_aload_n hx hb dX1_extend_78 rfl (lv_at hl 3 rfl) ?_
            refine tpk_2 hT ht_h0 (fun o54_x5 o54_x6 o54_x7 o54_x8 o54_x9 hf_o54 ro54_0 => ?_)
            refine tpk_pos (tp_in hG ht_h0 (by decide)) hf_o54 (fun q55 eq55 => ?_)
            refine va_get (D := (dC, dI)) (ci := 1) (v := .long o54_x8) (C := RX1) (T := TX1) (N := 15) hx hb hts hfX1 hown hK hP q55 eq55 rfl 8 (by decide) (hts (.fieldLink RX1 108 "ColdShips$Planner" "worth" "J") wa_1356) (fun _ h9 => h9) rfl dX1_extend_79 ?_
            refine lv_ladd hx hb dX1_extend_82 ?_
            refine lv_topl (fun z56 ez56 => ?_)
            refine lv_lstore (lv' := [(12, .long z56), (11, .int z53), (10, .int z49), (9, .int w2), (0, .ref h0), (1, .int v), (2, .int dd), (3, .int u), (4, .int a), (5, .int b), (6, .long x), (8, .int a6)]) hx hb dX1_extend_83 hl (by decide) rfl (fun ls hl => ?_)
            refine lv_aload_n hx hb dX1_extend_85 rfl (lv_at hl 4 rfl) ?_
            refine lv_iload_n hx hb dX1_extend_86 rfl (lv_at hl 5 rfl) ?_
            refine lv_bipush (v := 64) hx hb dX1_extend_87 (by decide) ?_
            refine lv_imul hx hb dX1_extend_89 ?_
            refine lv_topi (fun z57 ez57 => ?_)
            have iz57 : z57.toInt = v.toInt * 64 := zi_mul ez57 rfl rfl (by omega) (by omega)
            refine lv_iload hx hb dX1_extend_90 (lv_at hl 2 rfl) ?_
            refine lv_iadd hx hb dX1_extend_92 ?_
            refine lv_topi (fun z58 ez58 => ?_)
            refine lv_lload hx hb dX1_extend_93 (lv_at hl 0 rfl) ?_
            refine lv_iload hx hb dX1_extend_95 (lv_at hl 1 rfl) ?_
            have hFc := tp_fr hD hS hA
            refine va_callv (va_runV (As := [.int z58, .long z56, .int z53]) (rest := []) ⟨hx, hb, hml, hown, hts⟩ (t_X1_keepRow l dC dI _ Ω κ τ ν ρ L f44 hG hT h0 z58 z56 z53 ht_h0) (cwV 3 hts gX1_extend_X1_keepRow rfl rfl rfl ⟨rfl, pd_X1_keepRow⟩ ⟨Nat.le_of_ble_eq_true rfl, Nat.le_of_ble_eq_true rfl⟩) ⟨pz_blind, va_recv hK hP (ci := 1) (q0 := q55) rfl eq55, pz_pre hP hK hD hN⟩ rfl rfl hl.1 rfl (lv_room (Nat.le_of_ble_eq_true rfl)) dX1_extend_97 ⟨Nat.le_of_ble_eq_true rfl, Nat.le_of_ble_eq_true rfl⟩) hS (fun q _ h => hFc q h) hFc (fun f61 t H1 locs ht hvm hw60 hB hz1 hk1 hS => ?_)
            refine tn_3 hw60 (fun hT hF62 hw60p => ?_); clear hw60
            have hR := hR.then hF62 (by decide)
            have hP := hB.1; rw [ht] at hP; have hD := tp_ad f61 hD; clear hB hFc hz1 hk1; subst ht; generalize t.heap = H at hP hS ⊢
            refine lv_aload_n hx hb dX1_extend_100 rfl (lv_at hl 4 rfl) ?_
            refine lv_iload_n hx hb dX1_extend_101 rfl (lv_at hl 5 rfl) ?_
            refine lv_iload_n hx hb dX1_extend_102 rfl (lv_at hl 6 rfl) ?_
            refine lv_iconst (v := 1) hx hb dX1_extend_103 (by decide) ?_
            refine lv_iadd hx hb dX1_extend_104 ?_
            refine lv_topi (fun z63 ez63 => ?_)
            have iz63 : z63.toInt = dd.toInt + 1 := zi_add ez63 rfl rfl (by omega) (by omega)
            refine lv_iload hx hb dX1_extend_105 (lv_at hl 2 rfl) ?_
            refine lv_aload_n hx hb dX1_extend_107 rfl (lv_at hl 4 rfl) ?_
            have hf_64 : f61 h0 = .inr (1, [.ref (ρ h0 0), .ref (ρ h0 1), .ref (ρ h0 2), .ref (ρ h0 3), .ref (ρ h0 4), .int o54_x5, .int o54_x6, .int o54_x7, .long o54_x8, .int o54_x9, .ref (ρ h0 10), .ref (ρ h0 11), .ref (ρ h0 12), .ref (ρ h0 13), .ref (ρ h0 14)]) := (hF62 _ (by rw [ht_h0]; decide)).trans hf_o54
            refine tpk_pos (tp_in hG ht_h0 (by decide)) hf_64 (fun q65 eq65 => ?_)
            refine va_get (D := (dC, dI)) (ci := 1) (v := .ref (ρ h0 0)) (C := RX1) (T := TX1) (N := 15) hx hb hts hfX1 hown hK hP q65 eq65 rfl 0 (by decide) (hts (.fieldLink RX1 40 "ColdShips$Planner" "world" "LColdShips$World;") wa_143) (fun _ h9 => h9) rfl dX1_extend_108 ?_
            have hf_66 : f44 (ρ h0 0) = .inr (10, [.int o30_x0, .int o30_x1, .int o30_x2, .int o30_x3, .int o30_x4, .int o30_x5, .int o30_x6, .ref (ρ (ρ h0 0) 7), .ref (ρ (ρ h0 0) 8), .ref (ρ (ρ h0 0) 9), .ref (ρ (ρ h0 0) 10), .ref (ρ (ρ h0 0) 11), .ref (ρ (ρ h0 0) 12), .ref (ρ (ρ h0 0) 13), .ref (ρ (ρ h0 0) 14), .ref (ρ (ρ h0 0) 15), .ref (ρ (ρ h0 0) 16), .ref (ρ (ρ h0 0) 17), .ref (ρ (ρ h0 0) 18)]) := (hF45 _ (by rw [y6]; decide)).trans hf_o30
            have hf_67 : f61 (ρ h0 0) = .inr (10, [.int o30_x0, .int o30_x1, .int o30_x2, .int o30_x3, .int o30_x4, .int o30_x5, .int o30_x6, .ref (ρ (ρ h0 0) 7), .ref (ρ (ρ h0 0) 8), .ref (ρ (ρ h0 0) 9), .ref (ρ (ρ h0 0) 10), .ref (ρ (ρ h0 0) 11), .ref (ρ (ρ h0 0) 12), .ref (ρ (ρ h0 0) 13), .ref (ρ (ρ h0 0) 14), .ref (ρ (ρ h0 0) 15), .ref (ρ (ρ h0 0) 16), .ref (ρ (ρ h0 0) 17), .ref (ρ (ρ h0 0) 18)]) := (hF62 _ (by rw [y6]; decide)).trans hf_66
            refine tpk_pos (tp_in hG y6 (by decide)) hf_67 (fun q68 eq68 => ?_)
            refine va_getN (D := (dC, dI)) (ci := 10) (v := .ref (ρ (ρ h0 0) 18)) (C := RX10) (T := TX10) (N := 19) hx hb hts hfX10 hown hK hP q68 eq68 rfl 18 (by decide) (va_Nw.use rfl (hN.1 (.fieldLinkNest RX1 50 "ColdShips$World" "cargoes" "LColdShips$Rows;" "ColdShips") nzw_86)) (fun _ h9 => h9) rfl dX1_extend_111 ?_
            refine lv_iload hx hb dX1_extend_114 (lv_at hl 3 rfl) ?_
            refine lv_iconst (v := 1) hx hb dX1_extend_116 (by decide) ?_
            have hf_69 : f44 (ρ (ρ h0 0) 18) = .inr (4, [.int o34_x0, .ref (ρ (ρ (ρ h0 0) 18) 1), .int o34_x2]) := (hF45 _ (by rw [y29]; decide)).trans hf_o34
            have hf_70 : f61 (ρ (ρ h0 0) 18) = .inr (4, [.int o34_x0, .ref (ρ (ρ (ρ h0 0) 18) 1), .int o34_x2]) := (hF62 _ (by rw [y29]; decide)).trans hf_69
            refine tpk_pos (tp_in hG y29 (by decide)) hf_70 (fun q71 eq71 => ?_)
            refine pz_calli (va_runV (As := [.int w2, .int 1]) (rest := [.int z49, .int z63, .int v, .ref h0]) ⟨hx, hb, hml, hown, hts⟩ (t_X4_number l dC dI _ Ω κ τ ν ρ L f61 hG hT (ρ (ρ h0 0) 18) w2 (1) y29) (cwV 2 hts gX1_extend_X4_number rfl rfl rfl ⟨rfl, pd_X4_number⟩ ⟨Nat.le_of_ble_eq_true rfl, Nat.le_of_ble_eq_true rfl⟩) ⟨pz_blind, va_recv hK hP (ci := 4) (q0 := q71) rfl eq71, pz_pre hP hK hD hN⟩ rfl rfl hl.1 rfl (lv_room (Nat.le_of_ble_eq_true rfl)) dX1_extend_117 ⟨Nat.le_of_ble_eq_true rfl, Nat.le_of_ble_eq_true rfl⟩) (fun r72 hw73 => ?_)
            obtain ⟨hw73r, hw73p⟩ := hw73
            refine lv_aload_n hx hb dX1_extend_120 rfl (lv_at hl 4 rfl) ?_
            refine va_get (D := (dC, dI)) (ci := 1) (v := .int o54_x7) (C := RX1) (T := TX1) (N := 15) hx hb hts hfX1 hown hK hP q65 eq65 rfl 7 (by decide) (hts (.fieldLink RX1 119 "ColdShips$Planner" "freeAt" "I") wa_1357) (fun _ h9 => h9) rfl dX1_extend_121 ?_
            refine lv_lload hx hb dX1_extend_124 (lv_at hl 0 rfl) ?_
            refine lv_iload hx hb dX1_extend_126 (lv_at hl 1 rfl) ?_
            have hFc := tp_fr hD hS hA
            refine va_callv (va_runV (As := [.int v, .int z63, .int z49, .int r72, .int o54_x7, .long z56, .int z53]) (rest := []) ⟨hx, hb, hml, hown, hts⟩ (t_X1_extend4 l dC dI _ Ω κ τ ν ρ L f61 hG hT h0 v z63 z49 r72 o54_x7 z56 z53 ht_h0 (by first | decide | omega) (by first | decide | omega)) (cwV 7 hts gX1_extend_X1_extend rfl rfl rfl ⟨rfl, pd_X1_extend⟩ ⟨Nat.le_of_ble_eq_true rfl, Nat.le_of_ble_eq_true rfl⟩) ⟨pz_blind, va_recv hK hP (ci := 1) (q0 := q65) rfl eq65, pz_pre hP hK hD hN⟩ rfl rfl hl.1 rfl (lv_room (Nat.le_of_ble_eq_true rfl)) dX1_extend_128 ⟨Nat.le_of_ble_eq_true rfl, Nat.le_of_ble_eq_true rfl⟩) hS (fun q _ h => hFc q h) hFc (fun f76 t H1 locs ht hvm hw75 hB hz1 hk1 hS => ?_)
            refine tn_3 hw75 (fun hT hF77 hw75p => ?_); clear hw75
            have hR := hR.then hF77 (by decide)
            have hP := hB.1; rw [ht] at hP; have hD := tp_ad f76 hD; clear hB hFc hz1 hk1; subst ht; generalize t.heap = H at hP hS ⊢
            obtain ⟨z78, ez78⟩ : ∃ y : Int32, y = w2 + 1 := ⟨_, rfl⟩
            refine lv_iinc (v := z78) (lv' := [(9, .int z78), (12, .long z56), (11, .int z53), (10, .int z49), (0, .ref h0), (1, .int v), (2, .int dd), (3, .int u), (4, .int a), (5, .int b), (6, .long x), (8, .int a6)]) hx hb dX1_extend_131 hl (k := 3) rfl (by rw [ez78]; rfl) (by decide) rfl (fun ls hl => ?_)
            have iz78 : z78.toInt = w2.toInt + 1 := zi_add ez78 rfl rfl (by omega) (by omega)
            refine lv_goto (tgt := 10) hx hb dX1_extend_134 (by decide) ?_
            exact ih4 _ _ _ _ (by rw [hn5]; omega) ⟨f76, z78, rfl, hT, hR, (by omega), hP, hD, hS, lv_sub hl [0, 4, 5, 6, 7, 8, 9, 10, 11] rfl⟩
  · have ic1 : dd.toInt ≥ 6 := zi_ltf rfl rfl c1
    exfalso; omega
set_option maxHeartbeats 4000000 in
set_option maxRecDepth 100000 in
theorem t_X1_extend2 (l : Launch) (dC : Nat → ClassId) (dI : Nat → Nat → Nat) (sz : Nat) (Ω : Nat → (Nat → Nat) → va_E → Prop) (κ : Nat → ClassId) (τ ν : Nat → Nat) (ρ : Nat → Nat → Nat) (L : List Nat) (f : Nat → va_E) (hG : tp_G τ ν ρ L) (hT : tp_T Ω κ τ ν ρ f) (h0 : Nat) (v : Int32) (dd : Int32) (u : Int32) (a : Int32) (b : Int32) (x : Int64) (a6 : Int32) (ht_h0 : τ h0 = 2) (hr_v : 0 ≤ v.toInt ∧ v.toInt ≤ 2) (hr_dd : 2 ≤ dd.toInt ∧ dd.toInt ≤ 2) : Met l yX1_extend wqX1_extend ({ frames := 8, cells := 0, slots := 0, locals := 2800 }) (va_Pc [.ref h0, .int v, .int dd, .int u, .int a, .int b, .long x, .int a6] (pz_B dC dI (tp_K κ) (va_pl L f) sz)) (va_Qv (fun (f1 : Nat → va_E) => tp_T Ω κ τ ν ρ f1 ∧ tp_F τ [2, 20, 21] f f1 ∧ True) (fun (f1 : Nat → va_E) (t : State) => pz_E dC dI (tp_K κ) (va_A (va_pl L f) sz) (va_pl L f1) t) (va_A (va_pl L f) sz)) 0 0 (va_A (va_pl L f) sz) := by
  refine Met.ofW (cc := cX1_extend) (maxL := 14) (ret := none) (by decide) rfl ?_
  intro p e s m args below meth c s₁ B hml hv
  obtain ⟨rfl, hsz, hP, hK, hD0, hN⟩ := hv
  have hx := B.exec
  have hb := B.bytes
  have hr := B.returns
  have hts := fun (w : Cond) (h : w ∈ WALL) => atoms_spec (ws := wqX1_extend) B.pre w (List.mem_cons_of_mem _ h)
  have hown : s.vm.findClass RX1 = some m.cls := findClass_of_methodNamed B.named
  have hlocks := B.notSynchronized
  subst hsz
  have hD := hD0.self (sz := s.heap.size)
  generalize hAe : va_A (va_pl L f) s.heap.size = A at hD ⊢
  have hA : ∀ q : Nat, s.heap.size ≤ q → A q := fun q h => by rw [← hAe]; exact Or.inr h
  have hS : va_S A s.heap s.heap [] := va_S.rf
  have hR : tp_F τ [2, 20, 21] f f := tp_F.rf
  have hl := lv_entry ([.ref h0, .int v, .int dd, .int u, .int a, .int b, .long x, .int a6]) (n := 14) (Nat.le_of_ble_eq_true rfl)
  rw [lg_entry_eq]
  generalize (lg_sl ([.ref h0, .int v, .int dd, .int u, .int a, .int b, .long x, .int a6]) ++ List.replicate (14 - (lg_sl ([.ref h0, .int v, .int dd, .int u, .int a, .int b, .long x, .int a6])).length) Slot.unset).toArray = ls at hl ⊢
  have hl : lv_has ls 14 [(0, .ref h0), (1, .int v), (2, .int dd), (3, .int u), (4, .int a), (5, .int b), (6, .long x), (8, .int a6)] := hl
  refine lv_iload_n hx hb dX1_extend_0 rfl (lv_at hl 2 rfl) ?_
  refine lv_bipush (v := 6) hx hb dX1_extend_1 (by decide) ?_
  refine lv_icmp_lt (tgt := 7) hx hb dX1_extend_3 (by decide) (fun c1 => ?_) (fun c1 => ?_)
  · have ic1 : dd.toInt < 6 := zi_lt rfl rfl c1
    refine lv_iconst (v := 0) hx hb dX1_extend_7 (by decide) ?_
    refine lv_istore (lv' := [(9, .int 0), (0, .ref h0), (1, .int v), (2, .int dd), (3, .int u), (4, .int a), (5, .int b), (6, .long x), (8, .int a6)]) hx hb dX1_extend_8 hl (by decide) rfl (fun ls hl => ?_)
    refine pz_loop (fun n0 H locs ls => ∃ f3 : Nat → va_E, ∃ w2 : Int32, n0 = (6 - (w2.toInt)).toNat ∧ tp_T Ω κ τ ν ρ f3 ∧ tp_F τ [2, 20, 21] f f3 ∧ (0 ≤ w2.toInt ∧ w2.toInt ≤ 6) ∧ va_P (dC, dI) vwCl (va_pl L f3) H ∧ va_D A (va_pl L f3) ∧ va_S A s.heap H locs ∧ lv_has ls 14 [(9, .int w2), (0, .ref h0), (1, .int v), (2, .int dd), (3, .int u), (4, .int a), (5, .int b), (6, .long x), (8, .int a6)]) ?_ _ _ _ _ ⟨f, 0, rfl, hT, hR, (by have : (0 : Int32).toInt = 0 := rfl; omega), hP, hD, hS, lv_sub hl [0, 1, 2, 3, 4, 5, 6, 7, 8] rfl⟩
    intro n0 H locs ls hI ih4
    refine Exists.elim hI (fun f3 hE90 => Exists.elim hE90 (fun w2 hE91 => tn_8 hE91 (fun hn5 hT hR rw2 hP hD hS hl => ?_)))
    clear hE91 hE90 hI
    refine lv_iload hx hb dX1_extend_10 (lv_at hl 0 rfl) ?_
    refine lv_aload_n hx hb dX1_extend_12 rfl (lv_at hl 1 rfl) ?_
    refine tgk_2 hG ht_h0 (fun y6 y7 y7n y8 y8n y9 y9n y10 y10n y11 y11n y12 y12n y13 y13n y14 y14n y15 y15n => ?_)
    refine tpk_2 hT ht_h0 (fun o16_x5 o16_x6 o16_x7 o16_x8 o16_x9 hf_o16 ro16_0 => ?_)
    refine tpk_pos (tp_in hG ht_h0 (by decide)) hf_o16 (fun q17 eq17 => ?_)
    refine va_get (D := (dC, dI)) (ci := 1) (v := .ref (ρ h0 0)) (C := RX1) (T := TX1) (N := 15) hx hb hts hfX1 hown hK hP q17 eq17 rfl 0 (by decide) (hts (.fieldLink RX1 40 "ColdShips$Planner" "world" "LColdShips$World;") wa_143) (fun _ h9 => h9) rfl dX1_extend_13 ?_
    refine tgk_11 hG y6 (fun y18 y18n y19 y19n y20 y21 y22 y23 y24 y25 y26 y26w y26m y27 y27w y27m y28 y28w y28m y29 y29w y29m => ?_)
    refine tpk_11 hT y6 (fun o30_x0 o30_x1 o30_x2 o30_x3 o30_x4 o30_x5 o30_x6 hf_o30 ro30_0 ro30_1 ro30_2 ro30_3 => ?_)
    refine tpk_pos (tp_in hG y6 (by decide)) hf_o30 (fun q31 eq31 => ?_)
    refine va_getN (D := (dC, dI)) (ci := 10) (v := .ref (ρ (ρ h0 0) 18)) (C := RX10) (T := TX10) (N := 19) hx hb hts hfX10 hown hK hP q31 eq31 rfl 18 (by decide) (va_Nw.use rfl (hN.1 (.fieldLinkNest RX1 50 "ColdShips$World" "cargoes" "LColdShips$Rows;" "ColdShips") nzw_86)) (fun _ h9 => h9) rfl dX1_extend_16 ?_
    refine tgk_5 hG y29 (fun y32 y32n y33a y33b y33c => ?_)
    refine tpk_5 hT y29 (fun o34_x0 o34_x2 hf_o34 ro34_0 ro34_1 => ?_)
    refine tpk_pos (tp_in hG y29 (by decide)) hf_o34 (fun q35 eq35 => ?_)
    refine va_getN (D := (dC, dI)) (ci := 4) (v := .int o34_x2) (C := RX4) (T := TX4) (N := 3) hx hb hts hfX4 hown hK hP q35 eq35 rfl 2 (by decide) (va_Nw.use rfl (hN.1 (.fieldLinkNest RX1 54 "ColdShips$Rows" "size" "I" "ColdShips") nzw_1)) (fun _ h9 => h9) rfl dX1_extend_19 ?_
    refine lv_icmp_ge (tgt := 137) hx hb dX1_extend_22 (by decide) (fun c36 => ?_) (fun c36 => ?_)
    · have ic36 : w2.toInt ≥ o34_x2.toInt := zi_ge rfl rfl c36
      exact W.vret hx hb hr (fun t ht hW => ⟨⟨f3, rfl, ⟨hT, hR, trivial⟩, by rw [ht]; exact hP, va_K.moved hW.alike hK, hD⟩, hS.F ht⟩) hS.2.2 dX1_extend_137
    · have ic36 : w2.toInt < o34_x2.toInt := zi_gef rfl rfl c36
      refine lv_iload hx hb dX1_extend_25 (lv_at hl 0 rfl) ?_
      refine lv_bipush (v := 6) hx hb dX1_extend_27 (by decide) ?_
      refine lv_icmp_ge (tgt := 137) hx hb dX1_extend_29 (by decide) (fun c37 => ?_) (fun c37 => ?_)
      · have ic37 : w2.toInt ≥ 6 := zi_ge rfl rfl c37
        exact W.vret hx hb hr (fun t ht hW => ⟨⟨f3, rfl, ⟨hT, hR, trivial⟩, by rw [ht]; exact hP, va_K.moved hW.alike hK, hD⟩, hS.F ht⟩) hS.2.2 dX1_extend_137
      · have ic37 : w2.toInt < 6 := zi_gef rfl rfl c37
        refine lv_iload_n hx hb dX1_extend_32 rfl (lv_at hl 4 rfl) ?_
        refine lv_iload hx hb dX1_extend_33 (lv_at hl 0 rfl) ?_
        refine lv_ishr hx hb dX1_extend_35 ?_
        refine lv_topi (fun z38 ez38 => ?_)
        refine lv_iconst (v := 1) hx hb dX1_extend_36 (by decide) ?_
        refine lv_iand hx hb dX1_extend_37 ?_
        refine lv_topi (fun z39 ez39 => ?_)
        have iz39 : 0 ≤ z39.toInt ∧ z39.toInt ≤ 1 := zb_mask ez39 (by decide)
        refine lv_if_ne (tgt := 131) hx hb dX1_extend_38 (by decide) (fun c40 => ?_) (fun c40 => ?_)
        · have ic40 : z39.toInt ≠ 0 := zi_ne rfl rfl c40
          obtain ⟨z41, ez41⟩ : ∃ y : Int32, y = w2 + 1 := ⟨_, rfl⟩
          refine lv_iinc (v := z41) (lv' := [(9, .int z41), (0, .ref h0), (1, .int v), (2, .int dd), (3, .int u), (4, .int a), (5, .int b), (6, .long x), (8, .int a6)]) hx hb dX1_extend_131 hl (k := 0) rfl (by rw [ez41]; rfl) (by decide) rfl (fun ls hl => ?_)
          have iz41 : z41.toInt = w2.toInt + 1 := zi_add ez41 rfl rfl (by omega) (by omega)
          refine lv_goto (tgt := 10) hx hb dX1_extend_134 (by decide) ?_
          exact ih4 _ _ _ _ (by rw [hn5]; omega) ⟨f3, z41, rfl, hT, hR, (by omega), hP, hD, hS, lv_sub hl [0, 1, 2, 3, 4, 5, 6, 7, 8] rfl⟩
        · have ic40 : z39.toInt = 0 := zi_nef rfl rfl c40
          refine lv_aload_n hx hb dX1_extend_41 rfl (lv_at hl 1 rfl) ?_
          refine lv_iload_n hx hb dX1_extend_42 rfl (lv_at hl 2 rfl) ?_
          refine lv_iload hx hb dX1_extend_43 (lv_at hl 0 rfl) ?_
          refine lv_iload hx hb dX1_extend_45 (lv_at hl 5 rfl) ?_
          refine lv_iload hx hb dX1_extend_47 (lv_at hl 6 rfl) ?_
          have hFc := tp_fr hD hS hA
          refine va_calli (va_runV (As := [.int v, .int w2, .int a, .int b]) (rest := []) ⟨hx, hb, hml, hown, hts⟩ (t_X1_reckon l dC dI _ Ω κ τ ν ρ L f3 hG hT h0 v w2 a b ht_h0 (by first | decide | omega)) (cwV 4 hts gX1_extend_X1_reckon rfl rfl rfl ⟨rfl, pd_X1_reckon⟩ ⟨Nat.le_of_ble_eq_true rfl, Nat.le_of_ble_eq_true rfl⟩) ⟨pz_blind, va_recv hK hP (ci := 1) (q0 := q17) rfl eq17, pz_pre hP hK hD hN⟩ rfl rfl hl.1 rfl (lv_room (Nat.le_of_ble_eq_true rfl)) dX1_extend_49 ⟨Nat.le_of_ble_eq_true rfl, Nat.le_of_ble_eq_true rfl⟩) hS (fun q _ h => hFc q h) hFc (fun r42 f44 t H1 locs ht hvm hw43 hB hz1 hk1 hS => ?_)
          refine tn_4 hw43 (fun hT hF45 hw43r hw43p => ?_); clear hw43
          have hR := hR.then hF45 (by decide)
          have hP := hB.1; rw [ht] at hP; have hD := tp_ad f44 hD; clear hB hFc hz1 hk1; subst ht; generalize t.heap = H at hP hS ⊢
          refine lv_if_eq (tgt := 131) hx hb dX1_extend_52 (by decide) (fun c46 => ?_) (fun c46 => ?_)
          · have ic46 : r42.toInt = 0 := zi_eq rfl rfl c46
            obtain ⟨z47, ez47⟩ : ∃ y : Int32, y = w2 + 1 := ⟨_, rfl⟩
            refine lv_iinc (v := z47) (lv' := [(9, .int z47), (0, .ref h0), (1, .int v), (2, .int dd), (3, .int u), (4, .int a), (5, .int b), (6, .long x), (8, .int a6)]) hx hb dX1_extend_131 hl (k := 0) rfl (by rw [ez47]; rfl) (by decide) rfl (fun ls hl => ?_)
            have iz47 : z47.toInt = w2.toInt + 1 := zi_add ez47 rfl rfl (by omega) (by omega)
            refine lv_goto (tgt := 10) hx hb dX1_extend_134 (by decide) ?_
            exact ih4 _ _ _ _ (by rw [hn5]; omega) ⟨f44, z47, rfl, hT, hR, (by omega), hP, hD, hS, lv_sub hl [0, 1, 2, 3, 4, 5, 6, 7, 8] rfl⟩
          · have ic46 : r42.toInt ≠ 0 := zi_eqf rfl rfl c46
            refine lv_iload_n hx hb dX1_extend_55 rfl (lv_at hl 4 rfl) ?_
            refine lv_iconst (v := 1) hx hb dX1_extend_56 (by decide) ?_
            refine lv_iload hx hb dX1_extend_57 (lv_at hl 0 rfl) ?_
            refine lv_ishl hx hb dX1_extend_59 ?_
            refine lv_topi (fun z48 ez48 => ?_)
            have iz48 : 1 ≤ z48.toInt ∧ z48.toInt ≤ 32 := zb_shl5 ez48 rfl (by omega) (by omega)
            refine lv_ior hx hb dX1_extend_60 ?_
            refine lv_topi (fun z49 ez49 => ?_)
            refine lv_istore (lv' := [(10, .int z49), (9, .int w2), (0, .ref h0), (1, .int v), (2, .int dd), (3, .int u), (4, .int a), (5, .int b), (6, .long x), (8, .int a6)]) hx hb dX1_extend_61 hl (by decide) rfl (fun ls hl => ?_)
            refine lv_iload hx hb dX1_extend_63 (lv_at hl 9 rfl) ?_
            refine lv_iload_n hx hb dX1_extend_65 rfl (lv_at hl 4 rfl) ?_
            refine lv_iconst (v := 3) hx hb dX1_extend_66 (by decide) ?_
            refine lv_iconst (v := 5) hx hb dX1_extend_67 (by decide) ?_
            refine lv_iload hx hb dX1_extend_68 (lv_at hl 1 rfl) ?_
            refine lv_isub hx hb dX1_extend_70 ?_
            refine lv_topi (fun z50 ez50 => ?_)
            have iz50 : z50.toInt = 5 - w2.toInt := zi_sub ez50 rfl rfl (by omega) (by omega)
            refine lv_imul hx hb dX1_extend_71 ?_
            refine lv_topi (fun z51 ez51 => ?_)
            have iz51 : z51.toInt = 3 * z50.toInt := zi_mul ez51 rfl rfl (by omega) (by omega)
            refine lv_ishl hx hb dX1_extend_72 ?_
            refine lv_topi (fun z52 ez52 => ?_)
            refine lv_ior hx hb dX1_extend_73 ?_
            refine lv_topi (fun z53 ez53 => ?_)
            refine lv_istore (lv' := [(11, .int z53), (10, .int z49), (9, .int w2), (0, .ref h0), (1, .int v), (2, .int dd), (3, .int u), (4, .int a), (5, .int b), (6, .long x), (8, .int a6)]) hx hb dX1_extend_74 hl (by decide) rfl (fun ls hl => ?_)
            refine lv_lload hx hb dX1_extend_76 (lv_at hl 9 rfl) ?_
            refine lv_aload_n hx hb dX1_extend_78 rfl (lv_at hl 3 rfl) ?_
            refine tpk_2 hT ht_h0 (fun o54_x5 o54_x6 o54_x7 o54_x8 o54_x9 hf_o54 ro54_0 => ?_)
            refine tpk_pos (tp_in hG ht_h0 (by decide)) hf_o54 (fun q55 eq55 => ?_)
            refine va_get (D := (dC, dI)) (ci := 1) (v := .long o54_x8) (C := RX1) (T := TX1) (N := 15) hx hb hts hfX1 hown hK hP q55 eq55 rfl 8 (by decide) (hts (.fieldLink RX1 108 "ColdShips$Planner" "worth" "J") wa_1356) (fun _ h9 => h9) rfl dX1_extend_79 ?_
            refine lv_ladd hx hb dX1_extend_82 ?_
            refine lv_topl (fun z56 ez56 => ?_)
            refine lv_lstore (lv' := [(12, .long z56), (11, .int z53), (10, .int z49), (9, .int w2), (0, .ref h0), (1, .int v), (2, .int dd), (3, .int u), (4, .int a), (5, .int b), (6, .long x), (8, .int a6)]) hx hb dX1_extend_83 hl (by decide) rfl (fun ls hl => ?_)
            refine lv_aload_n hx hb dX1_extend_85 rfl (lv_at hl 4 rfl) ?_
            refine lv_iload_n hx hb dX1_extend_86 rfl (lv_at hl 5 rfl) ?_
            refine lv_bipush (v := 64) hx hb dX1_extend_87 (by decide) ?_
            refine lv_imul hx hb dX1_extend_89 ?_
            refine lv_topi (fun z57 ez57 => ?_)
            have iz57 : z57.toInt = v.toInt * 64 := zi_mul ez57 rfl rfl (by omega) (by omega)
            refine lv_iload hx hb dX1_extend_90 (lv_at hl 2 rfl) ?_
            refine lv_iadd hx hb dX1_extend_92 ?_
            refine lv_topi (fun z58 ez58 => ?_)
            refine lv_lload hx hb dX1_extend_93 (lv_at hl 0 rfl) ?_
            refine lv_iload hx hb dX1_extend_95 (lv_at hl 1 rfl) ?_
            have hFc := tp_fr hD hS hA
            refine va_callv (va_runV (As := [.int z58, .long z56, .int z53]) (rest := []) ⟨hx, hb, hml, hown, hts⟩ (t_X1_keepRow l dC dI _ Ω κ τ ν ρ L f44 hG hT h0 z58 z56 z53 ht_h0) (cwV 3 hts gX1_extend_X1_keepRow rfl rfl rfl ⟨rfl, pd_X1_keepRow⟩ ⟨Nat.le_of_ble_eq_true rfl, Nat.le_of_ble_eq_true rfl⟩) ⟨pz_blind, va_recv hK hP (ci := 1) (q0 := q55) rfl eq55, pz_pre hP hK hD hN⟩ rfl rfl hl.1 rfl (lv_room (Nat.le_of_ble_eq_true rfl)) dX1_extend_97 ⟨Nat.le_of_ble_eq_true rfl, Nat.le_of_ble_eq_true rfl⟩) hS (fun q _ h => hFc q h) hFc (fun f61 t H1 locs ht hvm hw60 hB hz1 hk1 hS => ?_)
            refine tn_3 hw60 (fun hT hF62 hw60p => ?_); clear hw60
            have hR := hR.then hF62 (by decide)
            have hP := hB.1; rw [ht] at hP; have hD := tp_ad f61 hD; clear hB hFc hz1 hk1; subst ht; generalize t.heap = H at hP hS ⊢
            refine lv_aload_n hx hb dX1_extend_100 rfl (lv_at hl 4 rfl) ?_
            refine lv_iload_n hx hb dX1_extend_101 rfl (lv_at hl 5 rfl) ?_
            refine lv_iload_n hx hb dX1_extend_102 rfl (lv_at hl 6 rfl) ?_
            refine lv_iconst (v := 1) hx hb dX1_extend_103 (by decide) ?_
            refine lv_iadd hx hb dX1_extend_104 ?_
            refine lv_topi (fun z63 ez63 => ?_)
            have iz63 : z63.toInt = dd.toInt + 1 := zi_add ez63 rfl rfl (by omega) (by omega)
            refine lv_iload hx hb dX1_extend_105 (lv_at hl 2 rfl) ?_
            refine lv_aload_n hx hb dX1_extend_107 rfl (lv_at hl 4 rfl) ?_
            have hf_64 : f61 h0 = .inr (1, [.ref (ρ h0 0), .ref (ρ h0 1), .ref (ρ h0 2), .ref (ρ h0 3), .ref (ρ h0 4), .int o54_x5, .int o54_x6, .int o54_x7, .long o54_x8, .int o54_x9, .ref (ρ h0 10), .ref (ρ h0 11), .ref (ρ h0 12), .ref (ρ h0 13), .ref (ρ h0 14)]) := (hF62 _ (by rw [ht_h0]; decide)).trans hf_o54
            refine tpk_pos (tp_in hG ht_h0 (by decide)) hf_64 (fun q65 eq65 => ?_)
            refine va_get (D := (dC, dI)) (ci := 1) (v := .ref (ρ h0 0)) (C := RX1) (T := TX1) (N := 15) hx hb hts hfX1 hown hK hP q65 eq65 rfl 0 (by decide) (hts (.fieldLink RX1 40 "ColdShips$Planner" "world" "LColdShips$World;") wa_143) (fun _ h9 => h9) rfl dX1_extend_108 ?_
            have hf_66 : f44 (ρ h0 0) = .inr (10, [.int o30_x0, .int o30_x1, .int o30_x2, .int o30_x3, .int o30_x4, .int o30_x5, .int o30_x6, .ref (ρ (ρ h0 0) 7), .ref (ρ (ρ h0 0) 8), .ref (ρ (ρ h0 0) 9), .ref (ρ (ρ h0 0) 10), .ref (ρ (ρ h0 0) 11), .ref (ρ (ρ h0 0) 12), .ref (ρ (ρ h0 0) 13), .ref (ρ (ρ h0 0) 14), .ref (ρ (ρ h0 0) 15), .ref (ρ (ρ h0 0) 16), .ref (ρ (ρ h0 0) 17), .ref (ρ (ρ h0 0) 18)]) := (hF45 _ (by rw [y6]; decide)).trans hf_o30
            have hf_67 : f61 (ρ h0 0) = .inr (10, [.int o30_x0, .int o30_x1, .int o30_x2, .int o30_x3, .int o30_x4, .int o30_x5, .int o30_x6, .ref (ρ (ρ h0 0) 7), .ref (ρ (ρ h0 0) 8), .ref (ρ (ρ h0 0) 9), .ref (ρ (ρ h0 0) 10), .ref (ρ (ρ h0 0) 11), .ref (ρ (ρ h0 0) 12), .ref (ρ (ρ h0 0) 13), .ref (ρ (ρ h0 0) 14), .ref (ρ (ρ h0 0) 15), .ref (ρ (ρ h0 0) 16), .ref (ρ (ρ h0 0) 17), .ref (ρ (ρ h0 0) 18)]) := (hF62 _ (by rw [y6]; decide)).trans hf_66
            refine tpk_pos (tp_in hG y6 (by decide)) hf_67 (fun q68 eq68 => ?_)
            refine va_getN (D := (dC, dI)) (ci := 10) (v := .ref (ρ (ρ h0 0) 18)) (C := RX10) (T := TX10) (N := 19) hx hb hts hfX10 hown hK hP q68 eq68 rfl 18 (by decide) (va_Nw.use rfl (hN.1 (.fieldLinkNest RX1 50 "ColdShips$World" "cargoes" "LColdShips$Rows;" "ColdShips") nzw_86)) (fun _ h9 => h9) rfl dX1_extend_111 ?_
            refine lv_iload hx hb dX1_extend_114 (lv_at hl 3 rfl) ?_
            refine lv_iconst (v := 1) hx hb dX1_extend_116 (by decide) ?_
            have hf_69 : f44 (ρ (ρ h0 0) 18) = .inr (4, [.int o34_x0, .ref (ρ (ρ (ρ h0 0) 18) 1), .int o34_x2]) := (hF45 _ (by rw [y29]; decide)).trans hf_o34
            have hf_70 : f61 (ρ (ρ h0 0) 18) = .inr (4, [.int o34_x0, .ref (ρ (ρ (ρ h0 0) 18) 1), .int o34_x2]) := (hF62 _ (by rw [y29]; decide)).trans hf_69
            refine tpk_pos (tp_in hG y29 (by decide)) hf_70 (fun q71 eq71 => ?_)
            refine pz_calli (va_runV (As := [.int w2, .int 1]) (rest := [.int z49, .int z63, .int v, .ref h0]) ⟨hx, hb, hml, hown, hts⟩ (t_X4_number l dC dI _ Ω κ τ ν ρ L f61 hG hT (ρ (ρ h0 0) 18) w2 (1) y29) (cwV 2 hts gX1_extend_X4_number rfl rfl rfl ⟨rfl, pd_X4_number⟩ ⟨Nat.le_of_ble_eq_true rfl, Nat.le_of_ble_eq_true rfl⟩) ⟨pz_blind, va_recv hK hP (ci := 4) (q0 := q71) rfl eq71, pz_pre hP hK hD hN⟩ rfl rfl hl.1 rfl (lv_room (Nat.le_of_ble_eq_true rfl)) dX1_extend_117 ⟨Nat.le_of_ble_eq_true rfl, Nat.le_of_ble_eq_true rfl⟩) (fun r72 hw73 => ?_)
            obtain ⟨hw73r, hw73p⟩ := hw73
            refine lv_aload_n hx hb dX1_extend_120 rfl (lv_at hl 4 rfl) ?_
            refine va_get (D := (dC, dI)) (ci := 1) (v := .int o54_x7) (C := RX1) (T := TX1) (N := 15) hx hb hts hfX1 hown hK hP q65 eq65 rfl 7 (by decide) (hts (.fieldLink RX1 119 "ColdShips$Planner" "freeAt" "I") wa_1357) (fun _ h9 => h9) rfl dX1_extend_121 ?_
            refine lv_lload hx hb dX1_extend_124 (lv_at hl 0 rfl) ?_
            refine lv_iload hx hb dX1_extend_126 (lv_at hl 1 rfl) ?_
            have hFc := tp_fr hD hS hA
            refine va_callv (va_runV (As := [.int v, .int z63, .int z49, .int r72, .int o54_x7, .long z56, .int z53]) (rest := []) ⟨hx, hb, hml, hown, hts⟩ (t_X1_extend3 l dC dI _ Ω κ τ ν ρ L f61 hG hT h0 v z63 z49 r72 o54_x7 z56 z53 ht_h0 (by first | decide | omega) (by first | decide | omega)) (cwV 7 hts gX1_extend_X1_extend rfl rfl rfl ⟨rfl, pd_X1_extend⟩ ⟨Nat.le_of_ble_eq_true rfl, Nat.le_of_ble_eq_true rfl⟩) ⟨pz_blind, va_recv hK hP (ci := 1) (q0 := q65) rfl eq65, pz_pre hP hK hD hN⟩ rfl rfl hl.1 rfl (lv_room (Nat.le_of_ble_eq_true rfl)) dX1_extend_128 ⟨Nat.le_of_ble_eq_true rfl, Nat.le_of_ble_eq_true rfl⟩) hS (fun q _ h => hFc q h) hFc (fun f76 t H1 locs ht hvm hw75 hB hz1 hk1 hS => ?_)
            refine tn_3 hw75 (fun hT hF77 hw75p => ?_); clear hw75
            have hR := hR.then hF77 (by decide)
            have hP := hB.1; rw [ht] at hP; have hD := tp_ad f76 hD; clear hB hFc hz1 hk1; subst ht; generalize t.heap = H at hP hS ⊢
            obtain ⟨z78, ez78⟩ : ∃ y : Int32, y = w2 + 1 := ⟨_, rfl⟩
            refine lv_iinc (v := z78) (lv' := [(9, .int z78), (12, .long z56), (11, .int z53), (10, .int z49), (0, .ref h0), (1, .int v), (2, .int dd), (3, .int u), (4, .int a), (5, .int b), (6, .long x), (8, .int a6)]) hx hb dX1_extend_131 hl (k := 3) rfl (by rw [ez78]; rfl) (by decide) rfl (fun ls hl => ?_)
            have iz78 : z78.toInt = w2.toInt + 1 := zi_add ez78 rfl rfl (by omega) (by omega)
            refine lv_goto (tgt := 10) hx hb dX1_extend_134 (by decide) ?_
            exact ih4 _ _ _ _ (by rw [hn5]; omega) ⟨f76, z78, rfl, hT, hR, (by omega), hP, hD, hS, lv_sub hl [0, 4, 5, 6, 7, 8, 9, 10, 11] rfl⟩
  · have ic1 : dd.toInt ≥ 6 := zi_ltf rfl rfl c1
    exfalso; omega
set_option maxHeartbeats 4000000 in
set_option maxRecDepth 100000 in
theorem t_X1_extend1 (l : Launch) (dC : Nat → ClassId) (dI : Nat → Nat → Nat) (sz : Nat) (Ω : Nat → (Nat → Nat) → va_E → Prop) (κ : Nat → ClassId) (τ ν : Nat → Nat) (ρ : Nat → Nat → Nat) (L : List Nat) (f : Nat → va_E) (hG : tp_G τ ν ρ L) (hT : tp_T Ω κ τ ν ρ f) (h0 : Nat) (v : Int32) (dd : Int32) (u : Int32) (a : Int32) (b : Int32) (x : Int64) (a6 : Int32) (ht_h0 : τ h0 = 2) (hr_v : 0 ≤ v.toInt ∧ v.toInt ≤ 2) (hr_dd : 1 ≤ dd.toInt ∧ dd.toInt ≤ 1) : Met l yX1_extend wqX1_extend ({ frames := 9, cells := 0, slots := 0, locals := 3200 }) (va_Pc [.ref h0, .int v, .int dd, .int u, .int a, .int b, .long x, .int a6] (pz_B dC dI (tp_K κ) (va_pl L f) sz)) (va_Qv (fun (f1 : Nat → va_E) => tp_T Ω κ τ ν ρ f1 ∧ tp_F τ [2, 20, 21] f f1 ∧ True) (fun (f1 : Nat → va_E) (t : State) => pz_E dC dI (tp_K κ) (va_A (va_pl L f) sz) (va_pl L f1) t) (va_A (va_pl L f) sz)) 0 0 (va_A (va_pl L f) sz) := by
  refine Met.ofW (cc := cX1_extend) (maxL := 14) (ret := none) (by decide) rfl ?_
  intro p e s m args below meth c s₁ B hml hv
  obtain ⟨rfl, hsz, hP, hK, hD0, hN⟩ := hv
  have hx := B.exec
  have hb := B.bytes
  have hr := B.returns
  have hts := fun (w : Cond) (h : w ∈ WALL) => atoms_spec (ws := wqX1_extend) B.pre w (List.mem_cons_of_mem _ h)
  have hown : s.vm.findClass RX1 = some m.cls := findClass_of_methodNamed B.named
  have hlocks := B.notSynchronized
  subst hsz
  have hD := hD0.self (sz := s.heap.size)
  generalize hAe : va_A (va_pl L f) s.heap.size = A at hD ⊢
  have hA : ∀ q : Nat, s.heap.size ≤ q → A q := fun q h => by rw [← hAe]; exact Or.inr h
  have hS : va_S A s.heap s.heap [] := va_S.rf
  have hR : tp_F τ [2, 20, 21] f f := tp_F.rf
  have hl := lv_entry ([.ref h0, .int v, .int dd, .int u, .int a, .int b, .long x, .int a6]) (n := 14) (Nat.le_of_ble_eq_true rfl)
  rw [lg_entry_eq]
  generalize (lg_sl ([.ref h0, .int v, .int dd, .int u, .int a, .int b, .long x, .int a6]) ++ List.replicate (14 - (lg_sl ([.ref h0, .int v, .int dd, .int u, .int a, .int b, .long x, .int a6])).length) Slot.unset).toArray = ls at hl ⊢
  have hl : lv_has ls 14 [(0, .ref h0), (1, .int v), (2, .int dd), (3, .int u), (4, .int a), (5, .int b), (6, .long x), (8, .int a6)] := hl
  refine lv_iload_n hx hb dX1_extend_0 rfl (lv_at hl 2 rfl) ?_
  refine lv_bipush (v := 6) hx hb dX1_extend_1 (by decide) ?_
  refine lv_icmp_lt (tgt := 7) hx hb dX1_extend_3 (by decide) (fun c1 => ?_) (fun c1 => ?_)
  · have ic1 : dd.toInt < 6 := zi_lt rfl rfl c1
    refine lv_iconst (v := 0) hx hb dX1_extend_7 (by decide) ?_
    refine lv_istore (lv' := [(9, .int 0), (0, .ref h0), (1, .int v), (2, .int dd), (3, .int u), (4, .int a), (5, .int b), (6, .long x), (8, .int a6)]) hx hb dX1_extend_8 hl (by decide) rfl (fun ls hl => ?_)
    refine pz_loop (fun n0 H locs ls => ∃ f3 : Nat → va_E, ∃ w2 : Int32, n0 = (6 - (w2.toInt)).toNat ∧ tp_T Ω κ τ ν ρ f3 ∧ tp_F τ [2, 20, 21] f f3 ∧ (0 ≤ w2.toInt ∧ w2.toInt ≤ 6) ∧ va_P (dC, dI) vwCl (va_pl L f3) H ∧ va_D A (va_pl L f3) ∧ va_S A s.heap H locs ∧ lv_has ls 14 [(9, .int w2), (0, .ref h0), (1, .int v), (2, .int dd), (3, .int u), (4, .int a), (5, .int b), (6, .long x), (8, .int a6)]) ?_ _ _ _ _ ⟨f, 0, rfl, hT, hR, (by have : (0 : Int32).toInt = 0 := rfl; omega), hP, hD, hS, lv_sub hl [0, 1, 2, 3, 4, 5, 6, 7, 8] rfl⟩
    intro n0 H locs ls hI ih4
    refine Exists.elim hI (fun f3 hE90 => Exists.elim hE90 (fun w2 hE91 => tn_8 hE91 (fun hn5 hT hR rw2 hP hD hS hl => ?_)))
    clear hE91 hE90 hI
    refine lv_iload hx hb dX1_extend_10 (lv_at hl 0 rfl) ?_
    refine lv_aload_n hx hb dX1_extend_12 rfl (lv_at hl 1 rfl) ?_
    refine tgk_2 hG ht_h0 (fun y6 y7 y7n y8 y8n y9 y9n y10 y10n y11 y11n y12 y12n y13 y13n y14 y14n y15 y15n => ?_)
    refine tpk_2 hT ht_h0 (fun o16_x5 o16_x6 o16_x7 o16_x8 o16_x9 hf_o16 ro16_0 => ?_)
    refine tpk_pos (tp_in hG ht_h0 (by decide)) hf_o16 (fun q17 eq17 => ?_)
    refine va_get (D := (dC, dI)) (ci := 1) (v := .ref (ρ h0 0)) (C := RX1) (T := TX1) (N := 15) hx hb hts hfX1 hown hK hP q17 eq17 rfl 0 (by decide) (hts (.fieldLink RX1 40 "ColdShips$Planner" "world" "LColdShips$World;") wa_143) (fun _ h9 => h9) rfl dX1_extend_13 ?_
    refine tgk_11 hG y6 (fun y18 y18n y19 y19n y20 y21 y22 y23 y24 y25 y26 y26w y26m y27 y27w y27m y28 y28w y28m y29 y29w y29m => ?_)
    refine tpk_11 hT y6 (fun o30_x0 o30_x1 o30_x2 o30_x3 o30_x4 o30_x5 o30_x6 hf_o30 ro30_0 ro30_1 ro30_2 ro30_3 => ?_)
    refine tpk_pos (tp_in hG y6 (by decide)) hf_o30 (fun q31 eq31 => ?_)
    refine va_getN (D := (dC, dI)) (ci := 10) (v := .ref (ρ (ρ h0 0) 18)) (C := RX10) (T := TX10) (N := 19) hx hb hts hfX10 hown hK hP q31 eq31 rfl 18 (by decide) (va_Nw.use rfl (hN.1 (.fieldLinkNest RX1 50 "ColdShips$World" "cargoes" "LColdShips$Rows;" "ColdShips") nzw_86)) (fun _ h9 => h9) rfl dX1_extend_16 ?_
    refine tgk_5 hG y29 (fun y32 y32n y33a y33b y33c => ?_)
    refine tpk_5 hT y29 (fun o34_x0 o34_x2 hf_o34 ro34_0 ro34_1 => ?_)
    refine tpk_pos (tp_in hG y29 (by decide)) hf_o34 (fun q35 eq35 => ?_)
    refine va_getN (D := (dC, dI)) (ci := 4) (v := .int o34_x2) (C := RX4) (T := TX4) (N := 3) hx hb hts hfX4 hown hK hP q35 eq35 rfl 2 (by decide) (va_Nw.use rfl (hN.1 (.fieldLinkNest RX1 54 "ColdShips$Rows" "size" "I" "ColdShips") nzw_1)) (fun _ h9 => h9) rfl dX1_extend_19 ?_
    refine lv_icmp_ge (tgt := 137) hx hb dX1_extend_22 (by decide) (fun c36 => ?_) (fun c36 => ?_)
    · have ic36 : w2.toInt ≥ o34_x2.toInt := zi_ge rfl rfl c36
      exact W.vret hx hb hr (fun t ht hW => ⟨⟨f3, rfl, ⟨hT, hR, trivial⟩, by rw [ht]; exact hP, va_K.moved hW.alike hK, hD⟩, hS.F ht⟩) hS.2.2 dX1_extend_137
    · have ic36 : w2.toInt < o34_x2.toInt := zi_gef rfl rfl c36
      refine lv_iload hx hb dX1_extend_25 (lv_at hl 0 rfl) ?_
      refine lv_bipush (v := 6) hx hb dX1_extend_27 (by decide) ?_
      refine lv_icmp_ge (tgt := 137) hx hb dX1_extend_29 (by decide) (fun c37 => ?_) (fun c37 => ?_)
      · have ic37 : w2.toInt ≥ 6 := zi_ge rfl rfl c37
        exact W.vret hx hb hr (fun t ht hW => ⟨⟨f3, rfl, ⟨hT, hR, trivial⟩, by rw [ht]; exact hP, va_K.moved hW.alike hK, hD⟩, hS.F ht⟩) hS.2.2 dX1_extend_137
      · have ic37 : w2.toInt < 6 := zi_gef rfl rfl c37
        refine lv_iload_n hx hb dX1_extend_32 rfl (lv_at hl 4 rfl) ?_
        refine lv_iload hx hb dX1_extend_33 (lv_at hl 0 rfl) ?_
        refine lv_ishr hx hb dX1_extend_35 ?_
        refine lv_topi (fun z38 ez38 => ?_)
        refine lv_iconst (v := 1) hx hb dX1_extend_36 (by decide) ?_
        refine lv_iand hx hb dX1_extend_37 ?_
        refine lv_topi (fun z39 ez39 => ?_)
        have iz39 : 0 ≤ z39.toInt ∧ z39.toInt ≤ 1 := zb_mask ez39 (by decide)
        refine lv_if_ne (tgt := 131) hx hb dX1_extend_38 (by decide) (fun c40 => ?_) (fun c40 => ?_)
        · have ic40 : z39.toInt ≠ 0 := zi_ne rfl rfl c40
          obtain ⟨z41, ez41⟩ : ∃ y : Int32, y = w2 + 1 := ⟨_, rfl⟩
          refine lv_iinc (v := z41) (lv' := [(9, .int z41), (0, .ref h0), (1, .int v), (2, .int dd), (3, .int u), (4, .int a), (5, .int b), (6, .long x), (8, .int a6)]) hx hb dX1_extend_131 hl (k := 0) rfl (by rw [ez41]; rfl) (by decide) rfl (fun ls hl => ?_)
          have iz41 : z41.toInt = w2.toInt + 1 := zi_add ez41 rfl rfl (by omega) (by omega)
          refine lv_goto (tgt := 10) hx hb dX1_extend_134 (by decide) ?_
          exact ih4 _ _ _ _ (by rw [hn5]; omega) ⟨f3, z41, rfl, hT, hR, (by omega), hP, hD, hS, lv_sub hl [0, 1, 2, 3, 4, 5, 6, 7, 8] rfl⟩
        · have ic40 : z39.toInt = 0 := zi_nef rfl rfl c40
          refine lv_aload_n hx hb dX1_extend_41 rfl (lv_at hl 1 rfl) ?_
          refine lv_iload_n hx hb dX1_extend_42 rfl (lv_at hl 2 rfl) ?_
          refine lv_iload hx hb dX1_extend_43 (lv_at hl 0 rfl) ?_
          refine lv_iload hx hb dX1_extend_45 (lv_at hl 5 rfl) ?_
          refine lv_iload hx hb dX1_extend_47 (lv_at hl 6 rfl) ?_
          have hFc := tp_fr hD hS hA
          refine va_calli (va_runV (As := [.int v, .int w2, .int a, .int b]) (rest := []) ⟨hx, hb, hml, hown, hts⟩ (t_X1_reckon l dC dI _ Ω κ τ ν ρ L f3 hG hT h0 v w2 a b ht_h0 (by first | decide | omega)) (cwV 4 hts gX1_extend_X1_reckon rfl rfl rfl ⟨rfl, pd_X1_reckon⟩ ⟨Nat.le_of_ble_eq_true rfl, Nat.le_of_ble_eq_true rfl⟩) ⟨pz_blind, va_recv hK hP (ci := 1) (q0 := q17) rfl eq17, pz_pre hP hK hD hN⟩ rfl rfl hl.1 rfl (lv_room (Nat.le_of_ble_eq_true rfl)) dX1_extend_49 ⟨Nat.le_of_ble_eq_true rfl, Nat.le_of_ble_eq_true rfl⟩) hS (fun q _ h => hFc q h) hFc (fun r42 f44 t H1 locs ht hvm hw43 hB hz1 hk1 hS => ?_)
          refine tn_4 hw43 (fun hT hF45 hw43r hw43p => ?_); clear hw43
          have hR := hR.then hF45 (by decide)
          have hP := hB.1; rw [ht] at hP; have hD := tp_ad f44 hD; clear hB hFc hz1 hk1; subst ht; generalize t.heap = H at hP hS ⊢
          refine lv_if_eq (tgt := 131) hx hb dX1_extend_52 (by decide) (fun c46 => ?_) (fun c46 => ?_)
          · have ic46 : r42.toInt = 0 := zi_eq rfl rfl c46
            obtain ⟨z47, ez47⟩ : ∃ y : Int32, y = w2 + 1 := ⟨_, rfl⟩
            refine lv_iinc (v := z47) (lv' := [(9, .int z47), (0, .ref h0), (1, .int v), (2, .int dd), (3, .int u), (4, .int a), (5, .int b), (6, .long x), (8, .int a6)]) hx hb dX1_extend_131 hl (k := 0) rfl (by rw [ez47]; rfl) (by decide) rfl (fun ls hl => ?_)
            have iz47 : z47.toInt = w2.toInt + 1 := zi_add ez47 rfl rfl (by omega) (by omega)
            refine lv_goto (tgt := 10) hx hb dX1_extend_134 (by decide) ?_
            exact ih4 _ _ _ _ (by rw [hn5]; omega) ⟨f44, z47, rfl, hT, hR, (by omega), hP, hD, hS, lv_sub hl [0, 1, 2, 3, 4, 5, 6, 7, 8] rfl⟩
          · have ic46 : r42.toInt ≠ 0 := zi_eqf rfl rfl c46
            refine lv_iload_n hx hb dX1_extend_55 rfl (lv_at hl 4 rfl) ?_
            refine lv_iconst (v := 1) hx hb dX1_extend_56 (by decide) ?_
            refine lv_iload hx hb dX1_extend_57 (lv_at hl 0 rfl) ?_
            refine lv_ishl hx hb dX1_extend_59 ?_
            refine lv_topi (fun z48 ez48 => ?_)
            have iz48 : 1 ≤ z48.toInt ∧ z48.toInt ≤ 32 := zb_shl5 ez48 rfl (by omega) (by omega)
            refine lv_ior hx hb dX1_extend_60 ?_
            refine lv_topi (fun z49 ez49 => ?_)
            refine lv_istore (lv' := [(10, .int z49), (9, .int w2), (0, .ref h0), (1, .int v), (2, .int dd), (3, .int u), (4, .int a), (5, .int b), (6, .long x), (8, .int a6)]) hx hb dX1_extend_61 hl (by decide) rfl (fun ls hl => ?_)
            refine lv_iload hx hb dX1_extend_63 (lv_at hl 9 rfl) ?_
            refine lv_iload_n hx hb dX1_extend_65 rfl (lv_at hl 4 rfl) ?_
            refine lv_iconst (v := 3) hx hb dX1_extend_66 (by decide) ?_
            refine lv_iconst (v := 5) hx hb dX1_extend_67 (by decide) ?_
            refine lv_iload hx hb dX1_extend_68 (lv_at hl 1 rfl) ?_
            refine lv_isub hx hb dX1_extend_70 ?_
            refine lv_topi (fun z50 ez50 => ?_)
            have iz50 : z50.toInt = 5 - w2.toInt := zi_sub ez50 rfl rfl (by omega) (by omega)
            refine lv_imul hx hb dX1_extend_71 ?_
            refine lv_topi (fun z51 ez51 => ?_)
            have iz51 : z51.toInt = 3 * z50.toInt := zi_mul ez51 rfl rfl (by omega) (by omega)
            refine lv_ishl hx hb dX1_extend_72 ?_
            refine lv_topi (fun z52 ez52 => ?_)
            refine lv_ior hx hb dX1_extend_73 ?_
            refine lv_topi (fun z53 ez53 => ?_)
            refine lv_istore (lv' := [(11, .int z53), (10, .int z49), (9, .int w2), (0, .ref h0), (1, .int v), (2, .int dd), (3, .int u), (4, .int a), (5, .int b), (6, .long x), (8, .int a6)]) hx hb dX1_extend_74 hl (by decide) rfl (fun ls hl => ?_)
            refine lv_lload hx hb dX1_extend_76 (lv_at hl 9 rfl) ?_
            refine lv_aload_n hx hb dX1_extend_78 rfl (lv_at hl 3 rfl) ?_
            refine tpk_2 hT ht_h0 (fun o54_x5 o54_x6 o54_x7 o54_x8 o54_x9 hf_o54 ro54_0 => ?_)
            refine tpk_pos (tp_in hG ht_h0 (by decide)) hf_o54 (fun q55 eq55 => ?_)
            refine va_get (D := (dC, dI)) (ci := 1) (v := .long o54_x8) (C := RX1) (T := TX1) (N := 15) hx hb hts hfX1 hown hK hP q55 eq55 rfl 8 (by decide) (hts (.fieldLink RX1 108 "ColdShips$Planner" "worth" "J") wa_1356) (fun _ h9 => h9) rfl dX1_extend_79 ?_
            refine lv_ladd hx hb dX1_extend_82 ?_
            refine lv_topl (fun z56 ez56 => ?_)
            refine lv_lstore (lv' := [(12, .long z56), (11, .int z53), (10, .int z49), (9, .int w2), (0, .ref h0), (1, .int v), (2, .int dd), (3, .int u), (4, .int a), (5, .int b), (6, .long x), (8, .int a6)]) hx hb dX1_extend_83 hl (by decide) rfl (fun ls hl => ?_)
            refine lv_aload_n hx hb dX1_extend_85 rfl (lv_at hl 4 rfl) ?_
            refine lv_iload_n hx hb dX1_extend_86 rfl (lv_at hl 5 rfl) ?_
            refine lv_bipush (v := 64) hx hb dX1_extend_87 (by decide) ?_
            refine lv_imul hx hb dX1_extend_89 ?_
            refine lv_topi (fun z57 ez57 => ?_)
            have iz57 : z57.toInt = v.toInt * 64 := zi_mul ez57 rfl rfl (by omega) (by omega)
            refine lv_iload hx hb dX1_extend_90 (lv_at hl 2 rfl) ?_
            refine lv_iadd hx hb dX1_extend_92 ?_
            refine lv_topi (fun z58 ez58 => ?_)
            refine lv_lload hx hb dX1_extend_93 (lv_at hl 0 rfl) ?_
            refine lv_iload hx hb dX1_extend_95 (lv_at hl 1 rfl) ?_
            have hFc := tp_fr hD hS hA
            refine va_callv (va_runV (As := [.int z58, .long z56, .int z53]) (rest := []) ⟨hx, hb, hml, hown, hts⟩ (t_X1_keepRow l dC dI _ Ω κ τ ν ρ L f44 hG hT h0 z58 z56 z53 ht_h0) (cwV 3 hts gX1_extend_X1_keepRow rfl rfl rfl ⟨rfl, pd_X1_keepRow⟩ ⟨Nat.le_of_ble_eq_true rfl, Nat.le_of_ble_eq_true rfl⟩) ⟨pz_blind, va_recv hK hP (ci := 1) (q0 := q55) rfl eq55, pz_pre hP hK hD hN⟩ rfl rfl hl.1 rfl (lv_room (Nat.le_of_ble_eq_true rfl)) dX1_extend_97 ⟨Nat.le_of_ble_eq_true rfl, Nat.le_of_ble_eq_true rfl⟩) hS (fun q _ h => hFc q h) hFc (fun f61 t H1 locs ht hvm hw60 hB hz1 hk1 hS => ?_)
            refine tn_3 hw60 (fun hT hF62 hw60p => ?_); clear hw60
            have hR := hR.then hF62 (by decide)
            have hP := hB.1; rw [ht] at hP; have hD := tp_ad f61 hD; clear hB hFc hz1 hk1; subst ht; generalize t.heap = H at hP hS ⊢
            refine lv_aload_n hx hb dX1_extend_100 rfl (lv_at hl 4 rfl) ?_
            refine lv_iload_n hx hb dX1_extend_101 rfl (lv_at hl 5 rfl) ?_
            refine lv_iload_n hx hb dX1_extend_102 rfl (lv_at hl 6 rfl) ?_
            refine lv_iconst (v := 1) hx hb dX1_extend_103 (by decide) ?_
            refine lv_iadd hx hb dX1_extend_104 ?_
            refine lv_topi (fun z63 ez63 => ?_)
            have iz63 : z63.toInt = dd.toInt + 1 := zi_add ez63 rfl rfl (by omega) (by omega)
            refine lv_iload hx hb dX1_extend_105 (lv_at hl 2 rfl) ?_
            refine lv_aload_n hx hb dX1_extend_107 rfl (lv_at hl 4 rfl) ?_
            have hf_64 : f61 h0 = .inr (1, [.ref (ρ h0 0), .ref (ρ h0 1), .ref (ρ h0 2), .ref (ρ h0 3), .ref (ρ h0 4), .int o54_x5, .int o54_x6, .int o54_x7, .long o54_x8, .int o54_x9, .ref (ρ h0 10), .ref (ρ h0 11), .ref (ρ h0 12), .ref (ρ h0 13), .ref (ρ h0 14)]) := (hF62 _ (by rw [ht_h0]; decide)).trans hf_o54
            refine tpk_pos (tp_in hG ht_h0 (by decide)) hf_64 (fun q65 eq65 => ?_)
            refine va_get (D := (dC, dI)) (ci := 1) (v := .ref (ρ h0 0)) (C := RX1) (T := TX1) (N := 15) hx hb hts hfX1 hown hK hP q65 eq65 rfl 0 (by decide) (hts (.fieldLink RX1 40 "ColdShips$Planner" "world" "LColdShips$World;") wa_143) (fun _ h9 => h9) rfl dX1_extend_108 ?_
            have hf_66 : f44 (ρ h0 0) = .inr (10, [.int o30_x0, .int o30_x1, .int o30_x2, .int o30_x3, .int o30_x4, .int o30_x5, .int o30_x6, .ref (ρ (ρ h0 0) 7), .ref (ρ (ρ h0 0) 8), .ref (ρ (ρ h0 0) 9), .ref (ρ (ρ h0 0) 10), .ref (ρ (ρ h0 0) 11), .ref (ρ (ρ h0 0) 12), .ref (ρ (ρ h0 0) 13), .ref (ρ (ρ h0 0) 14), .ref (ρ (ρ h0 0) 15), .ref (ρ (ρ h0 0) 16), .ref (ρ (ρ h0 0) 17), .ref (ρ (ρ h0 0) 18)]) := (hF45 _ (by rw [y6]; decide)).trans hf_o30
            have hf_67 : f61 (ρ h0 0) = .inr (10, [.int o30_x0, .int o30_x1, .int o30_x2, .int o30_x3, .int o30_x4, .int o30_x5, .int o30_x6, .ref (ρ (ρ h0 0) 7), .ref (ρ (ρ h0 0) 8), .ref (ρ (ρ h0 0) 9), .ref (ρ (ρ h0 0) 10), .ref (ρ (ρ h0 0) 11), .ref (ρ (ρ h0 0) 12), .ref (ρ (ρ h0 0) 13), .ref (ρ (ρ h0 0) 14), .ref (ρ (ρ h0 0) 15), .ref (ρ (ρ h0 0) 16), .ref (ρ (ρ h0 0) 17), .ref (ρ (ρ h0 0) 18)]) := (hF62 _ (by rw [y6]; decide)).trans hf_66
            refine tpk_pos (tp_in hG y6 (by decide)) hf_67 (fun q68 eq68 => ?_)
            refine va_getN (D := (dC, dI)) (ci := 10) (v := .ref (ρ (ρ h0 0) 18)) (C := RX10) (T := TX10) (N := 19) hx hb hts hfX10 hown hK hP q68 eq68 rfl 18 (by decide) (va_Nw.use rfl (hN.1 (.fieldLinkNest RX1 50 "ColdShips$World" "cargoes" "LColdShips$Rows;" "ColdShips") nzw_86)) (fun _ h9 => h9) rfl dX1_extend_111 ?_
            refine lv_iload hx hb dX1_extend_114 (lv_at hl 3 rfl) ?_
            refine lv_iconst (v := 1) hx hb dX1_extend_116 (by decide) ?_
            have hf_69 : f44 (ρ (ρ h0 0) 18) = .inr (4, [.int o34_x0, .ref (ρ (ρ (ρ h0 0) 18) 1), .int o34_x2]) := (hF45 _ (by rw [y29]; decide)).trans hf_o34
            have hf_70 : f61 (ρ (ρ h0 0) 18) = .inr (4, [.int o34_x0, .ref (ρ (ρ (ρ h0 0) 18) 1), .int o34_x2]) := (hF62 _ (by rw [y29]; decide)).trans hf_69
            refine tpk_pos (tp_in hG y29 (by decide)) hf_70 (fun q71 eq71 => ?_)
            refine pz_calli (va_runV (As := [.int w2, .int 1]) (rest := [.int z49, .int z63, .int v, .ref h0]) ⟨hx, hb, hml, hown, hts⟩ (t_X4_number l dC dI _ Ω κ τ ν ρ L f61 hG hT (ρ (ρ h0 0) 18) w2 (1) y29) (cwV 2 hts gX1_extend_X4_number rfl rfl rfl ⟨rfl, pd_X4_number⟩ ⟨Nat.le_of_ble_eq_true rfl, Nat.le_of_ble_eq_true rfl⟩) ⟨pz_blind, va_recv hK hP (ci := 4) (q0 := q71) rfl eq71, pz_pre hP hK hD hN⟩ rfl rfl hl.1 rfl (lv_room (Nat.le_of_ble_eq_true rfl)) dX1_extend_117 ⟨Nat.le_of_ble_eq_true rfl, Nat.le_of_ble_eq_true rfl⟩) (fun r72 hw73 => ?_)
            obtain ⟨hw73r, hw73p⟩ := hw73
            refine lv_aload_n hx hb dX1_extend_120 rfl (lv_at hl 4 rfl) ?_
            refine va_get (D := (dC, dI)) (ci := 1) (v := .int o54_x7) (C := RX1) (T := TX1) (N := 15) hx hb hts hfX1 hown hK hP q65 eq65 rfl 7 (by decide) (hts (.fieldLink RX1 119 "ColdShips$Planner" "freeAt" "I") wa_1357) (fun _ h9 => h9) rfl dX1_extend_121 ?_
            refine lv_lload hx hb dX1_extend_124 (lv_at hl 0 rfl) ?_
            refine lv_iload hx hb dX1_extend_126 (lv_at hl 1 rfl) ?_
            have hFc := tp_fr hD hS hA
            refine va_callv (va_runV (As := [.int v, .int z63, .int z49, .int r72, .int o54_x7, .long z56, .int z53]) (rest := []) ⟨hx, hb, hml, hown, hts⟩ (t_X1_extend2 l dC dI _ Ω κ τ ν ρ L f61 hG hT h0 v z63 z49 r72 o54_x7 z56 z53 ht_h0 (by first | decide | omega) (by first | decide | omega)) (cwV 7 hts gX1_extend_X1_extend rfl rfl rfl ⟨rfl, pd_X1_extend⟩ ⟨Nat.le_of_ble_eq_true rfl, Nat.le_of_ble_eq_true rfl⟩) ⟨pz_blind, va_recv hK hP (ci := 1) (q0 := q65) rfl eq65, pz_pre hP hK hD hN⟩ rfl rfl hl.1 rfl (lv_room (Nat.le_of_ble_eq_true rfl)) dX1_extend_128 ⟨Nat.le_of_ble_eq_true rfl, Nat.le_of_ble_eq_true rfl⟩) hS (fun q _ h => hFc q h) hFc (fun f76 t H1 locs ht hvm hw75 hB hz1 hk1 hS => ?_)
            refine tn_3 hw75 (fun hT hF77 hw75p => ?_); clear hw75
            have hR := hR.then hF77 (by decide)
            have hP := hB.1; rw [ht] at hP; have hD := tp_ad f76 hD; clear hB hFc hz1 hk1; subst ht; generalize t.heap = H at hP hS ⊢
            obtain ⟨z78, ez78⟩ : ∃ y : Int32, y = w2 + 1 := ⟨_, rfl⟩
            refine lv_iinc (v := z78) (lv' := [(9, .int z78), (12, .long z56), (11, .int z53), (10, .int z49), (0, .ref h0), (1, .int v), (2, .int dd), (3, .int u), (4, .int a), (5, .int b), (6, .long x), (8, .int a6)]) hx hb dX1_extend_131 hl (k := 3) rfl (by rw [ez78]; rfl) (by decide) rfl (fun ls hl => ?_)
            have iz78 : z78.toInt = w2.toInt + 1 := zi_add ez78 rfl rfl (by omega) (by omega)
            refine lv_goto (tgt := 10) hx hb dX1_extend_134 (by decide) ?_
            exact ih4 _ _ _ _ (by rw [hn5]; omega) ⟨f76, z78, rfl, hT, hR, (by omega), hP, hD, hS, lv_sub hl [0, 4, 5, 6, 7, 8, 9, 10, 11] rfl⟩
  · have ic1 : dd.toInt ≥ 6 := zi_ltf rfl rfl c1
    exfalso; omega

set_option maxHeartbeats 4000000 in
set_option maxRecDepth 100000 in
theorem t_X3_claimOf (l : Launch) (dC : Nat → ClassId) (dI : Nat → Nat → Nat) (sz : Nat) (Ω : Nat → (Nat → Nat) → va_E → Prop) (κ : Nat → ClassId) (τ ν : Nat → Nat) (ρ : Nat → Nat → Nat) (L : List Nat) (f : Nat → va_E) (hG : tp_G τ ν ρ L) (hT : tp_T Ω κ τ ν ρ f) (h0 : Nat) (v : Int32) (u : Int32) (ht_h0 : τ h0 = 4) : Met l yX3_claimOf wqX3_claimOf ({ frames := 6, cells := 0, slots := 0, locals := 2000 }) (va_Pc [.ref h0, .int v, .int u] (pz_B dC dI (tp_K κ) (va_pl L f) sz)) (vp_Sl (fun r => True ∧ True)) 0 0 (fun _ => False) := by
  refine Met.ofW (cc := cX3_claimOf) (maxL := 5) (ret := some .long) (by decide) rfl ?_
  intro p e s m args below meth c s₁ B hml hv
  obtain ⟨rfl, hsz, hP, hK, hD0, hN⟩ := hv
  have hx := B.exec
  have hb := B.bytes
  have hr := B.returns
  have hts := fun (w : Cond) (h : w ∈ WALL) => atoms_spec (ws := wqX3_claimOf) B.pre w (List.mem_cons_of_mem _ h)
  have hown : s.vm.findClass RX3 = some m.cls := findClass_of_methodNamed B.named
  have hlocks := B.notSynchronized
  subst hsz
  have hD := hD0
  have hS : va_S (fun _ => True) s.heap s.heap [] := va_S.rf
  have hl := lv_entry ([.ref h0, .int v, .int u]) (n := 5) (Nat.le_of_ble_eq_true rfl)
  rw [lg_entry_eq]
  generalize (lg_sl ([.ref h0, .int v, .int u]) ++ List.replicate (5 - (lg_sl ([.ref h0, .int v, .int u])).length) Slot.unset).toArray = ls at hl ⊢
  have hl : lv_has ls 5 [(0, .ref h0), (1, .int v), (2, .int u)] := hl
  refine lv_aload_n hx hb dX3_claimOf_0 rfl (lv_at hl 0 rfl) ?_
  refine lv_iload_n hx hb dX3_claimOf_1 rfl (lv_at hl 1 rfl) ?_
  refine lv_iload_n hx hb dX3_claimOf_2 rfl (lv_at hl 2 rfl) ?_
  refine tgk_4 hG ht_h0 (fun y1 y2 y2n y3 y3n => ?_)
  refine tpk_4 hT ht_h0 (fun o4_x3 o4_x4 o4_x5 hf_o4 ro4_0 => ?_)
  refine tpk_pos (tp_in hG ht_h0 (by decide)) hf_o4 (fun q5 eq5 => ?_)
  refine pz_calll (va_runV (As := [.int v, .int u]) (rest := []) ⟨hx, hb, hml, hown, hts⟩ (t_X3_tonsGauged l dC dI _ Ω κ τ ν ρ L f hG hT h0 v u ht_h0) (cwV 2 hts gX3_claimOf_X3_tonsGauged rfl rfl rfl ⟨rfl, pd_X3_tonsGauged⟩ ⟨Nat.le_of_ble_eq_true rfl, Nat.le_of_ble_eq_true rfl⟩) ⟨pz_blind, va_recv hK hP (ci := 3) (q0 := q5) rfl eq5, pz_pre hP hK hD hN⟩ rfl rfl hl.1 rfl (lv_room (Nat.le_of_ble_eq_true rfl)) dX3_claimOf_3 ⟨Nat.le_of_ble_eq_true rfl, Nat.le_of_ble_eq_true rfl⟩) (fun r6 hw7 => ?_)
  obtain ⟨hw7r, hw7p⟩ := hw7
  refine lv_lstore_n (lv' := [(3, .long r6), (0, .ref h0), (1, .int v), (2, .int u)]) hx hb dX3_claimOf_6 rfl hl (by decide) rfl (fun ls hl => ?_)
  refine lv_lload_n hx hb dX3_claimOf_7 rfl (lv_at hl 0 rfl) ?_
  refine lv_ldc2 (own := RX3) (v := (-2000000000000000)) hx hb hown (hts (.constantLong RX3 138 (-2000000000000000)) wa_1288) dX3_claimOf_8 ?_
  refine W.lcmp hx hb dX3_claimOf_11 ?_
  refine lv_if_ne (tgt := 21) hx hb dX3_claimOf_12 (by decide) (fun c8 => ?_) (fun c8 => ?_)
  · have ic8 : r6.toInt ≠ (-2000000000000000) := zl_ne rfl rfl c8
    refine lv_aload_n hx hb dX3_claimOf_21 rfl (lv_at hl 1 rfl) ?_
    refine va_get (D := (dC, dI)) (ci := 3) (v := .ref (ρ h0 0)) (C := RX3) (T := TX3) (N := 6) hx hb hts hfX3 hown hK hP q5 eq5 rfl 0 (by decide) (hts (.fieldLink RX3 18 "ColdShips$Reckoner" "world" "LColdShips$World;") wa_129) (fun _ h9 => h9) rfl dX3_claimOf_22 ?_
    refine lv_iload_n hx hb dX3_claimOf_25 rfl (lv_at hl 2 rfl) ?_
    refine tgk_11 hG y1 (fun y9 y9n y10 y10n y11 y12 y13 y14 y15 y16 y17 y17w y17m y18 y18w y18m y19 y19w y19m y20 y20w y20m => ?_)
    refine tpk_11 hT y1 (fun o21_x0 o21_x1 o21_x2 o21_x3 o21_x4 o21_x5 o21_x6 hf_o21 ro21_0 ro21_1 ro21_2 ro21_3 => ?_)
    refine tpk_pos (tp_in hG y1 (by decide)) hf_o21 (fun q22 eq22 => ?_)
    refine pz_calll (va_runV (As := [.int v]) (rest := []) ⟨hx, hb, hml, hown, hts⟩ (t_X10_billedOf l dC dI _ Ω κ τ ν ρ L f hG hT (ρ h0 0) v y1) (cwV 1 hts gX3_claimOf_X10_billedOf rfl rfl rfl ⟨rfl, pd_X10_billedOf⟩ ⟨Nat.le_of_ble_eq_true rfl, Nat.le_of_ble_eq_true rfl⟩) ⟨pz_blind, va_recv hK hP (ci := 10) (q0 := q22) rfl eq22, pz_pre hP hK hD hN⟩ rfl rfl hl.1 rfl (lv_room (Nat.le_of_ble_eq_true rfl)) dX3_claimOf_26 ⟨Nat.le_of_ble_eq_true rfl, Nat.le_of_ble_eq_true rfl⟩) (fun r23 hw24 => ?_)
    obtain ⟨hw24r, hw24p⟩ := hw24
    refine lv_lload_n hx hb dX3_claimOf_29 rfl (lv_at hl 0 rfl) ?_
    refine lv_lsub hx hb dX3_claimOf_30 ?_
    refine lv_topl (fun z25 ez25 => ?_)
    refine lv_aload_n hx hb dX3_claimOf_31 rfl (lv_at hl 1 rfl) ?_
    refine va_get (D := (dC, dI)) (ci := 3) (v := .ref (ρ h0 0)) (C := RX3) (T := TX3) (N := 6) hx hb hts hfX3 hown hK hP q5 eq5 rfl 0 (by decide) (hts (.fieldLink RX3 18 "ColdShips$Reckoner" "world" "LColdShips$World;") wa_129) (fun _ h9 => h9) rfl dX3_claimOf_32 ?_
    refine lv_iload_n hx hb dX3_claimOf_35 rfl (lv_at hl 2 rfl) ?_
    refine lv_iload_n hx hb dX3_claimOf_36 rfl (lv_at hl 3 rfl) ?_
    refine pz_calll (va_runV (As := [.int v, .int u]) (rest := [.long z25]) ⟨hx, hb, hml, hown, hts⟩ (t_X10_priceOf l dC dI _ Ω κ τ ν ρ L f hG hT (ρ h0 0) v u y1) (cwV 2 hts gX3_claimOf_X10_priceOf rfl rfl rfl ⟨rfl, pd_X10_priceOf⟩ ⟨Nat.le_of_ble_eq_true rfl, Nat.le_of_ble_eq_true rfl⟩) ⟨pz_blind, va_recv hK hP (ci := 10) (q0 := q22) rfl eq22, pz_pre hP hK hD hN⟩ rfl rfl hl.1 rfl (lv_room (Nat.le_of_ble_eq_true rfl)) dX3_claimOf_37 ⟨Nat.le_of_ble_eq_true rfl, Nat.le_of_ble_eq_true rfl⟩) (fun r26 hw27 => ?_)
    obtain ⟨hw27r, hw27p⟩ := hw27
    refine lv_lmul hx hb dX3_claimOf_40 ?_
    refine lv_topl (fun z28 ez28 => ?_)
    exact W.lret (v := z28) hx hb hr (fun t ht hW => ⟨z28, rfl, ⟨trivial, trivial⟩, ht⟩) (fun _ h => by cases h) dX3_claimOf_41
  · have ic8 : r6.toInt = (-2000000000000000) := zl_nef rfl rfl c8
    refine lv_ldc2 (own := RX3) (v := (-2000000000000000)) hx hb hown (hts (.constantLong RX3 138 (-2000000000000000)) wa_1288) dX3_claimOf_15 ?_
    refine lv_goto (tgt := 41) hx hb dX3_claimOf_18 (by decide) ?_
    exact W.lret (v := (-2000000000000000)) hx hb hr (fun t ht hW => ⟨(-2000000000000000), rfl, ⟨trivial, trivial⟩, ht⟩) (fun _ h => by cases h) dX3_claimOf_41

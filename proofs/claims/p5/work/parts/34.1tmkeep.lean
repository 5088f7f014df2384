set_option maxHeartbeats 4000000 in
set_option maxRecDepth 100000 in
theorem t_X12_keepBest (l : Launch) (dC : Nat → ClassId) (dI : Nat → Nat → Nat) (sz : Nat) (κ : Nat → ClassId) (τ ν : Nat → Nat) (ρ : Nat → Nat → Nat) (L : List Nat) (f : Nat → va_E) (hG : tp_G τ ν ρ L) (hT : tp_T (mo_O κ) κ τ ν ρ f) (h0 : Nat) (v : Int32) (u : Int32) (a : Int32) (x : Int) (b : Int) (ht_h0 : τ h0 = 13) (hbb : 0 ≤ b ∧ b ≤ 1000) (hJ : mo_RI x b (mo_R (mo_i (f (ρ h0 2))))) (hv6 : 0 ≤ v.toInt ∧ v.toInt ≤ 6) (hu3 : 0 ≤ u.toInt ∧ u.toInt ≤ 3) (hc10 : v.toInt = (mo_R (mo_i (f (ρ h0 2)))) (10)) (hs1 : u.toInt ≤ (mo_R (mo_i (f (ρ h0 2)))) (1)) (hBG : mo_BG (mo_R (mo_i (f (ρ h0 49)))) (mo_RL (mo_l (f (ρ h0 43)))) v.toInt u.toInt) (hTB : mo_TB (mo_RL (mo_l (f (ρ h0 43)))) (mo_R (mo_i (f (ρ h0 44)))) u.toInt 0 (mo_P2 v.toInt)) : Met l yX12_keepBest wqX12_keepBest ({ frames := 8, cells := 0, slots := 0, locals := 2800 }) (va_Pc [.ref h0, .int v, .int u, .int a] (pz_B dC dI (tp_K κ) (va_pl L f) sz)) (va_Qv (fun (f1 : Nat → va_E) => tp_T (mo_O κ) κ τ ν ρ f1 ∧ tp_F τ [13, 69, 70, 71, 72, 80] f f1 ∧ True) (fun (f1 : Nat → va_E) (t : State) => pz_E dC dI (tp_K κ) (va_A (va_pl L f) sz) (va_pl L f1) t) (va_A (va_pl L f) sz)) 0 0 (va_A (va_pl L f) sz) := by
  refine Met.ofW (cc := cX12_keepBest) (maxL := 9) (ret := none) (by decide) rfl ?_
  intro p e s m args below meth c s₁ B hml hv
  obtain ⟨rfl, hsz, hP, hK, hD0, hN⟩ := hv
  have hx := B.exec
  have hb := B.bytes
  have hr := B.returns
  have hts := fun (w : Cond) (h : w ∈ WALL) => atoms_spec (ws := wqX12_keepBest) B.pre w (List.mem_cons_of_mem _ h)
  have hown : s.vm.findClass RX12 = some m.cls := findClass_of_methodNamed B.named
  have hlocks := B.notSynchronized
  subst hsz
  have hD := hD0.self (sz := s.heap.size)
  generalize hAe : va_A (va_pl L f) s.heap.size = A at hD ⊢
  have hA : ∀ q : Nat, s.heap.size ≤ q → A q := fun q h => by rw [← hAe]; exact Or.inr h
  have hS : va_S A s.heap s.heap [] := va_S.rf
  have hR : tp_F τ [13, 69, 70, 71, 72, 80] f f := tp_F.rf
  have hl := lv_entry ([.ref h0, .int v, .int u, .int a]) (n := 9) (Nat.le_of_ble_eq_true rfl)
  rw [lg_entry_eq]
  generalize (lg_sl ([.ref h0, .int v, .int u, .int a]) ++ List.replicate (9 - (lg_sl ([.ref h0, .int v, .int u, .int a])).length) Slot.unset).toArray = ls at hl ⊢
  have hl : lv_has ls 9 [(0, .ref h0), (1, .int v), (2, .int u), (3, .int a)] := hl
  refine tgk_13 hG ht_h0 (fun y1 y2 y3 y4 y5 y6 y7 y8 y9 y10 y11 y12 y13 y14 y15 y16 y17 y18 y19 y20 y21 y22 y23 y24 y25 => ?_)
  refine tpk_32 hT y1 (fun g27 hf_o26 => ?_)
  have hI : mo_RI x b (mo_R g27) := by have q9 := hJ; rw [hf_o26, mo_i1] at q9; exact q9
  rw [hf_o26, mo_i1] at hc10
  rw [hf_o26, mo_i1] at hs1
  refine tpk_74 hT y19 (fun g29 hf_o28 => ?_)
  have tf30 : mo_hd (mo_i (f (ρ h0 44)) = g29) := tfa_i hf_o28
  refine tpk_79 hT y22 (fun g32 hf_o31 => ?_)
  have tf33 : mo_hd (mo_i (f (ρ h0 49)) = g32) := tfa_i hf_o31
  refine tpk_73 hT y18 (fun g35 hf_o34 => ?_)
  have tf36 : mo_hd (mo_l (f (ρ h0 43)) = g35) := tfa_l hf_o34
  replace hBG : mo_BG (mo_R g32) (mo_RL g35) v.toInt u.toInt := by have q9 := hBG; first | (simp only [(mo_un tf33), (mo_un tf36), mo_i1, mo_l1] at q9; exact q9) | (rw [(mo_un tf33), (mo_un tf36)] at q9; exact q9)
  replace hTB : mo_TB (mo_RL g35) (mo_R g29) u.toInt 0 (mo_P2 v.toInt) := by have q9 := hTB; first | (simp only [(mo_un tf36), (mo_un tf30), mo_i1, mo_l1] at q9; exact q9) | (rw [(mo_un tf36), (mo_un tf30)] at q9; exact q9)
  have := hI.k1; have hk10 := hI.k10
  have hP2 := mo_P2_le v.toInt
  refine lv_aload_n hx hb dX12_keepBest_0 rfl (lv_at hl 0 rfl) ?_
  refine lv_iconst (v := 1) hx hb dX12_keepBest_1 (by decide) ?_
  refine tpk_13 hT ht_h0 (fun o37_x0 o37_x1 o37_x7 o37_x9 o37_x10 o37_x11 o37_x12 o37_x13 o37_x14 o37_x15 o37_x16 o37_x17 o37_x18 o37_x19 o37_x20 o37_x22 o37_x25 o37_x28 o37_x29 o37_x32 o37_x33 o37_x34 o37_x35 o37_x36 o37_x37 o37_x38 o37_x47 o37_x48 hf_o37 ro37_0 ro37_1 ro37_2 ro37_3 ro37_4 ro37_5 ro37_6 ro37_7 ro37_8 ro37_9 ro37_10 ro37_11 ro37_12 ro37_13 => ?_)
  refine tpk_pos (tp_in hG ht_h0 (by decide)) hf_o37 (fun q38 eq38 => ?_)
  refine va_put (D := (dC, dI)) (ci := 12) (v := .int 1) (ty := .boolean) (C := RX12) (T := TX12) (N := 53) hx hb hts hfX12 tyX12 tyX12_ok nmX12 hown hK hP hD hS q38 eq38 rfl 47 (by decide) (hts (.fieldLink RX12 538 "ColdShipsModel" "hasBest" "Z") wa_1459) (fun _ h9 => h9) rfl (tyX12_ok 47 (by decide)) rfl rfl (Nat.le_of_ble_eq_true rfl) dX12_keepBest_2 (tp_k (.inr (12, [.int o37_x0, .int o37_x1, .ref (ρ h0 2), .ref (ρ h0 3), .ref (ρ h0 4), .ref (ρ h0 5), .ref (ρ h0 6), .int o37_x7, .ref (ρ h0 8), .int o37_x9, .int o37_x10, .int o37_x11, .int o37_x12, .long o37_x13, .int o37_x14, .int o37_x15, .int o37_x16, .int o37_x17, .int o37_x18, .int o37_x19, .int o37_x20, .ref (ρ h0 21), .int o37_x22, .ref (ρ h0 23), .ref (ρ h0 24), .int o37_x25, .ref (ρ h0 26), .ref (ρ h0 27), .int o37_x28, .int o37_x29, .ref (ρ h0 30), .ref (ρ h0 31), .int o37_x32, .long o37_x33, .long o37_x34, .long o37_x35, .int o37_x36, .int o37_x37, .int o37_x38, .ref (ρ h0 39), .ref (ρ h0 40), .ref (ρ h0 41), .ref (ρ h0 42), .ref (ρ h0 43), .ref (ρ h0 44), .ref (ρ h0 45), .ref (ρ h0 46), .int 1, .int o37_x48, .ref (ρ h0 49), .ref (ρ h0 50), .ref (ρ h0 51), .ref (ρ h0 52)])) hD (tp_in hG ht_h0 (by decide)) eq38 (fun f39 H locs hP hD hS g41 k40 => ?_))
  have hT := hT.up ht_h0 g41 k40 ⟨_, _, _, _, _, _, _, _, _, _, _, _, _, _, _, _, _, _, _, _, _, _, _, _, _, _, _, _, rfl, ro37_0, ro37_1, ro37_2, ro37_3, ro37_4, ro37_5, ro37_6, ro37_7, ro37_8, ro37_9, ro37_10, ro37_11, (by decide), ro37_13⟩
  have hR := hR.up ht_h0 (by decide) k40
  refine lv_aload_n hx hb dX12_keepBest_5 rfl (lv_at hl 0 rfl) ?_
  refine lv_iload_n hx hb dX12_keepBest_6 rfl (lv_at hl 1 rfl) ?_
  refine tpk_pos (tp_in hG ht_h0 (by decide)) g41 (fun q42 eq42 => ?_)
  refine va_put (D := (dC, dI)) (ci := 12) (v := .int v) (ty := .int) (C := RX12) (T := TX12) (N := 53) hx hb hts hfX12 tyX12 tyX12_ok nmX12 hown hK hP hD hS q42 eq42 rfl 48 (by decide) (hts (.fieldLink RX12 541 "ColdShipsModel" "bestCargoes" "I") wa_1460) (fun _ h9 => h9) rfl (tyX12_ok 48 (by decide)) rfl rfl (Nat.le_of_ble_eq_true rfl) dX12_keepBest_7 (tp_k (.inr (12, [.int o37_x0, .int o37_x1, .ref (ρ h0 2), .ref (ρ h0 3), .ref (ρ h0 4), .ref (ρ h0 5), .ref (ρ h0 6), .int o37_x7, .ref (ρ h0 8), .int o37_x9, .int o37_x10, .int o37_x11, .int o37_x12, .long o37_x13, .int o37_x14, .int o37_x15, .int o37_x16, .int o37_x17, .int o37_x18, .int o37_x19, .int o37_x20, .ref (ρ h0 21), .int o37_x22, .ref (ρ h0 23), .ref (ρ h0 24), .int o37_x25, .ref (ρ h0 26), .ref (ρ h0 27), .int o37_x28, .int o37_x29, .ref (ρ h0 30), .ref (ρ h0 31), .int o37_x32, .long o37_x33, .long o37_x34, .long o37_x35, .int o37_x36, .int o37_x37, .int o37_x38, .ref (ρ h0 39), .ref (ρ h0 40), .ref (ρ h0 41), .ref (ρ h0 42), .ref (ρ h0 43), .ref (ρ h0 44), .ref (ρ h0 45), .ref (ρ h0 46), .int 1, .int v, .ref (ρ h0 49), .ref (ρ h0 50), .ref (ρ h0 51), .ref (ρ h0 52)])) hD (tp_in hG ht_h0 (by decide)) eq42 (fun f43 H locs hP hD hS g45 k44 => ?_))
  have hT := hT.up ht_h0 g45 k44 ⟨_, _, _, _, _, _, _, _, _, _, _, _, _, _, _, _, _, _, _, _, _, _, _, _, _, _, _, _, rfl, ro37_0, ro37_1, ro37_2, ro37_3, ro37_4, ro37_5, ro37_6, ro37_7, ro37_8, ro37_9, ro37_10, ro37_11, (by decide), (by omega)⟩
  have hR := hR.up ht_h0 (by decide) k44
  refine lv_iconst (v := 0) hx hb dX12_keepBest_10 (by decide) ?_
  refine lv_istore (lv' := [(4, .int 0), (0, .ref h0), (1, .int v), (2, .int u), (3, .int a)]) hx hb dX12_keepBest_11 hl (by decide) rfl (fun ls hl => ?_)
  have hf_46 : f39 (ρ h0 2) = .inl (κ 0, 12967, .inl g27) := (k40 _ (tp_ne y1 ht_h0 (by decide))).trans hf_o26
  have hf_47 : f43 (ρ h0 2) = .inl (κ 0, 12967, .inl g27) := (k44 _ (tp_ne y1 ht_h0 (by decide))).trans hf_46
  have hf_49 : f39 (ρ h0 49) = .inl (κ 0, 6, .inl g32) := (k40 _ (tp_ne y22 ht_h0 (by decide))).trans hf_o31
  have hf_50 : f43 (ρ h0 49) = .inl (κ 0, 6, .inl g32) := (k44 _ (tp_ne y22 ht_h0 (by decide))).trans hf_49
  have hf_51 : f39 (ρ h0 43) = .inl (κ 1, 192, .inr (.inl g35)) := (k40 _ (tp_ne y18 ht_h0 (by decide))).trans hf_o34
  have hf_52 : f43 (ρ h0 43) = .inl (κ 1, 192, .inr (.inl g35)) := (k44 _ (tp_ne y18 ht_h0 (by decide))).trans hf_51
  have hf_53 : f39 (ρ h0 44) = .inl (κ 0, 192, .inl g29) := (k40 _ (tp_ne y19 ht_h0 (by decide))).trans hf_o28
  have hf_54 : f43 (ρ h0 44) = .inl (κ 0, 192, .inl g29) := (k44 _ (tp_ne y19 ht_h0 (by decide))).trans hf_53
  refine pz_loop (fun n0 H locs ls => ∃ f59 : Nat → va_E, ∃ w48 : Int32, n0 = (6 - (w48.toInt)).toNat ∧ tp_T (mo_O κ) κ τ ν ρ f59 ∧ tp_F τ [13, 69, 70, 71, 72, 80] f f59 ∧ f59 (ρ h0 2) = .inl (κ 0, 12967, .inl g27) ∧ f59 (ρ h0 49) = .inl (κ 0, 6, .inl g32) ∧ f59 (ρ h0 43) = .inl (κ 1, 192, .inr (.inl g35)) ∧ f59 (ρ h0 44) = .inl (κ 0, 192, .inl g29) ∧ (0 ≤ w48.toInt ∧ w48.toInt ≤ 6) ∧ va_P (dC, dI) vwCl (va_pl L f59) H ∧ va_D A (va_pl L f59) ∧ va_S A s.heap H locs ∧ lv_has ls 9 [(4, .int w48), (0, .ref h0), (1, .int v), (2, .int u), (3, .int a)]) ?_ _ _ _ _ ⟨f43, 0, rfl, hT, hR, hf_47, hf_50, hf_52, hf_54, (by have : (0 : Int32).toInt = 0 := rfl; omega), hP, hD, hS, lv_sub hl [0, 1, 2, 3, 4] rfl⟩
  intro n0 H locs ls hI ih61
  refine Exists.elim hI (fun f59 hE90 => Exists.elim hE90 (fun w48 hE91 => tn_12 hE91 (fun hn62 hT hR hk55k hk56k hk57k hk58k rw48 hP hD hS hl => ?_)))
  clear hE91 hE90 hI
  refine lv_iload hx hb dX12_keepBest_13 (lv_at hl 0 rfl) ?_
  refine lv_iload_n hx hb dX12_keepBest_15 rfl (lv_at hl 2 rfl) ?_
  refine lv_icmp_ge (tgt := 72) hx hb dX12_keepBest_16 (by decide) (fun c63 => ?_) (fun c63 => ?_)
  · have ic63 : w48.toInt ≥ v.toInt := zi_ge rfl rfl c63
    refine lv_iconst (v := 0) hx hb dX12_keepBest_72 (by decide) ?_
    refine lv_istore (lv' := [(4, .int 0), (0, .ref h0), (1, .int v), (2, .int u), (3, .int a)]) hx hb dX12_keepBest_73 hl (by decide) rfl (fun ls hl => ?_)
    refine pz_loop (fun n0 H locs ls => ∃ f69 : Nat → va_E, ∃ w64 : Int32, n0 = (3 - (w64.toInt)).toNat ∧ tp_T (mo_O κ) κ τ ν ρ f69 ∧ tp_F τ [13, 69, 70, 71, 72, 80] f f69 ∧ f69 (ρ h0 2) = .inl (κ 0, 12967, .inl g27) ∧ f69 (ρ h0 49) = .inl (κ 0, 6, .inl g32) ∧ f69 (ρ h0 43) = .inl (κ 1, 192, .inr (.inl g35)) ∧ f69 (ρ h0 44) = .inl (κ 0, 192, .inl g29) ∧ (0 ≤ w64.toInt ∧ w64.toInt ≤ 3) ∧ va_P (dC, dI) vwCl (va_pl L f69) H ∧ va_D A (va_pl L f69) ∧ va_S A s.heap H locs ∧ lv_has ls 9 [(4, .int w64), (0, .ref h0), (1, .int v), (2, .int u), (3, .int a)]) ?_ _ _ _ _ ⟨f59, 0, rfl, hT, hR, hk55k, hk56k, hk57k, hk58k, (by have : (0 : Int32).toInt = 0 := rfl; omega), hP, hD, hS, lv_sub hl [0, 1, 2, 3, 4] rfl⟩
    intro n0 H locs ls hI ih71
    refine Exists.elim hI (fun f69 hE90 => Exists.elim hE90 (fun w64 hE91 => tn_12 hE91 (fun hn72 hT hR hk65k hk66k hk67k hk68k rw64 hP hD hS hl => ?_)))
    clear hE91 hE90 hI
    refine lv_iload hx hb dX12_keepBest_75 (lv_at hl 0 rfl) ?_
    refine lv_iload_n hx hb dX12_keepBest_77 rfl (lv_at hl 3 rfl) ?_
    refine lv_icmp_ge (tgt := 296) hx hb dX12_keepBest_78 (by decide) (fun c73 => ?_) (fun c73 => ?_)
    · have ic73 : w64.toInt ≥ u.toInt := zi_ge rfl rfl c73
      exact W.vret hx hb hr (fun t ht hW => ⟨⟨f69, rfl, ⟨hT, hR, trivial⟩, by rw [ht]; exact hP, va_K.moved hW.alike hK, hD⟩, hS.F ht⟩) hS.2.2 dX12_keepBest_296
    · have ic73 : w64.toInt < u.toInt := zi_gef rfl rfl c73
      refine lv_iconst (v := 0) hx hb dX12_keepBest_81 (by decide) ?_
      refine lv_istore (lv' := [(5, .int 0), (4, .int w64), (0, .ref h0), (1, .int v), (2, .int u), (3, .int a)]) hx hb dX12_keepBest_82 hl (by decide) rfl (fun ls hl => ?_)
      refine lv_iconst (v := 0) hx hb dX12_keepBest_84 (by decide) ?_
      refine lv_istore (lv' := [(6, .int 0), (5, .int 0), (4, .int w64), (0, .ref h0), (1, .int v), (2, .int u), (3, .int a)]) hx hb dX12_keepBest_85 hl (by decide) rfl (fun ls hl => ?_)
      refine lv_iconst (v := 0) hx hb dX12_keepBest_87 (by decide) ?_
      refine lv_istore (lv' := [(7, .int 0), (6, .int 0), (5, .int 0), (4, .int w64), (0, .ref h0), (1, .int v), (2, .int u), (3, .int a)]) hx hb dX12_keepBest_88 hl (by decide) rfl (fun ls hl => ?_)
      have tf74 : mo_hd (mo_i (f69 (ρ h0 49)) = g32) := tfa_i hk66k
      refine pz_loop (fun n0 H locs ls => ∃ w75 : Int32, ∃ w76 : Int32, n0 = (6 - (w75.toInt)).toNat ∧ (0 ≤ w75.toInt ∧ w75.toInt ≤ 6) ∧ (0 ≤ w76.toInt ∧ w76.toInt ≤ 63) ∧ ((w75.toInt) ≤ v.toInt) ∧ (∀ d, 0 ≤ d → d < 6 → (mo_bt (w76.toInt) d ↔ (d < (w75.toInt) ∧ (mo_R g32) d = w64.toInt))) ∧ va_P (dC, dI) vwCl (va_pl L f69) H ∧ va_D A (va_pl L f69) ∧ va_S A s.heap H locs ∧ lv_has ls 9 [(7, .int w75), (6, .int 0), (5, .int w76), (4, .int w64), (0, .ref h0), (1, .int v), (2, .int u), (3, .int a)]) ?_ _ _ _ _ ⟨0, 0, rfl, (by have : (0 : Int32).toInt = 0 := rfl; have : (0 : Int32).toInt = 0 := rfl; omega), (by have : (0 : Int32).toInt = 0 := rfl; have : (0 : Int32).toInt = 0 := rfl; omega), (by have : (0 : Int32).toInt = 0 := rfl; have : (0 : Int32).toInt = 0 := rfl; omega), (fun d d0 d1 => ⟨fun q9 => absurd q9 (by have : (0 : Int32).toInt = 0 := rfl; rw [this]; exact mo_bt0 d), fun q9 => by have : (0 : Int32).toInt = 0 := rfl; omega⟩), hP, hD, hS, lv_sub hl [0, 1, 2, 3, 4, 5, 6, 7] rfl⟩
      intro n0 H locs ls hI ih79
      refine Exists.elim hI (fun w75 hE90 => Exists.elim hE90 (fun w76 hE91 => tn_9 hE91 (fun hn80 rw75 rw76 k77 k78 hP hD hS hl => ?_)))
      clear hE91 hE90 hI
      refine lv_iload hx hb dX12_keepBest_90 (lv_at hl 0 rfl) ?_
      refine lv_iload_n hx hb dX12_keepBest_92 rfl (lv_at hl 5 rfl) ?_
      refine lv_icmp_ge (tgt := 127) hx hb dX12_keepBest_93 (by decide) (fun c81 => ?_) (fun c81 => ?_)
      · have ic81 : w75.toInt ≥ v.toInt := zi_ge rfl rfl c81
        have tf82 : mo_hd (mo_i (f69 (ρ h0 44)) = g29) := tfa_i hk68k
        have hbits : ∀ d, 0 ≤ d → d < 6 → (mo_bt w76.toInt d ↔ (d < v.toInt ∧ (mo_R g32) d = w64.toInt)) := fun d d0 d1 => by rw [k78 d d0 d1]; omega
        obtain ⟨x9, hx9, hx9b, hx9L⟩ := hBG.2 w64.toInt (by omega) (by omega)
        obtain rfl : x9 = w76.toInt := mo_bt_eq (by omega) (by omega) (by omega) (by omega) (fun d d0 d1 => (hx9b d d0 d1).trans (hbits d d0 d1).symm)
        have hGD := (hTB w64.toInt w76.toInt (by omega) (by omega) (by omega) (by omega)).1 hx9L
        have htop : ∀ d, 0 ≤ d → d < 6 → mo_bt w76.toInt d → d < v.toInt := fun d d0 d1 q9 => ((hbits d d0 d1).mp q9).1
        refine lv_iconst (v := 0) hx hb dX12_keepBest_127 (by decide) ?_
        refine lv_istore (lv' := [(7, .int 0), (6, .int 0), (5, .int w76), (4, .int w64), (0, .ref h0), (1, .int v), (2, .int u), (3, .int a)]) hx hb dX12_keepBest_128 hl (by decide) rfl (fun ls hl => ?_)
        refine tpk_72 hT y17 (fun g93 hf_o92 => ?_)
        have tf94 : mo_hd (mo_i (f69 (ρ h0 42)) = g93) := tfa_i hf_o92
        refine pz_loop (fun n0 H locs ls => ∃ f95 : Nat → va_E, ∃ w83 : Int32, ∃ w84 : Int32, n0 = (6 - (w83.toInt)).toNat ∧ tp_T (mo_O κ) κ τ ν ρ f95 ∧ tp_F τ [13, 69, 70, 71, 72, 80] f f95 ∧ f95 (ρ h0 2) = .inl (κ 0, 12967, .inl g27) ∧ f95 (ρ h0 49) = .inl (κ 0, 6, .inl g32) ∧ f95 (ρ h0 43) = .inl (κ 1, 192, .inr (.inl g35)) ∧ f95 (ρ h0 44) = .inl (κ 0, 192, .inl g29) ∧ ((mo_KL (mo_R (mo_i (f95 (ρ h0 42)))) ((mo_R g29) (64 * w64.toInt + w76.toInt)) w76.toInt (w83.toInt) v.toInt)) ∧ (0 ≤ w83.toInt ∧ w83.toInt ≤ 6) ∧ (0 ≤ w84.toInt ∧ w84.toInt ≤ 6) ∧ ((w84.toInt) ≤ (w83.toInt)) ∧ ((w83.toInt) ≤ v.toInt) ∧ ((w84.toInt) = mo_cn w76.toInt (w83.toInt)) ∧ va_P (dC, dI) vwCl (va_pl L f95) H ∧ va_D A (va_pl L f95) ∧ va_S A s.heap H locs ∧ lv_has ls 9 [(7, .int w83), (6, .int w84), (5, .int w76), (4, .int w64), (0, .ref h0), (1, .int v), (2, .int u), (3, .int a)]) ?_ _ _ _ _ ⟨f69, 0, 0, rfl, hT, hR, hk65k, hk66k, hk67k, hk68k, (by first | (simp only [(mo_un tf94), mo_i1, mo_l1]; exact (show mo_KL (mo_R g93) ((mo_R g29) (64 * w64.toInt + w76.toInt)) w76.toInt (0 : Int32).toInt v.toInt from (fun d d0 d1 => absurd d1 (by have : (0 : Int32).toInt = 0 := rfl; omega)))) | (rw [(mo_un tf94)]; exact (show mo_KL (mo_R g93) ((mo_R g29) (64 * w64.toInt + w76.toInt)) w76.toInt (0 : Int32).toInt v.toInt from (fun d d0 d1 => absurd d1 (by have : (0 : Int32).toInt = 0 := rfl; omega))))), (by have : (0 : Int32).toInt = 0 := rfl; have : (0 : Int32).toInt = 0 := rfl; omega), (by have : (0 : Int32).toInt = 0 := rfl; have : (0 : Int32).toInt = 0 := rfl; omega), (by have : (0 : Int32).toInt = 0 := rfl; have : (0 : Int32).toInt = 0 := rfl; omega), (by have : (0 : Int32).toInt = 0 := rfl; have : (0 : Int32).toInt = 0 := rfl; omega), (by have : (0 : Int32).toInt = 0 := rfl; rw [this]; exact (mo_cn0 _).symm), hP, hD, hS, lv_sub hl [0, 1, 2, 3, 4, 5, 6, 7] rfl⟩
        intro n0 H locs ls hI ih97
        refine Exists.elim hI (fun f95 hE90 => Exists.elim hE90 (fun w83 hE91 => Exists.elim hE91 (fun w84 hE92 => tn_17 hE92 (fun hn98 hT hR hk88k hk89k hk90k hk91k jf99 rw83 rw84 k85 k86 k87 hP hD hS hl => ?_))))
        clear hE92 hE91 hE90 hI
        refine tpk_72 hT y17 (fun g101 hf_o100 => ?_)
        have tf102 : mo_hd (mo_i (f95 (ρ h0 42)) = g101) := tfa_i hf_o100
        replace jf99 : mo_KL (mo_R g101) ((mo_R g29) (64 * w64.toInt + w76.toInt)) w76.toInt (w83.toInt) v.toInt := by have q9 := jf99; first | (simp only [(mo_un tf102), mo_i1, mo_l1] at q9; exact q9) | (rw [(mo_un tf102)] at q9; exact q9)
        refine lv_iload hx hb dX12_keepBest_130 (lv_at hl 0 rfl) ?_
        refine lv_iload_n hx hb dX12_keepBest_132 rfl (lv_at hl 5 rfl) ?_
        refine lv_icmp_ge (tgt := 185) hx hb dX12_keepBest_133 (by decide) (fun c103 => ?_) (fun c103 => ?_)
        · have ic103 : w83.toInt ≥ v.toInt := zi_ge rfl rfl c103
          have hLN := jf99.line (n := w84.toInt) hGD (by omega) (by rw [mo_cn_top (by omega) htop]; have q9 := k87; rw [show w83.toInt = v.toInt by omega] at q9; exact q9) htop
          refine lv_aload_n hx hb dX12_keepBest_185 rfl (lv_at hl 4 rfl) ?_
          refine lv_iload hx hb dX12_keepBest_186 (lv_at hl 3 rfl) ?_
          refine lv_iload hx hb dX12_keepBest_188 (lv_at hl 1 rfl) ?_
          refine lv_iload_n hx hb dX12_keepBest_190 rfl (lv_at hl 7 rfl) ?_
          refine tpk_13 hT ht_h0 (fun o104_x0 o104_x1 o104_x7 o104_x9 o104_x10 o104_x11 o104_x12 o104_x13 o104_x14 o104_x15 o104_x16 o104_x17 o104_x18 o104_x19 o104_x20 o104_x22 o104_x25 o104_x28 o104_x29 o104_x32 o104_x33 o104_x34 o104_x35 o104_x36 o104_x37 o104_x38 o104_x47 o104_x48 hf_o104 ro104_0 ro104_1 ro104_2 ro104_3 ro104_4 ro104_5 ro104_6 ro104_7 ro104_8 ro104_9 ro104_10 ro104_11 ro104_12 ro104_13 => ?_)
          refine tpk_pos (tp_in hG ht_h0 (by decide)) hf_o104 (fun q105 eq105 => ?_)
          have hFc := tp_fr hD hS hA
          refine va_calll (va_runV (As := [.int w64, .int w84, .int a]) (rest := []) ⟨hx, hb, hml, hown, hts⟩ (t_X12_sailRow l dC dI _ κ τ ν ρ L f95 hG hT h0 w64 w84 a x b ht_h0 (by first | decide | omega) (by omega) (by rw [hk88k, mo_i1]; exact hI) (by first | (simp only [hk88k, hf_o26, mo_i1]; omega) | (simp only [hk88k, hf_o26, mo_i1]; trivial) | (simp only [hk88k, hf_o26, mo_i1]; done) | omega) (by first | (simp only [(mo_un tf102), hk88k, mo_i1, mo_l1]; exact (show ∀ j, 0 ≤ j → j < w84.toInt → 0 ≤ (mo_R g101) j ∧ (mo_R g101) j < (mo_R g27) 10 from (fun j j0 j1 => by have q9 := hLN j j0 j1; omega))) | (rw [(mo_un tf102), hk88k]; exact (show ∀ j, 0 ≤ j → j < w84.toInt → 0 ≤ (mo_R g101) j ∧ (mo_R g101) j < (mo_R g27) 10 from (fun j j0 j1 => by have q9 := hLN j j0 j1; omega))))) (cwV 3 hts gX12_keepBest_X12_sailRow rfl rfl rfl ⟨rfl, pd_X12_sailRow⟩ ⟨Nat.le_of_ble_eq_true rfl, Nat.le_of_ble_eq_true rfl⟩) ⟨pz_blind, va_recv hK hP (ci := 12) (q0 := q105) rfl eq105, pz_pre hP hK hD hN⟩ rfl rfl hl.1 rfl (lv_room (Nat.le_of_ble_eq_true rfl)) dX12_keepBest_191 ⟨Nat.le_of_ble_eq_true rfl, Nat.le_of_ble_eq_true rfl⟩) hS (fun q _ h => hFc q h) hFc (fun r106 f108 t H1 locs ht hvm hw107 hB hz1 hk1 hS => ?_)
          refine tn_4 hw107 (fun hT hF109 hw107r hw107p => ?_); clear hw107
          have hR := hR.then hF109 (by decide)
          have hP := hB.1; rw [ht] at hP; have hD := tp_ad f108 hD; clear hB hFc hz1 hk1; subst ht; generalize t.heap = H at hP hS ⊢
          refine lv_pop2_2 hx hb dX12_keepBest_194 rfl ?_
          refine lv_iconst (v := 0) hx hb dX12_keepBest_195 (by decide) ?_
          refine lv_istore (lv' := [(7, .int 0), (6, .int w84), (5, .int w76), (4, .int w64), (0, .ref h0), (1, .int v), (2, .int u), (3, .int a)]) hx hb dX12_keepBest_196 hl (by decide) rfl (fun ls hl => ?_)
          have hf_110 : f108 (ρ h0 2) = .inl (κ 0, 12967, .inl g27) := (hF109 _ (by rw [y1]; decide)).trans hk88k
          have hf_112 : f108 (ρ h0 49) = .inl (κ 0, 6, .inl g32) := (hF109 _ (by rw [y22]; decide)).trans hk89k
          have hf_113 : f108 (ρ h0 43) = .inl (κ 1, 192, .inr (.inl g35)) := (hF109 _ (by rw [y18]; decide)).trans hk90k
          have hf_114 : f108 (ρ h0 44) = .inl (κ 0, 192, .inl g29) := (hF109 _ (by rw [y19]; decide)).trans hk91k
          have hf_115 : f108 (ρ h0 42) = .inl (κ 0, 6, .inl g101) := (hF109 _ (by rw [y17]; decide)).trans hf_o100
          refine pz_loop (fun n0 H locs ls => ∃ f121 : Nat → va_E, ∃ w111 : Int32, n0 = (6 - (w111.toInt)).toNat ∧ tp_T (mo_O κ) κ τ ν ρ f121 ∧ tp_F τ [13, 69, 70, 71, 72, 80] f f121 ∧ f121 (ρ h0 2) = .inl (κ 0, 12967, .inl g27) ∧ f121 (ρ h0 49) = .inl (κ 0, 6, .inl g32) ∧ f121 (ρ h0 43) = .inl (κ 1, 192, .inr (.inl g35)) ∧ f121 (ρ h0 44) = .inl (κ 0, 192, .inl g29) ∧ f121 (ρ h0 42) = .inl (κ 0, 6, .inl g101) ∧ (0 ≤ w111.toInt ∧ w111.toInt ≤ 6) ∧ va_P (dC, dI) vwCl (va_pl L f121) H ∧ va_D A (va_pl L f121) ∧ va_S A s.heap H locs ∧ lv_has ls 9 [(7, .int w111), (6, .int w84), (5, .int w76), (4, .int w64), (0, .ref h0), (1, .int v), (2, .int u), (3, .int a)]) ?_ _ _ _ _ ⟨f108, 0, rfl, hT, hR, hf_110, hf_112, hf_113, hf_114, hf_115, (by have : (0 : Int32).toInt = 0 := rfl; omega), hP, hD, hS, lv_sub hl [0, 1, 2, 3, 4, 5, 6, 7] rfl⟩
          intro n0 H locs ls hI ih123
          refine Exists.elim hI (fun f121 hE90 => Exists.elim hE90 (fun w111 hE91 => tn_13 hE91 (fun hn124 hT hR hk116k hk117k hk118k hk119k hk120k rw111 hP hD hS hl => ?_)))
          clear hE91 hE90 hI
          refine lv_iload hx hb dX12_keepBest_198 (lv_at hl 0 rfl) ?_
          refine lv_iload hx hb dX12_keepBest_200 (lv_at hl 1 rfl) ?_
          refine lv_icmp_ge (tgt := 290) hx hb dX12_keepBest_202 (by decide) (fun c125 => ?_) (fun c125 => ?_)
          · have ic125 : w111.toInt ≥ w84.toInt := zi_ge rfl rfl c125
            obtain ⟨z126, ez126⟩ : ∃ y : Int32, y = w64 + 1 := ⟨_, rfl⟩
            refine lv_iinc (v := z126) (lv' := [(4, .int z126), (7, .int w111), (6, .int w84), (5, .int w76), (0, .ref h0), (1, .int v), (2, .int u), (3, .int a)]) hx hb dX12_keepBest_290 hl (k := 3) rfl (by rw [ez126]; rfl) (by decide) rfl (fun ls hl => ?_)
            have iz126 : z126.toInt = w64.toInt + 1 := zi_add ez126 rfl rfl (by omega) (by omega)
            refine lv_goto (tgt := 75) hx hb dX12_keepBest_293 (by decide) ?_
            exact ih71 _ _ _ _ (by rw [hn72]; omega) ⟨f121, z126, rfl, hT, hR, hk116k, hk117k, hk118k, hk119k, (by omega), hP, hD, hS, lv_sub hl [0, 4, 5, 6, 7] rfl⟩
          · have ic125 : w111.toInt < w84.toInt := zi_gef rfl rfl c125
            refine lv_aload_n hx hb dX12_keepBest_205 rfl (lv_at hl 4 rfl) ?_
            refine tpk_13 hT ht_h0 (fun o127_x0 o127_x1 o127_x7 o127_x9 o127_x10 o127_x11 o127_x12 o127_x13 o127_x14 o127_x15 o127_x16 o127_x17 o127_x18 o127_x19 o127_x20 o127_x22 o127_x25 o127_x28 o127_x29 o127_x32 o127_x33 o127_x34 o127_x35 o127_x36 o127_x37 o127_x38 o127_x47 o127_x48 hf_o127 ro127_0 ro127_1 ro127_2 ro127_3 ro127_4 ro127_5 ro127_6 ro127_7 ro127_8 ro127_9 ro127_10 ro127_11 ro127_12 ro127_13 => ?_)
            refine tpk_pos (tp_in hG ht_h0 (by decide)) hf_o127 (fun q128 eq128 => ?_)
            refine va_get (D := (dC, dI)) (ci := 12) (v := .ref (ρ h0 42)) (C := RX12) (T := TX12) (N := 53) hx hb hts hfX12 hown hK hP q128 eq128 rfl 42 (by decide) (hts (.fieldLink RX12 64 "ColdShipsModel" "line" "[I") wa_166) (fun _ h9 => h9) rfl dX12_keepBest_206 ?_
            refine lv_iload hx hb dX12_keepBest_209 (lv_at hl 0 rfl) ?_
            refine tpk_pos (tp_in hG y17 (by decide)) hk120k (fun q129 eq129 => ?_)
            refine va_iald hx hb hK hP q129 0 eq129 rfl (vp_in_iff.mpr ⟨by omega, by omega⟩) dX12_keepBest_211 ?_
            refine lv_topi (fun z130 ez130 => ?_)
            have jz130 : z130.toInt = mo_R g101 w111.toInt := mo_rd ez130 (by omega)
            have hln := hLN w111.toInt (by omega) (by omega)
            refine lv_istore (lv' := [(8, .int z130), (7, .int w111), (6, .int w84), (5, .int w76), (4, .int w64), (0, .ref h0), (1, .int v), (2, .int u), (3, .int a)]) hx hb dX12_keepBest_212 hl (by decide) rfl (fun ls hl => ?_)
            refine lv_aload_n hx hb dX12_keepBest_214 rfl (lv_at hl 5 rfl) ?_
            refine va_get (D := (dC, dI)) (ci := 12) (v := .ref (ρ h0 50)) (C := RX12) (T := TX12) (N := 53) hx hb hts hfX12 hown hK hP q128 eq128 rfl 50 (by decide) (hts (.fieldLink RX12 82 "ColdShipsModel" "bestTold" "[J") wa_172) (fun _ h9 => h9) rfl dX12_keepBest_215 ?_
            refine lv_iconst (v := 5) hx hb dX12_keepBest_218 (by decide) ?_
            refine lv_iload hx hb dX12_keepBest_219 (lv_at hl 0 rfl) ?_
            refine lv_imul hx hb dX12_keepBest_221 ?_
            refine lv_topi (fun z131 ez131 => ?_)
            have iz131 : z131.toInt = 5 * z130.toInt := zi_mul ez131 rfl rfl (by omega) (by omega)
            refine lv_iconst (v := 1) hx hb dX12_keepBest_222 (by decide) ?_
            refine lv_iadd hx hb dX12_keepBest_223 ?_
            refine lv_topi (fun z132 ez132 => ?_)
            have iz132 : z132.toInt = z131.toInt + 1 := zi_add ez132 rfl rfl (by omega) (by omega)
            refine lv_iload hx hb dX12_keepBest_224 (lv_at hl 1 rfl) ?_
            refine lv_i2l hx hb dX12_keepBest_226 rfl ?_
            refine tpk_80 hT y23 (fun g134 hf_o133 => ?_)
            refine tpk_pos (tp_in hG y23 (by decide)) hf_o133 (fun q135 eq135 => ?_)
            refine va_last hx hb hK hP hD hS q135 1 eq135 rfl (vp_in_iff.mpr ⟨by omega, by omega⟩) dX12_keepBest_227 (tp_k (.inl (κ 1, 30, .inr (.inl (vp_updL g134 z132.toNatClampNeg w111.toInt64)))) hD (tp_in hG y23 (by decide)) eq135 (fun f136 H locs hP hD hS g138 k137 => ?_))
            have hT := hT.up y23 g138 k137 tp_o80
            have hR := hR.up y23 (by decide) k137
            generalize (vp_updL g134 z132.toNatClampNeg w111.toInt64) = g139 at g138
            refine lv_aload_n hx hb dX12_keepBest_228 rfl (lv_at hl 5 rfl) ?_
            have hf_140 : f136 h0 = .inr (12, [.int o127_x0, .int o127_x1, .ref (ρ h0 2), .ref (ρ h0 3), .ref (ρ h0 4), .ref (ρ h0 5), .ref (ρ h0 6), .int o127_x7, .ref (ρ h0 8), .int o127_x9, .int o127_x10, .int o127_x11, .int o127_x12, .long o127_x13, .int o127_x14, .int o127_x15, .int o127_x16, .int o127_x17, .int o127_x18, .int o127_x19, .int o127_x20, .ref (ρ h0 21), .int o127_x22, .ref (ρ h0 23), .ref (ρ h0 24), .int o127_x25, .ref (ρ h0 26), .ref (ρ h0 27), .int o127_x28, .int o127_x29, .ref (ρ h0 30), .ref (ρ h0 31), .int o127_x32, .long o127_x33, .long o127_x34, .long o127_x35, .int o127_x36, .int o127_x37, .int o127_x38, .ref (ρ h0 39), .ref (ρ h0 40), .ref (ρ h0 41), .ref (ρ h0 42), .ref (ρ h0 43), .ref (ρ h0 44), .ref (ρ h0 45), .ref (ρ h0 46), .int o127_x47, .int o127_x48, .ref (ρ h0 49), .ref (ρ h0 50), .ref (ρ h0 51), .ref (ρ h0 52)]) := (k137 _ (tp_ne ht_h0 y23 (by decide))).trans hf_o127
            refine tpk_pos (tp_in hG ht_h0 (by decide)) hf_140 (fun q141 eq141 => ?_)
            refine va_get (D := (dC, dI)) (ci := 12) (v := .ref (ρ h0 50)) (C := RX12) (T := TX12) (N := 53) hx hb hts hfX12 hown hK hP q141 eq141 rfl 50 (by decide) (hts (.fieldLink RX12 82 "ColdShipsModel" "bestTold" "[J") wa_172) (fun _ h9 => h9) rfl dX12_keepBest_229 ?_
            refine lv_iconst (v := 5) hx hb dX12_keepBest_232 (by decide) ?_
            refine lv_iload hx hb dX12_keepBest_233 (lv_at hl 0 rfl) ?_
            refine lv_imul hx hb dX12_keepBest_235 ?_
            refine lv_topi (fun z142 ez142 => ?_)
            have iz142 : z142.toInt = 5 * z130.toInt := zi_mul ez142 rfl rfl (by omega) (by omega)
            refine lv_iconst (v := 2) hx hb dX12_keepBest_236 (by decide) ?_
            refine lv_iadd hx hb dX12_keepBest_237 ?_
            refine lv_topi (fun z143 ez143 => ?_)
            have iz143 : z143.toInt = z142.toInt + 2 := zi_add ez143 rfl rfl (by omega) (by omega)
            refine lv_aload_n hx hb dX12_keepBest_238 rfl (lv_at hl 5 rfl) ?_
            refine va_get (D := (dC, dI)) (ci := 12) (v := .ref (ρ h0 39)) (C := RX12) (T := TX12) (N := 53) hx hb hts hfX12 hown hK hP q141 eq141 rfl 39 (by decide) (hts (.fieldLink RX12 55 "ColdShipsModel" "loads" "[I") wa_163) (fun _ h9 => h9) rfl dX12_keepBest_239 ?_
            refine lv_iload hx hb dX12_keepBest_242 (lv_at hl 0 rfl) ?_
            refine tpk_69 hT y14 (fun g145 hf_o144 => ?_)
            refine tpk_pos (tp_in hG y14 (by decide)) hf_o144 (fun q146 eq146 => ?_)
            refine va_iald hx hb hK hP q146 0 eq146 rfl (vp_in_iff.mpr ⟨by omega, by omega⟩) dX12_keepBest_244 ?_
            refine lv_topi (fun z147 ez147 => ?_)
            refine lv_i2l hx hb dX12_keepBest_245 rfl ?_
            refine tpk_pos (tp_in hG y23 (by decide)) g138 (fun q148 eq148 => ?_)
            refine va_last hx hb hK hP hD hS q148 1 eq148 rfl (vp_in_iff.mpr ⟨by omega, by omega⟩) dX12_keepBest_246 (tp_k (.inl (κ 1, 30, .inr (.inl (vp_updL g139 z143.toNatClampNeg z147.toInt64)))) hD (tp_in hG y23 (by decide)) eq148 (fun f149 H locs hP hD hS g151 k150 => ?_))
            have hT := hT.up y23 g151 k150 tp_o80
            have hR := hR.up y23 (by decide) k150
            generalize (vp_updL g139 z143.toNatClampNeg z147.toInt64) = g152 at g151
            refine lv_aload_n hx hb dX12_keepBest_247 rfl (lv_at hl 5 rfl) ?_
            have hf_153 : f149 h0 = .inr (12, [.int o127_x0, .int o127_x1, .ref (ρ h0 2), .ref (ρ h0 3), .ref (ρ h0 4), .ref (ρ h0 5), .ref (ρ h0 6), .int o127_x7, .ref (ρ h0 8), .int o127_x9, .int o127_x10, .int o127_x11, .int o127_x12, .long o127_x13, .int o127_x14, .int o127_x15, .int o127_x16, .int o127_x17, .int o127_x18, .int o127_x19, .int o127_x20, .ref (ρ h0 21), .int o127_x22, .ref (ρ h0 23), .ref (ρ h0 24), .int o127_x25, .ref (ρ h0 26), .ref (ρ h0 27), .int o127_x28, .int o127_x29, .ref (ρ h0 30), .ref (ρ h0 31), .int o127_x32, .long o127_x33, .long o127_x34, .long o127_x35, .int o127_x36, .int o127_x37, .int o127_x38, .ref (ρ h0 39), .ref (ρ h0 40), .ref (ρ h0 41), .ref (ρ h0 42), .ref (ρ h0 43), .ref (ρ h0 44), .ref (ρ h0 45), .ref (ρ h0 46), .int o127_x47, .int o127_x48, .ref (ρ h0 49), .ref (ρ h0 50), .ref (ρ h0 51), .ref (ρ h0 52)]) := (k150 _ (tp_ne ht_h0 y23 (by decide))).trans hf_140
            refine tpk_pos (tp_in hG ht_h0 (by decide)) hf_153 (fun q154 eq154 => ?_)
            refine va_get (D := (dC, dI)) (ci := 12) (v := .ref (ρ h0 50)) (C := RX12) (T := TX12) (N := 53) hx hb hts hfX12 hown hK hP q154 eq154 rfl 50 (by decide) (hts (.fieldLink RX12 82 "ColdShipsModel" "bestTold" "[J") wa_172) (fun _ h9 => h9) rfl dX12_keepBest_248 ?_
            refine lv_iconst (v := 5) hx hb dX12_keepBest_251 (by decide) ?_
            refine lv_iload hx hb dX12_keepBest_252 (lv_at hl 0 rfl) ?_
            refine lv_imul hx hb dX12_keepBest_254 ?_
            refine lv_topi (fun z155 ez155 => ?_)
            have iz155 : z155.toInt = 5 * z130.toInt := zi_mul ez155 rfl rfl (by omega) (by omega)
            refine lv_iconst (v := 3) hx hb dX12_keepBest_255 (by decide) ?_
            refine lv_iadd hx hb dX12_keepBest_256 ?_
            refine lv_topi (fun z156 ez156 => ?_)
            have iz156 : z156.toInt = z155.toInt + 3 := zi_add ez156 rfl rfl (by omega) (by omega)
            refine lv_aload_n hx hb dX12_keepBest_257 rfl (lv_at hl 5 rfl) ?_
            refine va_get (D := (dC, dI)) (ci := 12) (v := .ref (ρ h0 40)) (C := RX12) (T := TX12) (N := 53) hx hb hts hfX12 hown hK hP q154 eq154 rfl 40 (by decide) (hts (.fieldLink RX12 58 "ColdShipsModel" "lands" "[I") wa_164) (fun _ h9 => h9) rfl dX12_keepBest_258 ?_
            refine lv_iload hx hb dX12_keepBest_261 (lv_at hl 0 rfl) ?_
            refine tpk_70 hT y15 (fun g158 hf_o157 => ?_)
            refine tpk_pos (tp_in hG y15 (by decide)) hf_o157 (fun q159 eq159 => ?_)
            refine va_iald hx hb hK hP q159 0 eq159 rfl (vp_in_iff.mpr ⟨by omega, by omega⟩) dX12_keepBest_263 ?_
            refine lv_topi (fun z160 ez160 => ?_)
            refine lv_i2l hx hb dX12_keepBest_264 rfl ?_
            refine tpk_pos (tp_in hG y23 (by decide)) g151 (fun q161 eq161 => ?_)
            refine va_last hx hb hK hP hD hS q161 1 eq161 rfl (vp_in_iff.mpr ⟨by omega, by omega⟩) dX12_keepBest_265 (tp_k (.inl (κ 1, 30, .inr (.inl (vp_updL g152 z156.toNatClampNeg z160.toInt64)))) hD (tp_in hG y23 (by decide)) eq161 (fun f162 H locs hP hD hS g164 k163 => ?_))
            have hT := hT.up y23 g164 k163 tp_o80
            have hR := hR.up y23 (by decide) k163
            generalize (vp_updL g152 z156.toNatClampNeg z160.toInt64) = g165 at g164
            refine lv_aload_n hx hb dX12_keepBest_266 rfl (lv_at hl 5 rfl) ?_
            have hf_166 : f162 h0 = .inr (12, [.int o127_x0, .int o127_x1, .ref (ρ h0 2), .ref (ρ h0 3), .ref (ρ h0 4), .ref (ρ h0 5), .ref (ρ h0 6), .int o127_x7, .ref (ρ h0 8), .int o127_x9, .int o127_x10, .int o127_x11, .int o127_x12, .long o127_x13, .int o127_x14, .int o127_x15, .int o127_x16, .int o127_x17, .int o127_x18, .int o127_x19, .int o127_x20, .ref (ρ h0 21), .int o127_x22, .ref (ρ h0 23), .ref (ρ h0 24), .int o127_x25, .ref (ρ h0 26), .ref (ρ h0 27), .int o127_x28, .int o127_x29, .ref (ρ h0 30), .ref (ρ h0 31), .int o127_x32, .long o127_x33, .long o127_x34, .long o127_x35, .int o127_x36, .int o127_x37, .int o127_x38, .ref (ρ h0 39), .ref (ρ h0 40), .ref (ρ h0 41), .ref (ρ h0 42), .ref (ρ h0 43), .ref (ρ h0 44), .ref (ρ h0 45), .ref (ρ h0 46), .int o127_x47, .int o127_x48, .ref (ρ h0 49), .ref (ρ h0 50), .ref (ρ h0 51), .ref (ρ h0 52)]) := (k163 _ (tp_ne ht_h0 y23 (by decide))).trans hf_153
            refine tpk_pos (tp_in hG ht_h0 (by decide)) hf_166 (fun q167 eq167 => ?_)
            refine va_get (D := (dC, dI)) (ci := 12) (v := .ref (ρ h0 50)) (C := RX12) (T := TX12) (N := 53) hx hb hts hfX12 hown hK hP q167 eq167 rfl 50 (by decide) (hts (.fieldLink RX12 82 "ColdShipsModel" "bestTold" "[J") wa_172) (fun _ h9 => h9) rfl dX12_keepBest_267 ?_
            refine lv_iconst (v := 5) hx hb dX12_keepBest_270 (by decide) ?_
            refine lv_iload hx hb dX12_keepBest_271 (lv_at hl 0 rfl) ?_
            refine lv_imul hx hb dX12_keepBest_273 ?_
            refine lv_topi (fun z168 ez168 => ?_)
            have iz168 : z168.toInt = 5 * z130.toInt := zi_mul ez168 rfl rfl (by omega) (by omega)
            refine lv_iconst (v := 4) hx hb dX12_keepBest_274 (by decide) ?_
            refine lv_iadd hx hb dX12_keepBest_275 ?_
            refine lv_topi (fun z169 ez169 => ?_)
            have iz169 : z169.toInt = z168.toInt + 4 := zi_add ez169 rfl rfl (by omega) (by omega)
            refine lv_aload_n hx hb dX12_keepBest_276 rfl (lv_at hl 5 rfl) ?_
            refine va_get (D := (dC, dI)) (ci := 12) (v := .ref (ρ h0 41)) (C := RX12) (T := TX12) (N := 53) hx hb hts hfX12 hown hK hP q167 eq167 rfl 41 (by decide) (hts (.fieldLink RX12 61 "ColdShipsModel" "worths" "[J") wa_165) (fun _ h9 => h9) rfl dX12_keepBest_277 ?_
            refine lv_iload hx hb dX12_keepBest_280 (lv_at hl 0 rfl) ?_
            refine tpk_71 hT y16 (fun g171 hf_o170 => ?_)
            refine tpk_pos (tp_in hG y16 (by decide)) hf_o170 (fun q172 eq172 => ?_)
            refine va_lald hx hb hK hP q172 1 eq172 rfl (vp_in_iff.mpr ⟨by omega, by omega⟩) dX12_keepBest_282 ?_
            refine lv_topl (fun z173 ez173 => ?_)
            refine tpk_pos (tp_in hG y23 (by decide)) g164 (fun q174 eq174 => ?_)
            refine va_last hx hb hK hP hD hS q174 1 eq174 rfl (vp_in_iff.mpr ⟨by omega, by omega⟩) dX12_keepBest_283 (tp_k (.inl (κ 1, 30, .inr (.inl (vp_updL g165 z169.toNatClampNeg z173)))) hD (tp_in hG y23 (by decide)) eq174 (fun f175 H locs hP hD hS g177 k176 => ?_))
            have hT := hT.up y23 g177 k176 tp_o80
            have hR := hR.up y23 (by decide) k176
            generalize (vp_updL g165 z169.toNatClampNeg z173) = g178 at g177
            obtain ⟨z179, ez179⟩ : ∃ y : Int32, y = w111 + 1 := ⟨_, rfl⟩
            refine lv_iinc (v := z179) (lv' := [(7, .int z179), (8, .int z130), (6, .int w84), (5, .int w76), (4, .int w64), (0, .ref h0), (1, .int v), (2, .int u), (3, .int a)]) hx hb dX12_keepBest_284 hl (k := 1) rfl (by rw [ez179]; rfl) (by decide) rfl (fun ls hl => ?_)
            have iz179 : z179.toInt = w111.toInt + 1 := zi_add ez179 rfl rfl (by omega) (by omega)
            refine lv_goto (tgt := 198) hx hb dX12_keepBest_287 (by decide) ?_
            have hf_180 : f136 (ρ h0 2) = .inl (κ 0, 12967, .inl g27) := (k137 _ (tp_ne y1 y23 (by decide))).trans hk116k
            have hf_181 : f149 (ρ h0 2) = .inl (κ 0, 12967, .inl g27) := (k150 _ (tp_ne y1 y23 (by decide))).trans hf_180
            have hf_182 : f162 (ρ h0 2) = .inl (κ 0, 12967, .inl g27) := (k163 _ (tp_ne y1 y23 (by decide))).trans hf_181
            have hf_183 : f175 (ρ h0 2) = .inl (κ 0, 12967, .inl g27) := (k176 _ (tp_ne y1 y23 (by decide))).trans hf_182
            have hf_184 : f136 (ρ h0 49) = .inl (κ 0, 6, .inl g32) := (k137 _ (tp_ne y22 y23 (by decide))).trans hk117k
            have hf_185 : f149 (ρ h0 49) = .inl (κ 0, 6, .inl g32) := (k150 _ (tp_ne y22 y23 (by decide))).trans hf_184
            have hf_186 : f162 (ρ h0 49) = .inl (κ 0, 6, .inl g32) := (k163 _ (tp_ne y22 y23 (by decide))).trans hf_185
            have hf_187 : f175 (ρ h0 49) = .inl (κ 0, 6, .inl g32) := (k176 _ (tp_ne y22 y23 (by decide))).trans hf_186
            have hf_188 : f136 (ρ h0 43) = .inl (κ 1, 192, .inr (.inl g35)) := (k137 _ (tp_ne y18 y23 (by decide))).trans hk118k
            have hf_189 : f149 (ρ h0 43) = .inl (κ 1, 192, .inr (.inl g35)) := (k150 _ (tp_ne y18 y23 (by decide))).trans hf_188
            have hf_190 : f162 (ρ h0 43) = .inl (κ 1, 192, .inr (.inl g35)) := (k163 _ (tp_ne y18 y23 (by decide))).trans hf_189
            have hf_191 : f175 (ρ h0 43) = .inl (κ 1, 192, .inr (.inl g35)) := (k176 _ (tp_ne y18 y23 (by decide))).trans hf_190
            have hf_192 : f136 (ρ h0 44) = .inl (κ 0, 192, .inl g29) := (k137 _ (tp_ne y19 y23 (by decide))).trans hk119k
            have hf_193 : f149 (ρ h0 44) = .inl (κ 0, 192, .inl g29) := (k150 _ (tp_ne y19 y23 (by decide))).trans hf_192
            have hf_194 : f162 (ρ h0 44) = .inl (κ 0, 192, .inl g29) := (k163 _ (tp_ne y19 y23 (by decide))).trans hf_193
            have hf_195 : f175 (ρ h0 44) = .inl (κ 0, 192, .inl g29) := (k176 _ (tp_ne y19 y23 (by decide))).trans hf_194
            have hf_196 : f136 (ρ h0 42) = .inl (κ 0, 6, .inl g101) := (k137 _ (tp_ne y17 y23 (by decide))).trans hk120k
            have hf_197 : f149 (ρ h0 42) = .inl (κ 0, 6, .inl g101) := (k150 _ (tp_ne y17 y23 (by decide))).trans hf_196
            have hf_198 : f162 (ρ h0 42) = .inl (κ 0, 6, .inl g101) := (k163 _ (tp_ne y17 y23 (by decide))).trans hf_197
            have hf_199 : f175 (ρ h0 42) = .inl (κ 0, 6, .inl g101) := (k176 _ (tp_ne y17 y23 (by decide))).trans hf_198
            exact ih123 _ _ _ _ (by rw [hn124]; omega) ⟨f175, z179, rfl, hT, hR, hf_183, hf_187, hf_191, hf_195, hf_199, (by omega), hP, hD, hS, lv_sub hl [0, 2, 3, 4, 5, 6, 7, 8] rfl⟩
        · have ic103 : w83.toInt < v.toInt := zi_gef rfl rfl c103
          refine lv_aload_n hx hb dX12_keepBest_136 rfl (lv_at hl 4 rfl) ?_
          refine tpk_13 hT ht_h0 (fun o200_x0 o200_x1 o200_x7 o200_x9 o200_x10 o200_x11 o200_x12 o200_x13 o200_x14 o200_x15 o200_x16 o200_x17 o200_x18 o200_x19 o200_x20 o200_x22 o200_x25 o200_x28 o200_x29 o200_x32 o200_x33 o200_x34 o200_x35 o200_x36 o200_x37 o200_x38 o200_x47 o200_x48 hf_o200 ro200_0 ro200_1 ro200_2 ro200_3 ro200_4 ro200_5 ro200_6 ro200_7 ro200_8 ro200_9 ro200_10 ro200_11 ro200_12 ro200_13 => ?_)
          refine tpk_pos (tp_in hG ht_h0 (by decide)) hf_o200 (fun q201 eq201 => ?_)
          refine va_get (D := (dC, dI)) (ci := 12) (v := .ref (ρ h0 49)) (C := RX12) (T := TX12) (N := 53) hx hb hts hfX12 hown hK hP q201 eq201 rfl 49 (by decide) (hts (.fieldLink RX12 79 "ColdShipsModel" "bestShip" "[I") wa_171) (fun _ h9 => h9) rfl dX12_keepBest_137 ?_
          refine lv_iload hx hb dX12_keepBest_140 (lv_at hl 0 rfl) ?_
          refine tpk_pos (tp_in hG y22 (by decide)) hk89k (fun q202 eq202 => ?_)
          refine va_iald hx hb hK hP q202 0 eq202 rfl (vp_in_iff.mpr ⟨by omega, by omega⟩) dX12_keepBest_142 ?_
          refine lv_topi (fun z203 ez203 => ?_)
          have jz203 : z203.toInt = mo_R g32 w83.toInt := mo_rd ez203 (by omega)
          refine lv_iload hx hb dX12_keepBest_143 (lv_at hl 3 rfl) ?_
          refine lv_icmp_ne (tgt := 179) hx hb dX12_keepBest_145 (by decide) (fun c204 => ?_) (fun c204 => ?_)
          · have ic204 : z203.toInt ≠ w64.toInt := zi_ne rfl rfl c204
            obtain ⟨z205, ez205⟩ : ∃ y : Int32, y = w83 + 1 := ⟨_, rfl⟩
            refine lv_iinc (v := z205) (lv' := [(7, .int z205), (6, .int w84), (5, .int w76), (4, .int w64), (0, .ref h0), (1, .int v), (2, .int u), (3, .int a)]) hx hb dX12_keepBest_179 hl (k := 0) rfl (by rw [ez205]; rfl) (by decide) rfl (fun ls hl => ?_)
            have iz205 : z205.toInt = w83.toInt + 1 := zi_add ez205 rfl rfl (by omega) (by omega)
            refine lv_goto (tgt := 130) hx hb dX12_keepBest_182 (by decide) ?_
            exact ih97 _ _ _ _ (by rw [hn98]; omega) ⟨f95, z205, w84, rfl, hT, hR, hk88k, hk89k, hk90k, hk91k, (by first | (simp only [(mo_un tf102), mo_i1, mo_l1]; exact (show mo_KL (mo_R g101) ((mo_R g29) (64 * w64.toInt + w76.toInt)) w76.toInt (z205.toInt) v.toInt from jf99.no (fun q9 => by have := (hbits w83.toInt (by omega) (by omega)).mp q9; omega) (by omega))) | (rw [(mo_un tf102)]; exact (show mo_KL (mo_R g101) ((mo_R g29) (64 * w64.toInt + w76.toInt)) w76.toInt (z205.toInt) v.toInt from jf99.no (fun q9 => by have := (hbits w83.toInt (by omega) (by omega)).mp q9; omega) (by omega)))), (by omega), (by omega), (by omega), (by omega), (by have q9 := mo_cn_no (fun q9 => by have := (hbits w83.toInt (by omega) (by omega)).mp q9; omega) (by omega) (by omega); rw [show z205.toInt = w83.toInt + 1 by omega, q9]; omega), hP, hD, hS, lv_sub hl [0, 1, 2, 3, 4, 5, 6, 7] rfl⟩
          · have ic204 : z203.toInt = w64.toInt := zi_nef rfl rfl c204
            have hbc := (hbits w83.toInt (by omega) (by omega)).mpr (by omega)
            have hpc := hGD.2.1 w83.toInt (by omega) (by omega) hbc
            have hyr := hGD.1
            refine lv_aload_n hx hb dX12_keepBest_148 rfl (lv_at hl 4 rfl) ?_
            refine va_get (D := (dC, dI)) (ci := 12) (v := .ref (ρ h0 42)) (C := RX12) (T := TX12) (N := 53) hx hb hts hfX12 hown hK hP q201 eq201 rfl 42 (by decide) (hts (.fieldLink RX12 64 "ColdShipsModel" "line" "[I") wa_166) (fun _ h9 => h9) rfl dX12_keepBest_149 ?_
            refine lv_aload_n hx hb dX12_keepBest_152 rfl (lv_at hl 4 rfl) ?_
            refine va_get (D := (dC, dI)) (ci := 12) (v := .ref (ρ h0 44)) (C := RX12) (T := TX12) (N := 53) hx hb hts hfX12 hown hK hP q201 eq201 rfl 44 (by decide) (hts (.fieldLink RX12 70 "ColdShipsModel" "placesOf" "[I") wa_168) (fun _ h9 => h9) rfl dX12_keepBest_153 ?_
            refine lv_bipush (v := 64) hx hb dX12_keepBest_156 (by decide) ?_
            refine lv_iload hx hb dX12_keepBest_158 (lv_at hl 3 rfl) ?_
            refine lv_imul hx hb dX12_keepBest_160 ?_
            refine lv_topi (fun z206 ez206 => ?_)
            have iz206 : z206.toInt = 64 * w64.toInt := zi_mul ez206 rfl rfl (by omega) (by omega)
            refine lv_iload hx hb dX12_keepBest_161 (lv_at hl 2 rfl) ?_
            refine lv_iadd hx hb dX12_keepBest_163 ?_
            refine lv_topi (fun z207 ez207 => ?_)
            have iz207 : z207.toInt = z206.toInt + w76.toInt := zi_add ez207 rfl rfl (by omega) (by omega)
            refine tpk_pos (tp_in hG y19 (by decide)) hk91k (fun q208 eq208 => ?_)
            refine va_iald hx hb hK hP q208 0 eq208 rfl (vp_in_iff.mpr ⟨by omega, by omega⟩) dX12_keepBest_164 ?_
            refine lv_topi (fun z209 ez209 => ?_)
            have jz209 : z209.toInt = mo_R g29 (64 * w64.toInt + w76.toInt) := mo_rd ez209 (by omega)
            refine lv_iconst (v := 3) hx hb dX12_keepBest_165 (by decide) ?_
            refine lv_iload hx hb dX12_keepBest_166 (lv_at hl 0 rfl) ?_
            refine lv_imul hx hb dX12_keepBest_168 ?_
            refine lv_topi (fun z210 ez210 => ?_)
            have iz210 : z210.toInt = 3 * w83.toInt := zi_mul ez210 rfl rfl (by omega) (by omega)
            refine lv_ishr hx hb dX12_keepBest_169 ?_
            refine lv_topi (fun z211 ez211 => ?_)
            refine lv_bipush (v := 7) hx hb dX12_keepBest_170 (by decide) ?_
            refine lv_iand hx hb dX12_keepBest_172 ?_
            refine lv_topi (fun z212 ez212 => ?_)
            have iz212 : 0 ≤ z212.toInt ∧ z212.toInt ≤ 7 := zb_mask ez212 (by decide)
            have hpl : z212.toInt = mo_pl z209.toInt w83.toInt := zb_pl ez211 ez212 (by omega) (by omega) (by omega)
            rw [jz209] at hpl
            refine lv_iload hx hb dX12_keepBest_173 (lv_at hl 0 rfl) ?_
            refine tpk_pos (tp_in hG y17 (by decide)) hf_o100 (fun q213 eq213 => ?_)
            refine va_iast hx hb hK hP hD hS q213 0 eq213 rfl (vp_in_iff.mpr ⟨by omega, by omega⟩) dX12_keepBest_175 (tp_k (.inl (κ 0, 6, .inl (upd g101 z212.toNatClampNeg w83))) hD (tp_in hG y17 (by decide)) eq213 (fun f214 H locs hP hD hS g216 k215 => ?_))
            have hT := hT.up y17 g216 k215 tp_o72
            have hR := hR.up y17 (by decide) k215
            have hU218 : mo_U (mo_R g101) (mo_R (upd g101 z212.toNatClampNeg w83)) (z212.toInt) (w83.toInt) := mo_up (by omega) (rfl : w83.toInt = _) (by omega)
            generalize (upd g101 z212.toNatClampNeg w83) = g217 at g216 hU218
            have hU218e := hU218.eq (by omega)
            obtain ⟨z219, ez219⟩ : ∃ y : Int32, y = w84 + 1 := ⟨_, rfl⟩
            refine lv_iinc (v := z219) (lv' := [(6, .int z219), (7, .int w83), (5, .int w76), (4, .int w64), (0, .ref h0), (1, .int v), (2, .int u), (3, .int a)]) hx hb dX12_keepBest_176 hl (k := 1) rfl (by rw [ez219]; rfl) (by decide) rfl (fun ls hl => ?_)
            have iz219 : z219.toInt = w84.toInt + 1 := zi_add ez219 rfl rfl (by omega) (by omega)
            obtain ⟨z220, ez220⟩ : ∃ y : Int32, y = w83 + 1 := ⟨_, rfl⟩
            refine lv_iinc (v := z220) (lv' := [(7, .int z220), (6, .int z219), (5, .int w76), (4, .int w64), (0, .ref h0), (1, .int v), (2, .int u), (3, .int a)]) hx hb dX12_keepBest_179 hl (k := 1) rfl (by rw [ez220]; rfl) (by decide) rfl (fun ls hl => ?_)
            have iz220 : z220.toInt = w83.toInt + 1 := zi_add ez220 rfl rfl (by omega) (by omega)
            refine lv_goto (tgt := 130) hx hb dX12_keepBest_182 (by decide) ?_
            have tf221 : mo_hd (mo_i (f214 (ρ h0 42)) = g217) := tfa_i g216
            have hf_222 : f214 (ρ h0 2) = .inl (κ 0, 12967, .inl g27) := (k215 _ (tp_ne y1 y17 (by decide))).trans hk88k
            have hf_223 : f214 (ρ h0 49) = .inl (κ 0, 6, .inl g32) := (k215 _ (tp_ne y22 y17 (by decide))).trans hk89k
            have hf_224 : f214 (ρ h0 43) = .inl (κ 1, 192, .inr (.inl g35)) := (k215 _ (tp_ne y18 y17 (by decide))).trans hk90k
            have hf_225 : f214 (ρ h0 44) = .inl (κ 0, 192, .inl g29) := (k215 _ (tp_ne y19 y17 (by decide))).trans hk91k
            exact ih97 _ _ _ _ (by rw [hn98]; omega) ⟨f214, z220, z219, rfl, hT, hR, hf_222, hf_223, hf_224, hf_225, (by first | (simp only [(mo_un tf221), mo_i1, mo_l1]; exact (show mo_KL (mo_R g217) ((mo_R g29) (64 * w64.toInt + w76.toInt)) w76.toInt (z220.toInt) v.toInt from jf99.up hGD hU218 (by omega) (by omega) (by omega) (by omega))) | (rw [(mo_un tf221)]; exact (show mo_KL (mo_R g217) ((mo_R g29) (64 * w64.toInt + w76.toInt)) w76.toInt (z220.toInt) v.toInt from jf99.up hGD hU218 (by omega) (by omega) (by omega) (by omega)))), (by omega), (by omega), (by omega), (by omega), (by have q9 := mo_cn_yes ((hbits w83.toInt (by omega) (by omega)).mpr (by omega)); rw [show z220.toInt = w83.toInt + 1 by omega, q9]; omega), hP, hD, hS, lv_sub hl [0, 1, 2, 3, 4, 5, 6, 7] rfl⟩
      · have ic81 : w75.toInt < v.toInt := zi_gef rfl rfl c81
        refine lv_iload hx hb dX12_keepBest_96 (lv_at hl 2 rfl) ?_
        refine lv_aload_n hx hb dX12_keepBest_98 rfl (lv_at hl 4 rfl) ?_
        refine tpk_13 hT ht_h0 (fun o226_x0 o226_x1 o226_x7 o226_x9 o226_x10 o226_x11 o226_x12 o226_x13 o226_x14 o226_x15 o226_x16 o226_x17 o226_x18 o226_x19 o226_x20 o226_x22 o226_x25 o226_x28 o226_x29 o226_x32 o226_x33 o226_x34 o226_x35 o226_x36 o226_x37 o226_x38 o226_x47 o226_x48 hf_o226 ro226_0 ro226_1 ro226_2 ro226_3 ro226_4 ro226_5 ro226_6 ro226_7 ro226_8 ro226_9 ro226_10 ro226_11 ro226_12 ro226_13 => ?_)
        refine tpk_pos (tp_in hG ht_h0 (by decide)) hf_o226 (fun q227 eq227 => ?_)
        refine va_get (D := (dC, dI)) (ci := 12) (v := .ref (ρ h0 49)) (C := RX12) (T := TX12) (N := 53) hx hb hts hfX12 hown hK hP q227 eq227 rfl 49 (by decide) (hts (.fieldLink RX12 79 "ColdShipsModel" "bestShip" "[I") wa_171) (fun _ h9 => h9) rfl dX12_keepBest_99 ?_
        refine lv_iload hx hb dX12_keepBest_102 (lv_at hl 0 rfl) ?_
        refine tpk_pos (tp_in hG y22 (by decide)) hk66k (fun q228 eq228 => ?_)
        refine va_iald hx hb hK hP q228 0 eq228 rfl (vp_in_iff.mpr ⟨by omega, by omega⟩) dX12_keepBest_104 ?_
        refine lv_topi (fun z229 ez229 => ?_)
        have jz229 : z229.toInt = mo_R g32 w75.toInt := mo_rd ez229 (by omega)
        refine lv_iload hx hb dX12_keepBest_105 (lv_at hl 3 rfl) ?_
        refine lv_icmp_ne (tgt := 117) hx hb dX12_keepBest_107 (by decide) (fun c230 => ?_) (fun c230 => ?_)
        · have ic230 : z229.toInt ≠ w64.toInt := zi_ne rfl rfl c230
          refine lv_iconst (v := 0) hx hb dX12_keepBest_117 (by decide) ?_
          refine lv_ior hx hb dX12_keepBest_118 ?_
          refine lv_topi (fun z231 ez231 => ?_)
          have iz231 : 0 ≤ z231.toInt ∧ z231.toInt ≤ 63 := zb_or 6 ez231 (rfl : w76.toInt = _) (show (0 : Int32).toInt = 0 from rfl) (by omega) (by omega) (by omega) (by omega) (by decide)
          have hor0 : z231.toInt = w76.toInt := zb_or00 ez231
          refine lv_istore (lv' := [(5, .int z231), (7, .int w75), (6, .int 0), (4, .int w64), (0, .ref h0), (1, .int v), (2, .int u), (3, .int a)]) hx hb dX12_keepBest_119 hl (by decide) rfl (fun ls hl => ?_)
          obtain ⟨z232, ez232⟩ : ∃ y : Int32, y = w75 + 1 := ⟨_, rfl⟩
          refine lv_iinc (v := z232) (lv' := [(7, .int z232), (5, .int z231), (6, .int 0), (4, .int w64), (0, .ref h0), (1, .int v), (2, .int u), (3, .int a)]) hx hb dX12_keepBest_121 hl (k := 1) rfl (by rw [ez232]; rfl) (by decide) rfl (fun ls hl => ?_)
          have iz232 : z232.toInt = w75.toInt + 1 := zi_add ez232 rfl rfl (by omega) (by omega)
          refine lv_goto (tgt := 90) hx hb dX12_keepBest_124 (by decide) ?_
          exact ih79 _ _ _ _ (by rw [hn80]; omega) ⟨z232, z231, rfl, (by omega), (by omega), (by omega), (fun d d0 d1 => by rw [hor0, k78 d d0 d1]; rcases (show d = w75.toInt ∨ d ≠ w75.toInt by omega) with rfl | q9 <;> omega), hP, hD, hS, lv_sub hl [0, 2, 1, 3, 4, 5, 6, 7] rfl⟩
        · have ic230 : z229.toInt = w64.toInt := zi_nef rfl rfl c230
          refine lv_iconst (v := 1) hx hb dX12_keepBest_110 (by decide) ?_
          refine lv_iload hx hb dX12_keepBest_111 (lv_at hl 0 rfl) ?_
          refine lv_ishl hx hb dX12_keepBest_113 ?_
          refine lv_topi (fun z233 ez233 => ?_)
          have iz233 : 1 ≤ z233.toInt ∧ z233.toInt ≤ 32 := zb_shl5 ez233 rfl (by omega) (by omega)
          refine lv_goto (tgt := 118) hx hb dX12_keepBest_114 (by decide) ?_
          refine lv_ior hx hb dX12_keepBest_118 ?_
          refine lv_topi (fun z234 ez234 => ?_)
          have iz234 : 0 ≤ z234.toInt ∧ z234.toInt ≤ 63 := zb_or 6 ez234 (rfl : w76.toInt = _) (rfl : z233.toInt = _) (by omega) (by omega) (by omega) (by omega) (by decide)
          have hor := zb_orbit ez233 ez234 (by omega) (by omega) (by omega) (by omega)
          have hor1 := hor.1
          refine lv_istore (lv' := [(5, .int z234), (7, .int w75), (6, .int 0), (4, .int w64), (0, .ref h0), (1, .int v), (2, .int u), (3, .int a)]) hx hb dX12_keepBest_119 hl (by decide) rfl (fun ls hl => ?_)
          obtain ⟨z235, ez235⟩ : ∃ y : Int32, y = w75 + 1 := ⟨_, rfl⟩
          refine lv_iinc (v := z235) (lv' := [(7, .int z235), (5, .int z234), (6, .int 0), (4, .int w64), (0, .ref h0), (1, .int v), (2, .int u), (3, .int a)]) hx hb dX12_keepBest_121 hl (k := 1) rfl (by rw [ez235]; rfl) (by decide) rfl (fun ls hl => ?_)
          have iz235 : z235.toInt = w75.toInt + 1 := zi_add ez235 rfl rfl (by omega) (by omega)
          refine lv_goto (tgt := 90) hx hb dX12_keepBest_124 (by decide) ?_
          exact ih79 _ _ _ _ (by rw [hn80]; omega) ⟨z235, z234, rfl, (by omega), (by omega), (by omega), (fun d d0 d1 => by rw [hor.2 d d0 d1, k78 d d0 d1]; rcases (show d = w75.toInt ∨ d ≠ w75.toInt by omega) with rfl | q9 <;> omega), hP, hD, hS, lv_sub hl [0, 2, 1, 3, 4, 5, 6, 7] rfl⟩
  · have ic63 : w48.toInt < v.toInt := zi_gef rfl rfl c63
    refine lv_iconst (v := 0) hx hb dX12_keepBest_19 (by decide) ?_
    refine lv_istore (lv' := [(5, .int 0), (4, .int w48), (0, .ref h0), (1, .int v), (2, .int u), (3, .int a)]) hx hb dX12_keepBest_20 hl (by decide) rfl (fun ls hl => ?_)
    refine pz_loop (fun n0 H locs ls => ∃ f241 : Nat → va_E, ∃ w236 : Int32, n0 = (5 - (w236.toInt)).toNat ∧ tp_T (mo_O κ) κ τ ν ρ f241 ∧ tp_F τ [13, 69, 70, 71, 72, 80] f f241 ∧ f241 (ρ h0 2) = .inl (κ 0, 12967, .inl g27) ∧ f241 (ρ h0 49) = .inl (κ 0, 6, .inl g32) ∧ f241 (ρ h0 43) = .inl (κ 1, 192, .inr (.inl g35)) ∧ f241 (ρ h0 44) = .inl (κ 0, 192, .inl g29) ∧ (0 ≤ w236.toInt ∧ w236.toInt ≤ 5) ∧ va_P (dC, dI) vwCl (va_pl L f241) H ∧ va_D A (va_pl L f241) ∧ va_S A s.heap H locs ∧ lv_has ls 9 [(5, .int w236), (4, .int w48), (0, .ref h0), (1, .int v), (2, .int u), (3, .int a)]) ?_ _ _ _ _ ⟨f59, 0, rfl, hT, hR, hk55k, hk56k, hk57k, hk58k, (by have : (0 : Int32).toInt = 0 := rfl; omega), hP, hD, hS, lv_sub hl [0, 1, 2, 3, 4, 5] rfl⟩
    intro n0 H locs ls hI ih243
    refine Exists.elim hI (fun f241 hE90 => Exists.elim hE90 (fun w236 hE91 => tn_12 hE91 (fun hn244 hT hR hk237k hk238k hk239k hk240k rw236 hP hD hS hl => ?_)))
    clear hE91 hE90 hI
    refine lv_iload hx hb dX12_keepBest_22 (lv_at hl 0 rfl) ?_
    refine lv_iconst (v := 5) hx hb dX12_keepBest_24 (by decide) ?_
    refine lv_icmp_ge (tgt := 49) hx hb dX12_keepBest_25 (by decide) (fun c245 => ?_) (fun c245 => ?_)
    · have ic245 : w236.toInt ≥ 5 := zi_ge rfl rfl c245
      refine lv_aload_n hx hb dX12_keepBest_49 rfl (lv_at hl 2 rfl) ?_
      refine tpk_13 hT ht_h0 (fun o246_x0 o246_x1 o246_x7 o246_x9 o246_x10 o246_x11 o246_x12 o246_x13 o246_x14 o246_x15 o246_x16 o246_x17 o246_x18 o246_x19 o246_x20 o246_x22 o246_x25 o246_x28 o246_x29 o246_x32 o246_x33 o246_x34 o246_x35 o246_x36 o246_x37 o246_x38 o246_x47 o246_x48 hf_o246 ro246_0 ro246_1 ro246_2 ro246_3 ro246_4 ro246_5 ro246_6 ro246_7 ro246_8 ro246_9 ro246_10 ro246_11 ro246_12 ro246_13 => ?_)
      refine tpk_pos (tp_in hG ht_h0 (by decide)) hf_o246 (fun q247 eq247 => ?_)
      refine va_get (D := (dC, dI)) (ci := 12) (v := .ref (ρ h0 50)) (C := RX12) (T := TX12) (N := 53) hx hb hts hfX12 hown hK hP q247 eq247 rfl 50 (by decide) (hts (.fieldLink RX12 82 "ColdShipsModel" "bestTold" "[J") wa_172) (fun _ h9 => h9) rfl dX12_keepBest_50 ?_
      refine lv_iconst (v := 5) hx hb dX12_keepBest_53 (by decide) ?_
      refine lv_iload hx hb dX12_keepBest_54 (lv_at hl 1 rfl) ?_
      refine lv_imul hx hb dX12_keepBest_56 ?_
      refine lv_topi (fun z248 ez248 => ?_)
      have iz248 : z248.toInt = 5 * w48.toInt := zi_mul ez248 rfl rfl (by omega) (by omega)
      refine lv_aload_n hx hb dX12_keepBest_57 rfl (lv_at hl 2 rfl) ?_
      refine va_get (D := (dC, dI)) (ci := 12) (v := .ref (ρ h0 49)) (C := RX12) (T := TX12) (N := 53) hx hb hts hfX12 hown hK hP q247 eq247 rfl 49 (by decide) (hts (.fieldLink RX12 79 "ColdShipsModel" "bestShip" "[I") wa_171) (fun _ h9 => h9) rfl dX12_keepBest_58 ?_
      refine lv_iload hx hb dX12_keepBest_61 (lv_at hl 1 rfl) ?_
      refine tpk_pos (tp_in hG y22 (by decide)) hk238k (fun q249 eq249 => ?_)
      refine va_iald hx hb hK hP q249 0 eq249 rfl (vp_in_iff.mpr ⟨by omega, by omega⟩) dX12_keepBest_63 ?_
      refine lv_topi (fun z250 ez250 => ?_)
      have jz250 : z250.toInt = mo_R g32 w48.toInt := mo_rd ez250 (by omega)
      refine lv_i2l hx hb dX12_keepBest_64 rfl ?_
      refine tpk_80 hT y23 (fun g252 hf_o251 => ?_)
      refine tpk_pos (tp_in hG y23 (by decide)) hf_o251 (fun q253 eq253 => ?_)
      refine va_last hx hb hK hP hD hS q253 1 eq253 rfl (vp_in_iff.mpr ⟨by omega, by omega⟩) dX12_keepBest_65 (tp_k (.inl (κ 1, 30, .inr (.inl (vp_updL g252 z248.toNatClampNeg z250.toInt64)))) hD (tp_in hG y23 (by decide)) eq253 (fun f254 H locs hP hD hS g256 k255 => ?_))
      have hT := hT.up y23 g256 k255 tp_o80
      have hR := hR.up y23 (by decide) k255
      generalize (vp_updL g252 z248.toNatClampNeg z250.toInt64) = g257 at g256
      obtain ⟨z258, ez258⟩ : ∃ y : Int32, y = w48 + 1 := ⟨_, rfl⟩
      refine lv_iinc (v := z258) (lv' := [(4, .int z258), (5, .int w236), (0, .ref h0), (1, .int v), (2, .int u), (3, .int a)]) hx hb dX12_keepBest_66 hl (k := 1) rfl (by rw [ez258]; rfl) (by decide) rfl (fun ls hl => ?_)
      have iz258 : z258.toInt = w48.toInt + 1 := zi_add ez258 rfl rfl (by omega) (by omega)
      refine lv_goto (tgt := 13) hx hb dX12_keepBest_69 (by decide) ?_
      have hf_259 : f254 (ρ h0 2) = .inl (κ 0, 12967, .inl g27) := (k255 _ (tp_ne y1 y23 (by decide))).trans hk237k
      have hf_260 : f254 (ρ h0 49) = .inl (κ 0, 6, .inl g32) := (k255 _ (tp_ne y22 y23 (by decide))).trans hk238k
      have hf_261 : f254 (ρ h0 43) = .inl (κ 1, 192, .inr (.inl g35)) := (k255 _ (tp_ne y18 y23 (by decide))).trans hk239k
      have hf_262 : f254 (ρ h0 44) = .inl (κ 0, 192, .inl g29) := (k255 _ (tp_ne y19 y23 (by decide))).trans hk240k
      exact ih61 _ _ _ _ (by rw [hn62]; omega) ⟨f254, z258, rfl, hT, hR, hf_259, hf_260, hf_261, hf_262, (by omega), hP, hD, hS, lv_sub hl [0, 2, 3, 4, 5] rfl⟩
    · have ic245 : w236.toInt < 5 := zi_gef rfl rfl c245
      refine lv_aload_n hx hb dX12_keepBest_28 rfl (lv_at hl 2 rfl) ?_
      refine tpk_13 hT ht_h0 (fun o263_x0 o263_x1 o263_x7 o263_x9 o263_x10 o263_x11 o263_x12 o263_x13 o263_x14 o263_x15 o263_x16 o263_x17 o263_x18 o263_x19 o263_x20 o263_x22 o263_x25 o263_x28 o263_x29 o263_x32 o263_x33 o263_x34 o263_x35 o263_x36 o263_x37 o263_x38 o263_x47 o263_x48 hf_o263 ro263_0 ro263_1 ro263_2 ro263_3 ro263_4 ro263_5 ro263_6 ro263_7 ro263_8 ro263_9 ro263_10 ro263_11 ro263_12 ro263_13 => ?_)
      refine tpk_pos (tp_in hG ht_h0 (by decide)) hf_o263 (fun q264 eq264 => ?_)
      refine va_get (D := (dC, dI)) (ci := 12) (v := .ref (ρ h0 50)) (C := RX12) (T := TX12) (N := 53) hx hb hts hfX12 hown hK hP q264 eq264 rfl 50 (by decide) (hts (.fieldLink RX12 82 "ColdShipsModel" "bestTold" "[J") wa_172) (fun _ h9 => h9) rfl dX12_keepBest_29 ?_
      refine lv_iconst (v := 5) hx hb dX12_keepBest_32 (by decide) ?_
      refine lv_iload hx hb dX12_keepBest_33 (lv_at hl 1 rfl) ?_
      refine lv_imul hx hb dX12_keepBest_35 ?_
      refine lv_topi (fun z265 ez265 => ?_)
      have iz265 : z265.toInt = 5 * w48.toInt := zi_mul ez265 rfl rfl (by omega) (by omega)
      refine lv_iload hx hb dX12_keepBest_36 (lv_at hl 0 rfl) ?_
      refine lv_iadd hx hb dX12_keepBest_38 ?_
      refine lv_topi (fun z266 ez266 => ?_)
      have iz266 : z266.toInt = z265.toInt + w236.toInt := zi_add ez266 rfl rfl (by omega) (by omega)
      refine lv_ldc2 (own := RX12) (v := (-2000000000000000)) hx hb hown (hts (.constantLong RX12 466 (-2000000000000000)) wa_1189) dX12_keepBest_39 ?_
      refine tpk_80 hT y23 (fun g268 hf_o267 => ?_)
      refine tpk_pos (tp_in hG y23 (by decide)) hf_o267 (fun q269 eq269 => ?_)
      refine va_last hx hb hK hP hD hS q269 1 eq269 rfl (vp_in_iff.mpr ⟨by omega, by omega⟩) dX12_keepBest_42 (tp_k (.inl (κ 1, 30, .inr (.inl (vp_updL g268 z266.toNatClampNeg ((-2000000000000000) : Int64))))) hD (tp_in hG y23 (by decide)) eq269 (fun f270 H locs hP hD hS g272 k271 => ?_))
      have hT := hT.up y23 g272 k271 tp_o80
      have hR := hR.up y23 (by decide) k271
      generalize (vp_updL g268 z266.toNatClampNeg ((-2000000000000000) : Int64)) = g273 at g272
      obtain ⟨z274, ez274⟩ : ∃ y : Int32, y = w236 + 1 := ⟨_, rfl⟩
      refine lv_iinc (v := z274) (lv' := [(5, .int z274), (4, .int w48), (0, .ref h0), (1, .int v), (2, .int u), (3, .int a)]) hx hb dX12_keepBest_43 hl (k := 0) rfl (by rw [ez274]; rfl) (by decide) rfl (fun ls hl => ?_)
      have iz274 : z274.toInt = w236.toInt + 1 := zi_add ez274 rfl rfl (by omega) (by omega)
      refine lv_goto (tgt := 22) hx hb dX12_keepBest_46 (by decide) ?_
      have hf_275 : f270 (ρ h0 2) = .inl (κ 0, 12967, .inl g27) := (k271 _ (tp_ne y1 y23 (by decide))).trans hk237k
      have hf_276 : f270 (ρ h0 49) = .inl (κ 0, 6, .inl g32) := (k271 _ (tp_ne y22 y23 (by decide))).trans hk238k
      have hf_277 : f270 (ρ h0 43) = .inl (κ 1, 192, .inr (.inl g35)) := (k271 _ (tp_ne y18 y23 (by decide))).trans hk239k
      have hf_278 : f270 (ρ h0 44) = .inl (κ 0, 192, .inl g29) := (k271 _ (tp_ne y19 y23 (by decide))).trans hk240k
      exact ih243 _ _ _ _ (by rw [hn244]; omega) ⟨f270, z274, rfl, hT, hR, hf_275, hf_276, hf_277, hf_278, (by omega), hP, hD, hS, lv_sub hl [0, 1, 2, 3, 4, 5] rfl⟩

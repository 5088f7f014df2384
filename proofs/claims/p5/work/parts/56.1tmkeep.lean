set_option maxHeartbeats 4000000 in
set_option maxRecDepth 100000 in
theorem t_X12_keepBest (l : Launch) (dC : Nat → ClassId) (dI : Nat → Nat → Nat) (sz : Nat) (κ : Nat → ClassId) (τ ν : Nat → Nat) (ρ : Nat → Nat → Nat) (L : List Nat) (f : Nat → va_E) (hG : tp_G τ ν ρ L) (hT : tp_T (mo_O κ) κ τ ν ρ f) (h0 : Nat) (v : Int32) (u : Int32) (a : Int32) (x : Int) (b : Int) (ht_h0 : τ h0 = 13) (hbb : 0 ≤ b ∧ b ≤ 1000) (hJ : mo_RI x b (mo_R (mo_i (f (ρ h0 2))))) (hv6 : 0 ≤ v.toInt ∧ v.toInt ≤ 6) (hu3 : 0 ≤ u.toInt ∧ u.toInt ≤ 3) (hc10 : v.toInt = (mo_R (mo_i (f (ρ h0 2)))) (10)) (hs1 : u.toInt ≤ (mo_R (mo_i (f (ρ h0 2)))) (1)) (hBG : mo_BG (mo_R (mo_i (f (ρ h0 49)))) (mo_RL (mo_l (f (ρ h0 43)))) v.toInt u.toInt) (hTB : mo_TB (mo_RL (mo_l (f (ρ h0 43)))) (mo_R (mo_i (f (ρ h0 44)))) u.toInt 0 (mo_P2 v.toInt)) : Met l yX12_keepBest wqX12_keepBest ({ frames := 8, cells := 0, slots := 0, locals := 2800 }) (va_Pc [.ref h0, .int v, .int u, .int a] (pz_B dC dI (tp_K κ) (va_pl L f) sz)) (va_Qv (fun (f1 : Nat → va_E) => tp_T (mo_O κ) κ τ ν ρ f1 ∧ tp_F τ [13, 69, 70, 71, 72, 80] f f1 ∧ True) (fun (f1 : Nat → va_E) (t : State) => pz_E dC dI (tp_K κ) (va_A (va_pl L f) sz) (va_pl L f1) t) (va_A (va_pl L f) sz)) 0 0 (va_A (va_pl L f) sz) := by
  refine Met.ofW (cc := cX12_keepBest) (maxL := 9) (ret := none) (by decide) rfl ?_
  intro p e s m args below meth c s₁ B hml hv
  obtain ⟨rfl, hsz, hP, hK, hD0, hN⟩ := hv
  have hx := B.exec
  have hb := B.bytes
  have hr := B.returns
  have hts := fun (w : Cond) (h : w ∈ WALL) => atoms_spec (ws := wqX12_keepBest) B.pre w (List.mem_cons_of_mem _ h)
  have hown : s.vm.findClass RX12 = some m.cls := findClass_of_methodNamed B.named
  have hlocks := B.notSynchronized
  subst hsz
  have hD := hD0.self (sz := s.heap.size)
  generalize hAe : va_A (va_pl L f) s.heap.size = A at hD ⊢
  have hA : ∀ q : Nat, s.heap.size ≤ q → A q := fun q h => by rw [← hAe]; exact Or.inr h
  have hS : va_S A s.heap s.heap [] := va_S.rf
  have hR : tp_F τ [13, 69, 70, 71, 72, 80] f f := tp_F.rf
  have hl := lv_entry ([.ref h0, .int v, .int u, .int a]) (n := 9) (Nat.le_of_ble_eq_true rfl)
  rw [lg_entry_eq]
  generalize (lg_sl ([.ref h0, .int v, .int u, .int a]) ++ List.replicate (9 - (lg_sl ([.ref h0, .int v, .int u, .int a])).length) Slot.unset).toArray = ls at hl ⊢
  have hl : lv_has ls 9 [(0, .ref h0), (1, .int v), (2, .int u), (3, .int a)] := hl
  obtain ⟨y1, y2, y3, y4, y5, y6, y7, y8, y9, y10, y11, y12, y13, y14, y15, y16, y17, y18, y19, y20, y21, y22, y23, y24, y25⟩ := tpg_13 hG ht_h0
  obtain ⟨g27, hf_o26⟩ := tpo_32 hT y1
  have hI : mo_RI x b (mo_R g27) := by have q9 := hJ; rw [hf_o26, mo_i1] at q9; exact q9
  rw [hf_o26, mo_i1] at hc10
  rw [hf_o26, mo_i1] at hs1
  obtain ⟨g29, hf_o28⟩ := tpo_74 hT y19
  obtain ⟨g31, hf_o30⟩ := tpo_79 hT y22
  obtain ⟨g33, hf_o32⟩ := tpo_73 hT y18
  have hBG : mo_BG (mo_R g31) (mo_RL g33) v.toInt u.toInt := by have q9 := hBG; simp only [hf_o30, hf_o32, mo_i1, mo_l1] at q9; exact q9
  have hTB : mo_TB (mo_RL g33) (mo_R g29) u.toInt 0 (mo_P2 v.toInt) := by have q9 := hTB; simp only [hf_o32, hf_o28, mo_i1, mo_l1] at q9; exact q9
  have := hI.k1; have hk10 := hI.k10
  have hP2 := mo_P2_le v.toInt
  refine lv_aload_n hx hb dX12_keepBest_0 rfl (lv_at hl 0 rfl) ?_
  refine lv_iconst (v := 1) hx hb dX12_keepBest_1 (by decide) ?_
  obtain ⟨o34_x0, o34_x1, o34_x7, o34_x9, o34_x10, o34_x11, o34_x12, o34_x13, o34_x14, o34_x15, o34_x16, o34_x17, o34_x18, o34_x19, o34_x20, o34_x22, o34_x25, o34_x28, o34_x29, o34_x32, o34_x33, o34_x34, o34_x35, o34_x36, o34_x37, o34_x38, o34_x47, o34_x48, hf_o34, ro34_0, ro34_1, ro34_2, ro34_3, ro34_4, ro34_5, ro34_6, ro34_7, ro34_8, ro34_9, ro34_10, ro34_11, ro34_12, ro34_13⟩ := tpo_13 hT ht_h0
  obtain ⟨q35, eq35⟩ := tp_pos (tp_in hG ht_h0 (by decide)) hf_o34
  refine va_put (D := (dC, dI)) (ci := 12) (v := .int 1) (ty := .boolean) (C := RX12) (T := TX12) (N := 53) hx hb hts hfX12 tyX12 tyX12_ok nmX12 hown hK hP hD hS q35 eq35 rfl 47 (by decide) (hts (.fieldLink RX12 538 "ColdShipsModel" "hasBest" "Z") wa_1459) (fun _ h9 => h9) rfl (tyX12_ok 47 (by decide)) rfl rfl (Nat.le_of_ble_eq_true rfl) dX12_keepBest_2 (tp_k (.inr (12, [.int o34_x0, .int o34_x1, .ref (ρ h0 2), .ref (ρ h0 3), .ref (ρ h0 4), .ref (ρ h0 5), .ref (ρ h0 6), .int o34_x7, .ref (ρ h0 8), .int o34_x9, .int o34_x10, .int o34_x11, .int o34_x12, .long o34_x13, .int o34_x14, .int o34_x15, .int o34_x16, .int o34_x17, .int o34_x18, .int o34_x19, .int o34_x20, .ref (ρ h0 21), .int o34_x22, .ref (ρ h0 23), .ref (ρ h0 24), .int o34_x25, .ref (ρ h0 26), .ref (ρ h0 27), .int o34_x28, .int o34_x29, .ref (ρ h0 30), .ref (ρ h0 31), .int o34_x32, .long o34_x33, .long o34_x34, .long o34_x35, .int o34_x36, .int o34_x37, .int o34_x38, .ref (ρ h0 39), .ref (ρ h0 40), .ref (ρ h0 41), .ref (ρ h0 42), .ref (ρ h0 43), .ref (ρ h0 44), .ref (ρ h0 45), .ref (ρ h0 46), .int 1, .int o34_x48, .ref (ρ h0 49), .ref (ρ h0 50), .ref (ρ h0 51), .ref (ρ h0 52)])) hD (tp_in hG ht_h0 (by decide)) eq35 (fun f36 H locs hP hD hS g38 k37 => ?_))
  have hT := hT.up ht_h0 g38 k37 ⟨_, _, _, _, _, _, _, _, _, _, _, _, _, _, _, _, _, _, _, _, _, _, _, _, _, _, _, _, rfl, ro34_0, ro34_1, ro34_2, ro34_3, ro34_4, ro34_5, ro34_6, ro34_7, ro34_8, ro34_9, ro34_10, ro34_11, (by decide), ro34_13⟩
  have hR := hR.up ht_h0 (by decide) k37
  refine lv_aload_n hx hb dX12_keepBest_5 rfl (lv_at hl 0 rfl) ?_
  refine lv_iload_n hx hb dX12_keepBest_6 rfl (lv_at hl 1 rfl) ?_
  obtain ⟨q39, eq39⟩ := tp_pos (tp_in hG ht_h0 (by decide)) g38
  refine va_put (D := (dC, dI)) (ci := 12) (v := .int v) (ty := .int) (C := RX12) (T := TX12) (N := 53) hx hb hts hfX12 tyX12 tyX12_ok nmX12 hown hK hP hD hS q39 eq39 rfl 48 (by decide) (hts (.fieldLink RX12 541 "ColdShipsModel" "bestCargoes" "I") wa_1460) (fun _ h9 => h9) rfl (tyX12_ok 48 (by decide)) rfl rfl (Nat.le_of_ble_eq_true rfl) dX12_keepBest_7 (tp_k (.inr (12, [.int o34_x0, .int o34_x1, .ref (ρ h0 2), .ref (ρ h0 3), .ref (ρ h0 4), .ref (ρ h0 5), .ref (ρ h0 6), .int o34_x7, .ref (ρ h0 8), .int o34_x9, .int o34_x10, .int o34_x11, .int o34_x12, .long o34_x13, .int o34_x14, .int o34_x15, .int o34_x16, .int o34_x17, .int o34_x18, .int o34_x19, .int o34_x20, .ref (ρ h0 21), .int o34_x22, .ref (ρ h0 23), .ref (ρ h0 24), .int o34_x25, .ref (ρ h0 26), .ref (ρ h0 27), .int o34_x28, .int o34_x29, .ref (ρ h0 30), .ref (ρ h0 31), .int o34_x32, .long o34_x33, .long o34_x34, .long o34_x35, .int o34_x36, .int o34_x37, .int o34_x38, .ref (ρ h0 39), .ref (ρ h0 40), .ref (ρ h0 41), .ref (ρ h0 42), .ref (ρ h0 43), .ref (ρ h0 44), .ref (ρ h0 45), .ref (ρ h0 46), .int 1, .int v, .ref (ρ h0 49), .ref (ρ h0 50), .ref (ρ h0 51), .ref (ρ h0 52)])) hD (tp_in hG ht_h0 (by decide)) eq39 (fun f40 H locs hP hD hS g42 k41 => ?_))
  have hT := hT.up ht_h0 g42 k41 ⟨_, _, _, _, _, _, _, _, _, _, _, _, _, _, _, _, _, _, _, _, _, _, _, _, _, _, _, _, rfl, ro34_0, ro34_1, ro34_2, ro34_3, ro34_4, ro34_5, ro34_6, ro34_7, ro34_8, ro34_9, ro34_10, ro34_11, (by decide), (by omega)⟩
  have hR := hR.up ht_h0 (by decide) k41
  refine lv_iconst (v := 0) hx hb dX12_keepBest_10 (by decide) ?_
  refine lv_istore (lv' := [(4, .int 0), (0, .ref h0), (1, .int v), (2, .int u), (3, .int a)]) hx hb dX12_keepBest_11 hl (by decide) rfl (fun ls hl => ?_)
  have hf_43 : f36 (ρ h0 2) = .inl (κ 0, 12967, .inl g27) := (k37 _ (tp_ne y1 ht_h0 (by decide))).trans hf_o26
  have hf_44 : f40 (ρ h0 2) = .inl (κ 0, 12967, .inl g27) := (k41 _ (tp_ne y1 ht_h0 (by decide))).trans hf_43
  have hf_46 : f36 (ρ h0 49) = .inl (κ 0, 6, .inl g31) := (k37 _ (tp_ne y22 ht_h0 (by decide))).trans hf_o30
  have hf_47 : f40 (ρ h0 49) = .inl (κ 0, 6, .inl g31) := (k41 _ (tp_ne y22 ht_h0 (by decide))).trans hf_46
  have hf_48 : f36 (ρ h0 43) = .inl (κ 1, 192, .inr (.inl g33)) := (k37 _ (tp_ne y18 ht_h0 (by decide))).trans hf_o32
  have hf_49 : f40 (ρ h0 43) = .inl (κ 1, 192, .inr (.inl g33)) := (k41 _ (tp_ne y18 ht_h0 (by decide))).trans hf_48
  have hf_50 : f36 (ρ h0 44) = .inl (κ 0, 192, .inl g29) := (k37 _ (tp_ne y19 ht_h0 (by decide))).trans hf_o28
  have hf_51 : f40 (ρ h0 44) = .inl (κ 0, 192, .inl g29) := (k41 _ (tp_ne y19 ht_h0 (by decide))).trans hf_50
  refine pz_loop (fun n0 H locs ls => ∃ f56 : Nat → va_E, ∃ w45 : Int32, n0 = (6 - (w45.toInt)).toNat ∧ tp_T (mo_O κ) κ τ ν ρ f56 ∧ tp_F τ [13, 69, 70, 71, 72, 80] f f56 ∧ f56 (ρ h0 2) = .inl (κ 0, 12967, .inl g27) ∧ f56 (ρ h0 49) = .inl (κ 0, 6, .inl g31) ∧ f56 (ρ h0 43) = .inl (κ 1, 192, .inr (.inl g33)) ∧ f56 (ρ h0 44) = .inl (κ 0, 192, .inl g29) ∧ (0 ≤ w45.toInt ∧ w45.toInt ≤ 6) ∧ va_P (dC, dI) vwCl (va_pl L f56) H ∧ va_D A (va_pl L f56) ∧ va_S A s.heap H locs ∧ lv_has ls 9 [(4, .int w45), (0, .ref h0), (1, .int v), (2, .int u), (3, .int a)]) ?_ _ _ _ _ ⟨f40, 0, rfl, hT, hR, hf_44, hf_47, hf_49, hf_51, (by have : (0 : Int32).toInt = 0 := rfl; omega), hP, hD, hS, lv_sub hl [0, 1, 2, 3, 4] rfl⟩
  intro n0 H locs ls hI ih58
  obtain ⟨f56, w45, hn59, hT, hR, hk52k, hk53k, hk54k, hk55k, rw45, hP, hD, hS, hl⟩ := hI
  refine lv_iload hx hb dX12_keepBest_13 (lv_at hl 0 rfl) ?_
  refine lv_iload_n hx hb dX12_keepBest_15 rfl (lv_at hl 2 rfl) ?_
  refine lv_icmp_ge (tgt := 72) hx hb dX12_keepBest_16 (by decide) (fun c60 => ?_) (fun c60 => ?_)
  · have ic60 : w45.toInt ≥ v.toInt := zi_ge rfl rfl c60
    refine lv_iconst (v := 0) hx hb dX12_keepBest_72 (by decide) ?_
    refine lv_istore (lv' := [(4, .int 0), (0, .ref h0), (1, .int v), (2, .int u), (3, .int a)]) hx hb dX12_keepBest_73 hl (by decide) rfl (fun ls hl => ?_)
    refine pz_loop (fun n0 H locs ls => ∃ f66 : Nat → va_E, ∃ w61 : Int32, n0 = (3 - (w61.toInt)).toNat ∧ tp_T (mo_O κ) κ τ ν ρ f66 ∧ tp_F τ [13, 69, 70, 71, 72, 80] f f66 ∧ f66 (ρ h0 2) = .inl (κ 0, 12967, .inl g27) ∧ f66 (ρ h0 49) = .inl (κ 0, 6, .inl g31) ∧ f66 (ρ h0 43) = .inl (κ 1, 192, .inr (.inl g33)) ∧ f66 (ρ h0 44) = .inl (κ 0, 192, .inl g29) ∧ (0 ≤ w61.toInt ∧ w61.toInt ≤ 3) ∧ va_P (dC, dI) vwCl (va_pl L f66) H ∧ va_D A (va_pl L f66) ∧ va_S A s.heap H locs ∧ lv_has ls 9 [(4, .int w61), (0, .ref h0), (1, .int v), (2, .int u), (3, .int a)]) ?_ _ _ _ _ ⟨f56, 0, rfl, hT, hR, hk52k, hk53k, hk54k, hk55k, (by have : (0 : Int32).toInt = 0 := rfl; omega), hP, hD, hS, lv_sub hl [0, 1, 2, 3, 4] rfl⟩
    intro n0 H locs ls hI ih68
    obtain ⟨f66, w61, hn69, hT, hR, hk62k, hk63k, hk64k, hk65k, rw61, hP, hD, hS, hl⟩ := hI
    refine lv_iload hx hb dX12_keepBest_75 (lv_at hl 0 rfl) ?_
    refine lv_iload_n hx hb dX12_keepBest_77 rfl (lv_at hl 3 rfl) ?_
    refine lv_icmp_ge (tgt := 296) hx hb dX12_keepBest_78 (by decide) (fun c70 => ?_) (fun c70 => ?_)
    · have ic70 : w61.toInt ≥ u.toInt := zi_ge rfl rfl c70
      exact W.vret hx hb hr (fun t ht hW => ⟨⟨f66, rfl, ⟨hT, hR, trivial⟩, by rw [ht]; exact hP, va_K.moved hW.alike hK, hD⟩, hS.F ht⟩) hS.2.2 dX12_keepBest_296
    · have ic70 : w61.toInt < u.toInt := zi_gef rfl rfl c70
      refine lv_iconst (v := 0) hx hb dX12_keepBest_81 (by decide) ?_
      refine lv_istore (lv' := [(5, .int 0), (4, .int w61), (0, .ref h0), (1, .int v), (2, .int u), (3, .int a)]) hx hb dX12_keepBest_82 hl (by decide) rfl (fun ls hl => ?_)
      refine lv_iconst (v := 0) hx hb dX12_keepBest_84 (by decide) ?_
      refine lv_istore (lv' := [(6, .int 0), (5, .int 0), (4, .int w61), (0, .ref h0), (1, .int v), (2, .int u), (3, .int a)]) hx hb dX12_keepBest_85 hl (by decide) rfl (fun ls hl => ?_)
      refine lv_iconst (v := 0) hx hb dX12_keepBest_87 (by decide) ?_
      refine lv_istore (lv' := [(7, .int 0), (6, .int 0), (5, .int 0), (4, .int w61), (0, .ref h0), (1, .int v), (2, .int u), (3, .int a)]) hx hb dX12_keepBest_88 hl (by decide) rfl (fun ls hl => ?_)
      refine pz_loop (fun n0 H locs ls => ∃ w71 : Int32, ∃ w72 : Int32, n0 = (6 - (w71.toInt)).toNat ∧ (0 ≤ w71.toInt ∧ w71.toInt ≤ 6) ∧ (0 ≤ w72.toInt ∧ w72.toInt ≤ 63) ∧ ((w71.toInt) ≤ v.toInt) ∧ (∀ d, 0 ≤ d → d < 6 → (mo_bt (w72.toInt) d ↔ (d < (w71.toInt) ∧ (mo_R g31) d = w61.toInt))) ∧ va_P (dC, dI) vwCl (va_pl L f66) H ∧ va_D A (va_pl L f66) ∧ va_S A s.heap H locs ∧ lv_has ls 9 [(7, .int w71), (6, .int 0), (5, .int w72), (4, .int w61), (0, .ref h0), (1, .int v), (2, .int u), (3, .int a)]) ?_ _ _ _ _ ⟨0, 0, rfl, (by have : (0 : Int32).toInt = 0 := rfl; have : (0 : Int32).toInt = 0 := rfl; omega), (by have : (0 : Int32).toInt = 0 := rfl; have : (0 : Int32).toInt = 0 := rfl; omega), (by have : (0 : Int32).toInt = 0 := rfl; have : (0 : Int32).toInt = 0 := rfl; omega), (fun d d0 d1 => ⟨fun q9 => absurd q9 (by have : (0 : Int32).toInt = 0 := rfl; rw [this]; exact mo_bt0 d), fun q9 => by have : (0 : Int32).toInt = 0 := rfl; omega⟩), hP, hD, hS, lv_sub hl [0, 1, 2, 3, 4, 5, 6, 7] rfl⟩
      intro n0 H locs ls hI ih75
      obtain ⟨w71, w72, hn76, rw71, rw72, k73, k74, hP, hD, hS, hl⟩ := hI
      refine lv_iload hx hb dX12_keepBest_90 (lv_at hl 0 rfl) ?_
      refine lv_iload_n hx hb dX12_keepBest_92 rfl (lv_at hl 5 rfl) ?_
      refine lv_icmp_ge (tgt := 127) hx hb dX12_keepBest_93 (by decide) (fun c77 => ?_) (fun c77 => ?_)
      · have ic77 : w71.toInt ≥ v.toInt := zi_ge rfl rfl c77
        have hbits : ∀ d, 0 ≤ d → d < 6 → (mo_bt w72.toInt d ↔ (d < v.toInt ∧ (mo_R g31) d = w61.toInt)) := fun d d0 d1 => by rw [k74 d d0 d1]; omega
        obtain ⟨x9, hx9, hx9b, hx9L⟩ := hBG.2 w61.toInt (by omega) (by omega)
        obtain rfl : x9 = w72.toInt := mo_bt_eq (by omega) (by omega) (by omega) (by omega) (fun d d0 d1 => (hx9b d d0 d1).trans (hbits d d0 d1).symm)
        have hGD := (hTB w61.toInt w72.toInt (by omega) (by omega) (by omega) (by omega)).1 hx9L
        have htop : ∀ d, 0 ≤ d → d < 6 → mo_bt w72.toInt d → d < v.toInt := fun d d0 d1 q9 => ((hbits d d0 d1).mp q9).1
        refine lv_iconst (v := 0) hx hb dX12_keepBest_127 (by decide) ?_
        refine lv_istore (lv' := [(7, .int 0), (6, .int 0), (5, .int w72), (4, .int w61), (0, .ref h0), (1, .int v), (2, .int u), (3, .int a)]) hx hb dX12_keepBest_128 hl (by decide) rfl (fun ls hl => ?_)
        obtain ⟨g88, hf_o87⟩ := tpo_72 hT y17
        refine pz_loop (fun n0 H locs ls => ∃ f89 : Nat → va_E, ∃ w78 : Int32, ∃ w79 : Int32, n0 = (6 - (w78.toInt)).toNat ∧ tp_T (mo_O κ) κ τ ν ρ f89 ∧ tp_F τ [13, 69, 70, 71, 72, 80] f f89 ∧ f89 (ρ h0 2) = .inl (κ 0, 12967, .inl g27) ∧ f89 (ρ h0 49) = .inl (κ 0, 6, .inl g31) ∧ f89 (ρ h0 43) = .inl (κ 1, 192, .inr (.inl g33)) ∧ f89 (ρ h0 44) = .inl (κ 0, 192, .inl g29) ∧ ((mo_KL (mo_R (mo_i (f89 (ρ h0 42)))) ((mo_R g29) (64 * w61.toInt + w72.toInt)) w72.toInt (w78.toInt) v.toInt)) ∧ (0 ≤ w78.toInt ∧ w78.toInt ≤ 6) ∧ (0 ≤ w79.toInt ∧ w79.toInt ≤ 6) ∧ ((w79.toInt) ≤ (w78.toInt)) ∧ ((w78.toInt) ≤ v.toInt) ∧ ((w79.toInt) = mo_cn w72.toInt (w78.toInt)) ∧ va_P (dC, dI) vwCl (va_pl L f89) H ∧ va_D A (va_pl L f89) ∧ va_S A s.heap H locs ∧ lv_has ls 9 [(7, .int w78), (6, .int w79), (5, .int w72), (4, .int w61), (0, .ref h0), (1, .int v), (2, .int u), (3, .int a)]) ?_ _ _ _ _ ⟨f66, 0, 0, rfl, hT, hR, hk62k, hk63k, hk64k, hk65k, (by simp only [hf_o87, mo_i1, mo_l1]; exact (show mo_KL (mo_R g88) ((mo_R g29) (64 * w61.toInt + w72.toInt)) w72.toInt (0 : Int32).toInt v.toInt from (fun d d0 d1 => absurd d1 (by have : (0 : Int32).toInt = 0 := rfl; omega)))), (by have : (0 : Int32).toInt = 0 := rfl; have : (0 : Int32).toInt = 0 := rfl; omega), (by have : (0 : Int32).toInt = 0 := rfl; have : (0 : Int32).toInt = 0 := rfl; omega), (by have : (0 : Int32).toInt = 0 := rfl; have : (0 : Int32).toInt = 0 := rfl; omega), (by have : (0 : Int32).toInt = 0 := rfl; have : (0 : Int32).toInt = 0 := rfl; omega), (by have : (0 : Int32).toInt = 0 := rfl; rw [this]; exact (mo_cn0 _).symm), hP, hD, hS, lv_sub hl [0, 1, 2, 3, 4, 5, 6, 7] rfl⟩
        intro n0 H locs ls hI ih91
        obtain ⟨f89, w78, w79, hn92, hT, hR, hk83k, hk84k, hk85k, hk86k, jf93, rw78, rw79, k80, k81, k82, hP, hD, hS, hl⟩ := hI
        obtain ⟨g95, hf_o94⟩ := tpo_72 hT y17
        have jf93 : mo_KL (mo_R g95) ((mo_R g29) (64 * w61.toInt + w72.toInt)) w72.toInt (w78.toInt) v.toInt := by have q9 := jf93; simp only [hf_o94, mo_i1, mo_l1] at q9; exact q9
        refine lv_iload hx hb dX12_keepBest_130 (lv_at hl 0 rfl) ?_
        refine lv_iload_n hx hb dX12_keepBest_132 rfl (lv_at hl 5 rfl) ?_
        refine lv_icmp_ge (tgt := 185) hx hb dX12_keepBest_133 (by decide) (fun c96 => ?_) (fun c96 => ?_)
        · have ic96 : w78.toInt ≥ v.toInt := zi_ge rfl rfl c96
          have hLN := jf93.line hGD (by omega) (by rw [mo_cn_top (by omega) htop]; have q9 := k82; rw [show w78.toInt = v.toInt by omega] at q9; exact q9) htop
          refine lv_aload_n hx hb dX12_keepBest_185 rfl (lv_at hl 4 rfl) ?_
          refine lv_iload hx hb dX12_keepBest_186 (lv_at hl 3 rfl) ?_
          refine lv_iload hx hb dX12_keepBest_188 (lv_at hl 1 rfl) ?_
          refine lv_iload_n hx hb dX12_keepBest_190 rfl (lv_at hl 7 rfl) ?_
          obtain ⟨o97_x0, o97_x1, o97_x7, o97_x9, o97_x10, o97_x11, o97_x12, o97_x13, o97_x14, o97_x15, o97_x16, o97_x17, o97_x18, o97_x19, o97_x20, o97_x22, o97_x25, o97_x28, o97_x29, o97_x32, o97_x33, o97_x34, o97_x35, o97_x36, o97_x37, o97_x38, o97_x47, o97_x48, hf_o97, ro97_0, ro97_1, ro97_2, ro97_3, ro97_4, ro97_5, ro97_6, ro97_7, ro97_8, ro97_9, ro97_10, ro97_11, ro97_12, ro97_13⟩ := tpo_13 hT ht_h0
          obtain ⟨q98, eq98⟩ := tp_pos (tp_in hG ht_h0 (by decide)) hf_o97
          have hFc := tp_fr hD hS hA
          refine va_calll (va_runV (As := [.int w61, .int w79, .int a]) (rest := []) ⟨hx, hb, hml, hown, hts⟩ (t_X12_sailRow l dC dI _ κ τ ν ρ L f89 hG hT h0 w61 w79 a x b ht_h0 (by first | decide | omega) (by omega) (by rw [hk83k, mo_i1]; exact hI) (by first | (simp only [hk83k, hf_o26, mo_i1]; omega) | simp only [hk83k, hf_o26, mo_i1] | omega) (by simp only [hf_o94, hk83k, mo_i1, mo_l1]; exact (show ∀ j, 0 ≤ j → j < w79.toInt → 0 ≤ (mo_R g95) j ∧ (mo_R g95) j < (mo_R g27) 10 from (fun j j0 j1 => by have q9 := hLN j j0 j1; omega)))) (cwV 3 hts gX12_keepBest_X12_sailRow rfl rfl rfl ⟨rfl, pd_X12_sailRow⟩ ⟨Nat.le_of_ble_eq_true rfl, Nat.le_of_ble_eq_true rfl⟩) ⟨pz_blind, va_recv hK hP (ci := 12) (q0 := q98) rfl eq98, pz_pre hP hK hD hN⟩ rfl rfl hl.1 rfl (lv_room (Nat.le_of_ble_eq_true rfl)) dX12_keepBest_191 ⟨Nat.le_of_ble_eq_true rfl, Nat.le_of_ble_eq_true rfl⟩) hS (fun q _ h => hFc q h) hFc (fun r99 f101 t H1 locs ht hvm hw100 hB hz1 hk1 hS => ?_)
          obtain ⟨hT, hF102, hw100r, hw100p⟩ := hw100
          have hR := hR.then hF102 (by decide)
          have hP := hB.1; rw [ht] at hP; have hD := tp_ad f101 hD; clear hB hFc hz1 hk1; subst ht; generalize t.heap = H at hP hS ⊢
          refine lv_pop2_2 hx hb dX12_keepBest_194 rfl ?_
          refine lv_iconst (v := 0) hx hb dX12_keepBest_195 (by decide) ?_
          refine lv_istore (lv' := [(7, .int 0), (6, .int w79), (5, .int w72), (4, .int w61), (0, .ref h0), (1, .int v), (2, .int u), (3, .int a)]) hx hb dX12_keepBest_196 hl (by decide) rfl (fun ls hl => ?_)
          have hf_103 : f101 (ρ h0 2) = .inl (κ 0, 12967, .inl g27) := (hF102 _ (by rw [y1]; decide)).trans hk83k
          have hf_105 : f101 (ρ h0 49) = .inl (κ 0, 6, .inl g31) := (hF102 _ (by rw [y22]; decide)).trans hk84k
          have hf_106 : f101 (ρ h0 43) = .inl (κ 1, 192, .inr (.inl g33)) := (hF102 _ (by rw [y18]; decide)).trans hk85k
          have hf_107 : f101 (ρ h0 44) = .inl (κ 0, 192, .inl g29) := (hF102 _ (by rw [y19]; decide)).trans hk86k
          have hf_108 : f101 (ρ h0 42) = .inl (κ 0, 6, .inl g95) := (hF102 _ (by rw [y17]; decide)).trans hf_o94
          refine pz_loop (fun n0 H locs ls => ∃ f114 : Nat → va_E, ∃ w104 : Int32, n0 = (6 - (w104.toInt)).toNat ∧ tp_T (mo_O κ) κ τ ν ρ f114 ∧ tp_F τ [13, 69, 70, 71, 72, 80] f f114 ∧ f114 (ρ h0 2) = .inl (κ 0, 12967, .inl g27) ∧ f114 (ρ h0 49) = .inl (κ 0, 6, .inl g31) ∧ f114 (ρ h0 43) = .inl (κ 1, 192, .inr (.inl g33)) ∧ f114 (ρ h0 44) = .inl (κ 0, 192, .inl g29) ∧ f114 (ρ h0 42) = .inl (κ 0, 6, .inl g95) ∧ (0 ≤ w104.toInt ∧ w104.toInt ≤ 6) ∧ va_P (dC, dI) vwCl (va_pl L f114) H ∧ va_D A (va_pl L f114) ∧ va_S A s.heap H locs ∧ lv_has ls 9 [(7, .int w104), (6, .int w79), (5, .int w72), (4, .int w61), (0, .ref h0), (1, .int v), (2, .int u), (3, .int a)]) ?_ _ _ _ _ ⟨f101, 0, rfl, hT, hR, hf_103, hf_105, hf_106, hf_107, hf_108, (by have : (0 : Int32).toInt = 0 := rfl; omega), hP, hD, hS, lv_sub hl [0, 1, 2, 3, 4, 5, 6, 7] rfl⟩
          intro n0 H locs ls hI ih116
          obtain ⟨f114, w104, hn117, hT, hR, hk109k, hk110k, hk111k, hk112k, hk113k, rw104, hP, hD, hS, hl⟩ := hI
          refine lv_iload hx hb dX12_keepBest_198 (lv_at hl 0 rfl) ?_
          refine lv_iload hx hb dX12_keepBest_200 (lv_at hl 1 rfl) ?_
          refine lv_icmp_ge (tgt := 290) hx hb dX12_keepBest_202 (by decide) (fun c118 => ?_) (fun c118 => ?_)
          · have ic118 : w104.toInt ≥ w79.toInt := zi_ge rfl rfl c118
            obtain ⟨z119, ez119⟩ : ∃ y : Int32, y = w61 + 1 := ⟨_, rfl⟩
            refine lv_iinc (v := z119) (lv' := [(4, .int z119), (7, .int w104), (6, .int w79), (5, .int w72), (0, .ref h0), (1, .int v), (2, .int u), (3, .int a)]) hx hb dX12_keepBest_290 hl (k := 3) rfl (by rw [ez119]; rfl) (by decide) rfl (fun ls hl => ?_)
            have iz119 : z119.toInt = w61.toInt + 1 := zi_add ez119 rfl rfl (by omega) (by omega)
            refine lv_goto (tgt := 75) hx hb dX12_keepBest_293 (by decide) ?_
            exact ih68 _ _ _ _ (by rw [hn69]; omega) ⟨f114, z119, rfl, hT, hR, hk109k, hk110k, hk111k, hk112k, (by omega), hP, hD, hS, lv_sub hl [0, 4, 5, 6, 7] rfl⟩
          · have ic118 : w104.toInt < w79.toInt := zi_gef rfl rfl c118
            refine lv_aload_n hx hb dX12_keepBest_205 rfl (lv_at hl 4 rfl) ?_
            obtain ⟨o120_x0, o120_x1, o120_x7, o120_x9, o120_x10, o120_x11, o120_x12, o120_x13, o120_x14, o120_x15, o120_x16, o120_x17, o120_x18, o120_x19, o120_x20, o120_x22, o120_x25, o120_x28, o120_x29, o120_x32, o120_x33, o120_x34, o120_x35, o120_x36, o120_x37, o120_x38, o120_x47, o120_x48, hf_o120, ro120_0, ro120_1, ro120_2, ro120_3, ro120_4, ro120_5, ro120_6, ro120_7, ro120_8, ro120_9, ro120_10, ro120_11, ro120_12, ro120_13⟩ := tpo_13 hT ht_h0
            obtain ⟨q121, eq121⟩ := tp_pos (tp_in hG ht_h0 (by decide)) hf_o120
            refine va_get (D := (dC, dI)) (ci := 12) (v := .ref (ρ h0 42)) (C := RX12) (T := TX12) (N := 53) hx hb hts hfX12 hown hK hP q121 eq121 rfl 42 (by decide) (hts (.fieldLink RX12 64 "ColdShipsModel" "line" "[I") wa_166) (fun _ h9 => h9) rfl dX12_keepBest_206 ?_
            refine lv_iload hx hb dX12_keepBest_209 (lv_at hl 0 rfl) ?_
            obtain ⟨q122, eq122⟩ := tp_pos (tp_in hG y17 (by decide)) hk113k
            refine va_iald hx hb hK hP q122 0 eq122 rfl (vp_in_iff.mpr ⟨by omega, by omega⟩) dX12_keepBest_211 ?_
            refine lv_topi (fun z123 ez123 => ?_)
            have jz123 : z123.toInt = mo_R g95 w104.toInt := mo_rd ez123 (by omega)
            have hln := hLN w104.toInt (by omega) (by omega)
            refine lv_istore (lv' := [(8, .int z123), (7, .int w104), (6, .int w79), (5, .int w72), (4, .int w61), (0, .ref h0), (1, .int v), (2, .int u), (3, .int a)]) hx hb dX12_keepBest_212 hl (by decide) rfl (fun ls hl => ?_)
            refine lv_aload_n hx hb dX12_keepBest_214 rfl (lv_at hl 5 rfl) ?_
            refine va_get (D := (dC, dI)) (ci := 12) (v := .ref (ρ h0 50)) (C := RX12) (T := TX12) (N := 53) hx hb hts hfX12 hown hK hP q121 eq121 rfl 50 (by decide) (hts (.fieldLink RX12 82 "ColdShipsModel" "bestTold" "[J") wa_172) (fun _ h9 => h9) rfl dX12_keepBest_215 ?_
            refine lv_iconst (v := 5) hx hb dX12_keepBest_218 (by decide) ?_
            refine lv_iload hx hb dX12_keepBest_219 (lv_at hl 0 rfl) ?_
            refine lv_imul hx hb dX12_keepBest_221 ?_
            refine lv_topi (fun z124 ez124 => ?_)
            have iz124 : z124.toInt = 5 * z123.toInt := zi_mul ez124 rfl rfl (by omega) (by omega)
            refine lv_iconst (v := 1) hx hb dX12_keepBest_222 (by decide) ?_
            refine lv_iadd hx hb dX12_keepBest_223 ?_
            refine lv_topi (fun z125 ez125 => ?_)
            have iz125 : z125.toInt = z124.toInt + 1 := zi_add ez125 rfl rfl (by omega) (by omega)
            refine lv_iload hx hb dX12_keepBest_224 (lv_at hl 1 rfl) ?_
            refine lv_i2l hx hb dX12_keepBest_226 rfl ?_
            obtain ⟨g127, hf_o126⟩ := tpo_80 hT y23
            obtain ⟨q128, eq128⟩ := tp_pos (tp_in hG y23 (by decide)) hf_o126
            refine va_last hx hb hK hP hD hS q128 1 eq128 rfl (vp_in_iff.mpr ⟨by omega, by omega⟩) dX12_keepBest_227 (tp_k (.inl (κ 1, 30, .inr (.inl (vp_updL g127 z125.toNatClampNeg w104.toInt64)))) hD (tp_in hG y23 (by decide)) eq128 (fun f129 H locs hP hD hS g131 k130 => ?_))
            have hT := hT.up y23 g131 k130 tp_o80
            have hR := hR.up y23 (by decide) k130
            generalize (vp_updL g127 z125.toNatClampNeg w104.toInt64) = g132 at g131
            refine lv_aload_n hx hb dX12_keepBest_228 rfl (lv_at hl 5 rfl) ?_
            have hf_133 : f129 h0 = .inr (12, [.int o120_x0, .int o120_x1, .ref (ρ h0 2), .ref (ρ h0 3), .ref (ρ h0 4), .ref (ρ h0 5), .ref (ρ h0 6), .int o120_x7, .ref (ρ h0 8), .int o120_x9, .int o120_x10, .int o120_x11, .int o120_x12, .long o120_x13, .int o120_x14, .int o120_x15, .int o120_x16, .int o120_x17, .int o120_x18, .int o120_x19, .int o120_x20, .ref (ρ h0 21), .int o120_x22, .ref (ρ h0 23), .ref (ρ h0 24), .int o120_x25, .ref (ρ h0 26), .ref (ρ h0 27), .int o120_x28, .int o120_x29, .ref (ρ h0 30), .ref (ρ h0 31), .int o120_x32, .long o120_x33, .long o120_x34, .long o120_x35, .int o120_x36, .int o120_x37, .int o120_x38, .ref (ρ h0 39), .ref (ρ h0 40), .ref (ρ h0 41), .ref (ρ h0 42), .ref (ρ h0 43), .ref (ρ h0 44), .ref (ρ h0 45), .ref (ρ h0 46), .int o120_x47, .int o120_x48, .ref (ρ h0 49), .ref (ρ h0 50), .ref (ρ h0 51), .ref (ρ h0 52)]) := (k130 _ (tp_ne ht_h0 y23 (by decide))).trans hf_o120
            obtain ⟨q134, eq134⟩ := tp_pos (tp_in hG ht_h0 (by decide)) hf_133
            refine va_get (D := (dC, dI)) (ci := 12) (v := .ref (ρ h0 50)) (C := RX12) (T := TX12) (N := 53) hx hb hts hfX12 hown hK hP q134 eq134 rfl 50 (by decide) (hts (.fieldLink RX12 82 "ColdShipsModel" "bestTold" "[J") wa_172) (fun _ h9 => h9) rfl dX12_keepBest_229 ?_
            refine lv_iconst (v := 5) hx hb dX12_keepBest_232 (by decide) ?_
            refine lv_iload hx hb dX12_keepBest_233 (lv_at hl 0 rfl) ?_
            refine lv_imul hx hb dX12_keepBest_235 ?_
            refine lv_topi (fun z135 ez135 => ?_)
            have iz135 : z135.toInt = 5 * z123.toInt := zi_mul ez135 rfl rfl (by omega) (by omega)
            refine lv_iconst (v := 2) hx hb dX12_keepBest_236 (by decide) ?_
            refine lv_iadd hx hb dX12_keepBest_237 ?_
            refine lv_topi (fun z136 ez136 => ?_)
            have iz136 : z136.toInt = z135.toInt + 2 := zi_add ez136 rfl rfl (by omega) (by omega)
            refine lv_aload_n hx hb dX12_keepBest_238 rfl (lv_at hl 5 rfl) ?_
            refine va_get (D := (dC, dI)) (ci := 12) (v := .ref (ρ h0 39)) (C := RX12) (T := TX12) (N := 53) hx hb hts hfX12 hown hK hP q134 eq134 rfl 39 (by decide) (hts (.fieldLink RX12 55 "ColdShipsModel" "loads" "[I") wa_163) (fun _ h9 => h9) rfl dX12_keepBest_239 ?_
            refine lv_iload hx hb dX12_keepBest_242 (lv_at hl 0 rfl) ?_
            obtain ⟨g138, hf_o137⟩ := tpo_69 hT y14
            obtain ⟨q139, eq139⟩ := tp_pos (tp_in hG y14 (by decide)) hf_o137
            refine va_iald hx hb hK hP q139 0 eq139 rfl (vp_in_iff.mpr ⟨by omega, by omega⟩) dX12_keepBest_244 ?_
            refine lv_topi (fun z140 ez140 => ?_)
            refine lv_i2l hx hb dX12_keepBest_245 rfl ?_
            obtain ⟨q141, eq141⟩ := tp_pos (tp_in hG y23 (by decide)) g131
            refine va_last hx hb hK hP hD hS q141 1 eq141 rfl (vp_in_iff.mpr ⟨by omega, by omega⟩) dX12_keepBest_246 (tp_k (.inl (κ 1, 30, .inr (.inl (vp_updL g132 z136.toNatClampNeg z140.toInt64)))) hD (tp_in hG y23 (by decide)) eq141 (fun f142 H locs hP hD hS g144 k143 => ?_))
            have hT := hT.up y23 g144 k143 tp_o80
            have hR := hR.up y23 (by decide) k143
            generalize (vp_updL g132 z136.toNatClampNeg z140.toInt64) = g145 at g144
            refine lv_aload_n hx hb dX12_keepBest_247 rfl (lv_at hl 5 rfl) ?_
            have hf_146 : f142 h0 = .inr (12, [.int o120_x0, .int o120_x1, .ref (ρ h0 2), .ref (ρ h0 3), .ref (ρ h0 4), .ref (ρ h0 5), .ref (ρ h0 6), .int o120_x7, .ref (ρ h0 8), .int o120_x9, .int o120_x10, .int o120_x11, .int o120_x12, .long o120_x13, .int o120_x14, .int o120_x15, .int o120_x16, .int o120_x17, .int o120_x18, .int o120_x19, .int o120_x20, .ref (ρ h0 21), .int o120_x22, .ref (ρ h0 23), .ref (ρ h0 24), .int o120_x25, .ref (ρ h0 26), .ref (ρ h0 27), .int o120_x28, .int o120_x29, .ref (ρ h0 30), .ref (ρ h0 31), .int o120_x32, .long o120_x33, .long o120_x34, .long o120_x35, .int o120_x36, .int o120_x37, .int o120_x38, .ref (ρ h0 39), .ref (ρ h0 40), .ref (ρ h0 41), .ref (ρ h0 42), .ref (ρ h0 43), .ref (ρ h0 44), .ref (ρ h0 45), .ref (ρ h0 46), .int o120_x47, .int o120_x48, .ref (ρ h0 49), .ref (ρ h0 50), .ref (ρ h0 51), .ref (ρ h0 52)]) := (k143 _ (tp_ne ht_h0 y23 (by decide))).trans hf_133
            obtain ⟨q147, eq147⟩ := tp_pos (tp_in hG ht_h0 (by decide)) hf_146
            refine va_get (D := (dC, dI)) (ci := 12) (v := .ref (ρ h0 50)) (C := RX12) (T := TX12) (N := 53) hx hb hts hfX12 hown hK hP q147 eq147 rfl 50 (by decide) (hts (.fieldLink RX12 82 "ColdShipsModel" "bestTold" "[J") wa_172) (fun _ h9 => h9) rfl dX12_keepBest_248 ?_
            refine lv_iconst (v := 5) hx hb dX12_keepBest_251 (by decide) ?_
            refine lv_iload hx hb dX12_keepBest_252 (lv_at hl 0 rfl) ?_
            refine lv_imul hx hb dX12_keepBest_254 ?_
            refine lv_topi (fun z148 ez148 => ?_)
            have iz148 : z148.toInt = 5 * z123.toInt := zi_mul ez148 rfl rfl (by omega) (by omega)
            refine lv_iconst (v := 3) hx hb dX12_keepBest_255 (by decide) ?_
            refine lv_iadd hx hb dX12_keepBest_256 ?_
            refine lv_topi (fun z149 ez149 => ?_)
            have iz149 : z149.toInt = z148.toInt + 3 := zi_add ez149 rfl rfl (by omega) (by omega)
            refine lv_aload_n hx hb dX12_keepBest_257 rfl (lv_at hl 5 rfl) ?_
            refine va_get (D := (dC, dI)) (ci := 12) (v := .ref (ρ h0 40)) (C := RX12) (T := TX12) (N := 53) hx hb hts hfX12 hown hK hP q147 eq147 rfl 40 (by decide) (hts (.fieldLink RX12 58 "ColdShipsModel" "lands" "[I") wa_164) (fun _ h9 => h9) rfl dX12_keepBest_258 ?_
            refine lv_iload hx hb dX12_keepBest_261 (lv_at hl 0 rfl) ?_
            obtain ⟨g151, hf_o150⟩ := tpo_70 hT y15
            obtain ⟨q152, eq152⟩ := tp_pos (tp_in hG y15 (by decide)) hf_o150
            refine va_iald hx hb hK hP q152 0 eq152 rfl (vp_in_iff.mpr ⟨by omega, by omega⟩) dX12_keepBest_263 ?_
            refine lv_topi (fun z153 ez153 => ?_)
            refine lv_i2l hx hb dX12_keepBest_264 rfl ?_
            obtain ⟨q154, eq154⟩ := tp_pos (tp_in hG y23 (by decide)) g144
            refine va_last hx hb hK hP hD hS q154 1 eq154 rfl (vp_in_iff.mpr ⟨by omega, by omega⟩) dX12_keepBest_265 (tp_k (.inl (κ 1, 30, .inr (.inl (vp_updL g145 z149.toNatClampNeg z153.toInt64)))) hD (tp_in hG y23 (by decide)) eq154 (fun f155 H locs hP hD hS g157 k156 => ?_))
            have hT := hT.up y23 g157 k156 tp_o80
            have hR := hR.up y23 (by decide) k156
            generalize (vp_updL g145 z149.toNatClampNeg z153.toInt64) = g158 at g157
            refine lv_aload_n hx hb dX12_keepBest_266 rfl (lv_at hl 5 rfl) ?_
            have hf_159 : f155 h0 = .inr (12, [.int o120_x0, .int o120_x1, .ref (ρ h0 2), .ref (ρ h0 3), .ref (ρ h0 4), .ref (ρ h0 5), .ref (ρ h0 6), .int o120_x7, .ref (ρ h0 8), .int o120_x9, .int o120_x10, .int o120_x11, .int o120_x12, .long o120_x13, .int o120_x14, .int o120_x15, .int o120_x16, .int o120_x17, .int o120_x18, .int o120_x19, .int o120_x20, .ref (ρ h0 21), .int o120_x22, .ref (ρ h0 23), .ref (ρ h0 24), .int o120_x25, .ref (ρ h0 26), .ref (ρ h0 27), .int o120_x28, .int o120_x29, .ref (ρ h0 30), .ref (ρ h0 31), .int o120_x32, .long o120_x33, .long o120_x34, .long o120_x35, .int o120_x36, .int o120_x37, .int o120_x38, .ref (ρ h0 39), .ref (ρ h0 40), .ref (ρ h0 41), .ref (ρ h0 42), .ref (ρ h0 43), .ref (ρ h0 44), .ref (ρ h0 45), .ref (ρ h0 46), .int o120_x47, .int o120_x48, .ref (ρ h0 49), .ref (ρ h0 50), .ref (ρ h0 51), .ref (ρ h0 52)]) := (k156 _ (tp_ne ht_h0 y23 (by decide))).trans hf_146
            obtain ⟨q160, eq160⟩ := tp_pos (tp_in hG ht_h0 (by decide)) hf_159
            refine va_get (D := (dC, dI)) (ci := 12) (v := .ref (ρ h0 50)) (C := RX12) (T := TX12) (N := 53) hx hb hts hfX12 hown hK hP q160 eq160 rfl 50 (by decide) (hts (.fieldLink RX12 82 "ColdShipsModel" "bestTold" "[J") wa_172) (fun _ h9 => h9) rfl dX12_keepBest_267 ?_
            refine lv_iconst (v := 5) hx hb dX12_keepBest_270 (by decide) ?_
            refine lv_iload hx hb dX12_keepBest_271 (lv_at hl 0 rfl) ?_
            refine lv_imul hx hb dX12_keepBest_273 ?_
            refine lv_topi (fun z161 ez161 => ?_)
            have iz161 : z161.toInt = 5 * z123.toInt := zi_mul ez161 rfl rfl (by omega) (by omega)
            refine lv_iconst (v := 4) hx hb dX12_keepBest_274 (by decide) ?_
            refine lv_iadd hx hb dX12_keepBest_275 ?_
            refine lv_topi (fun z162 ez162 => ?_)
            have iz162 : z162.toInt = z161.toInt + 4 := zi_add ez162 rfl rfl (by omega) (by omega)
            refine lv_aload_n hx hb dX12_keepBest_276 rfl (lv_at hl 5 rfl) ?_
            refine va_get (D := (dC, dI)) (ci := 12) (v := .ref (ρ h0 41)) (C := RX12) (T := TX12) (N := 53) hx hb hts hfX12 hown hK hP q160 eq160 rfl 41 (by decide) (hts (.fieldLink RX12 61 "ColdShipsModel" "worths" "[J") wa_165) (fun _ h9 => h9) rfl dX12_keepBest_277 ?_
            refine lv_iload hx hb dX12_keepBest_280 (lv_at hl 0 rfl) ?_
            obtain ⟨g164, hf_o163⟩ := tpo_71 hT y16
            obtain ⟨q165, eq165⟩ := tp_pos (tp_in hG y16 (by decide)) hf_o163
            refine va_lald hx hb hK hP q165 1 eq165 rfl (vp_in_iff.mpr ⟨by omega, by omega⟩) dX12_keepBest_282 ?_
            refine lv_topl (fun z166 ez166 => ?_)
            obtain ⟨q167, eq167⟩ := tp_pos (tp_in hG y23 (by decide)) g157
            refine va_last hx hb hK hP hD hS q167 1 eq167 rfl (vp_in_iff.mpr ⟨by omega, by omega⟩) dX12_keepBest_283 (tp_k (.inl (κ 1, 30, .inr (.inl (vp_updL g158 z162.toNatClampNeg z166)))) hD (tp_in hG y23 (by decide)) eq167 (fun f168 H locs hP hD hS g170 k169 => ?_))
            have hT := hT.up y23 g170 k169 tp_o80
            have hR := hR.up y23 (by decide) k169
            generalize (vp_updL g158 z162.toNatClampNeg z166) = g171 at g170
            obtain ⟨z172, ez172⟩ : ∃ y : Int32, y = w104 + 1 := ⟨_, rfl⟩
            refine lv_iinc (v := z172) (lv' := [(7, .int z172), (8, .int z123), (6, .int w79), (5, .int w72), (4, .int w61), (0, .ref h0), (1, .int v), (2, .int u), (3, .int a)]) hx hb dX12_keepBest_284 hl (k := 1) rfl (by rw [ez172]; rfl) (by decide) rfl (fun ls hl => ?_)
            have iz172 : z172.toInt = w104.toInt + 1 := zi_add ez172 rfl rfl (by omega) (by omega)
            refine lv_goto (tgt := 198) hx hb dX12_keepBest_287 (by decide) ?_
            have hf_173 : f129 (ρ h0 2) = .inl (κ 0, 12967, .inl g27) := (k130 _ (tp_ne y1 y23 (by decide))).trans hk109k
            have hf_174 : f142 (ρ h0 2) = .inl (κ 0, 12967, .inl g27) := (k143 _ (tp_ne y1 y23 (by decide))).trans hf_173
            have hf_175 : f155 (ρ h0 2) = .inl (κ 0, 12967, .inl g27) := (k156 _ (tp_ne y1 y23 (by decide))).trans hf_174
            have hf_176 : f168 (ρ h0 2) = .inl (κ 0, 12967, .inl g27) := (k169 _ (tp_ne y1 y23 (by decide))).trans hf_175
            have hf_177 : f129 (ρ h0 49) = .inl (κ 0, 6, .inl g31) := (k130 _ (tp_ne y22 y23 (by decide))).trans hk110k
            have hf_178 : f142 (ρ h0 49) = .inl (κ 0, 6, .inl g31) := (k143 _ (tp_ne y22 y23 (by decide))).trans hf_177
            have hf_179 : f155 (ρ h0 49) = .inl (κ 0, 6, .inl g31) := (k156 _ (tp_ne y22 y23 (by decide))).trans hf_178
            have hf_180 : f168 (ρ h0 49) = .inl (κ 0, 6, .inl g31) := (k169 _ (tp_ne y22 y23 (by decide))).trans hf_179
            have hf_181 : f129 (ρ h0 43) = .inl (κ 1, 192, .inr (.inl g33)) := (k130 _ (tp_ne y18 y23 (by decide))).trans hk111k
            have hf_182 : f142 (ρ h0 43) = .inl (κ 1, 192, .inr (.inl g33)) := (k143 _ (tp_ne y18 y23 (by decide))).trans hf_181
            have hf_183 : f155 (ρ h0 43) = .inl (κ 1, 192, .inr (.inl g33)) := (k156 _ (tp_ne y18 y23 (by decide))).trans hf_182
            have hf_184 : f168 (ρ h0 43) = .inl (κ 1, 192, .inr (.inl g33)) := (k169 _ (tp_ne y18 y23 (by decide))).trans hf_183
            have hf_185 : f129 (ρ h0 44) = .inl (κ 0, 192, .inl g29) := (k130 _ (tp_ne y19 y23 (by decide))).trans hk112k
            have hf_186 : f142 (ρ h0 44) = .inl (κ 0, 192, .inl g29) := (k143 _ (tp_ne y19 y23 (by decide))).trans hf_185
            have hf_187 : f155 (ρ h0 44) = .inl (κ 0, 192, .inl g29) := (k156 _ (tp_ne y19 y23 (by decide))).trans hf_186
            have hf_188 : f168 (ρ h0 44) = .inl (κ 0, 192, .inl g29) := (k169 _ (tp_ne y19 y23 (by decide))).trans hf_187
            have hf_189 : f129 (ρ h0 42) = .inl (κ 0, 6, .inl g95) := (k130 _ (tp_ne y17 y23 (by decide))).trans hk113k
            have hf_190 : f142 (ρ h0 42) = .inl (κ 0, 6, .inl g95) := (k143 _ (tp_ne y17 y23 (by decide))).trans hf_189
            have hf_191 : f155 (ρ h0 42) = .inl (κ 0, 6, .inl g95) := (k156 _ (tp_ne y17 y23 (by decide))).trans hf_190
            have hf_192 : f168 (ρ h0 42) = .inl (κ 0, 6, .inl g95) := (k169 _ (tp_ne y17 y23 (by decide))).trans hf_191
            exact ih116 _ _ _ _ (by rw [hn117]; omega) ⟨f168, z172, rfl, hT, hR, hf_176, hf_180, hf_184, hf_188, hf_192, (by omega), hP, hD, hS, lv_sub hl [0, 2, 3, 4, 5, 6, 7, 8] rfl⟩
        · have ic96 : w78.toInt < v.toInt := zi_gef rfl rfl c96
          refine lv_aload_n hx hb dX12_keepBest_136 rfl (lv_at hl 4 rfl) ?_
          obtain ⟨o193_x0, o193_x1, o193_x7, o193_x9, o193_x10, o193_x11, o193_x12, o193_x13, o193_x14, o193_x15, o193_x16, o193_x17, o193_x18, o193_x19, o193_x20, o193_x22, o193_x25, o193_x28, o193_x29, o193_x32, o193_x33, o193_x34, o193_x35, o193_x36, o193_x37, o193_x38, o193_x47, o193_x48, hf_o193, ro193_0, ro193_1, ro193_2, ro193_3, ro193_4, ro193_5, ro193_6, ro193_7, ro193_8, ro193_9, ro193_10, ro193_11, ro193_12, ro193_13⟩ := tpo_13 hT ht_h0
          obtain ⟨q194, eq194⟩ := tp_pos (tp_in hG ht_h0 (by decide)) hf_o193
          refine va_get (D := (dC, dI)) (ci := 12) (v := .ref (ρ h0 49)) (C := RX12) (T := TX12) (N := 53) hx hb hts hfX12 hown hK hP q194 eq194 rfl 49 (by decide) (hts (.fieldLink RX12 79 "ColdShipsModel" "bestShip" "[I") wa_171) (fun _ h9 => h9) rfl dX12_keepBest_137 ?_
          refine lv_iload hx hb dX12_keepBest_140 (lv_at hl 0 rfl) ?_
          obtain ⟨q195, eq195⟩ := tp_pos (tp_in hG y22 (by decide)) hk84k
          refine va_iald hx hb hK hP q195 0 eq195 rfl (vp_in_iff.mpr ⟨by omega, by omega⟩) dX12_keepBest_142 ?_
          refine lv_topi (fun z196 ez196 => ?_)
          have jz196 : z196.toInt = mo_R g31 w78.toInt := mo_rd ez196 (by omega)
          refine lv_iload hx hb dX12_keepBest_143 (lv_at hl 3 rfl) ?_
          refine lv_icmp_ne (tgt := 179) hx hb dX12_keepBest_145 (by decide) (fun c197 => ?_) (fun c197 => ?_)
          · have ic197 : z196.toInt ≠ w61.toInt := zi_ne rfl rfl c197
            obtain ⟨z198, ez198⟩ : ∃ y : Int32, y = w78 + 1 := ⟨_, rfl⟩
            refine lv_iinc (v := z198) (lv' := [(7, .int z198), (6, .int w79), (5, .int w72), (4, .int w61), (0, .ref h0), (1, .int v), (2, .int u), (3, .int a)]) hx hb dX12_keepBest_179 hl (k := 0) rfl (by rw [ez198]; rfl) (by decide) rfl (fun ls hl => ?_)
            have iz198 : z198.toInt = w78.toInt + 1 := zi_add ez198 rfl rfl (by omega) (by omega)
            refine lv_goto (tgt := 130) hx hb dX12_keepBest_182 (by decide) ?_
            exact ih91 _ _ _ _ (by rw [hn92]; omega) ⟨f89, z198, w79, rfl, hT, hR, hk83k, hk84k, hk85k, hk86k, (by simp only [hf_o94, mo_i1, mo_l1]; exact (show mo_KL (mo_R g95) ((mo_R g29) (64 * w61.toInt + w72.toInt)) w72.toInt (z198.toInt) v.toInt from jf93.no (fun q9 => by have := (hbits w78.toInt (by omega) (by omega)).mp q9; omega) (by omega))), (by omega), (by omega), (by omega), (by omega), (by have q9 := mo_cn_no (fun q9 => by have := (hbits w78.toInt (by omega) (by omega)).mp q9; omega) (by omega) (by omega); rw [show z198.toInt = w78.toInt + 1 by omega, q9]; omega), hP, hD, hS, lv_sub hl [0, 1, 2, 3, 4, 5, 6, 7] rfl⟩
          · have ic197 : z196.toInt = w61.toInt := zi_nef rfl rfl c197
            have hbc := (hbits w78.toInt (by omega) (by omega)).mpr (by omega)
            have hpc := hGD.2.1 w78.toInt (by omega) (by omega) hbc
            have hyr := hGD.1
            refine lv_aload_n hx hb dX12_keepBest_148 rfl (lv_at hl 4 rfl) ?_
            refine va_get (D := (dC, dI)) (ci := 12) (v := .ref (ρ h0 42)) (C := RX12) (T := TX12) (N := 53) hx hb hts hfX12 hown hK hP q194 eq194 rfl 42 (by decide) (hts (.fieldLink RX12 64 "ColdShipsModel" "line" "[I") wa_166) (fun _ h9 => h9) rfl dX12_keepBest_149 ?_
            refine lv_aload_n hx hb dX12_keepBest_152 rfl (lv_at hl 4 rfl) ?_
            refine va_get (D := (dC, dI)) (ci := 12) (v := .ref (ρ h0 44)) (C := RX12) (T := TX12) (N := 53) hx hb hts hfX12 hown hK hP q194 eq194 rfl 44 (by decide) (hts (.fieldLink RX12 70 "ColdShipsModel" "placesOf" "[I") wa_168) (fun _ h9 => h9) rfl dX12_keepBest_153 ?_
            refine lv_bipush (v := 64) hx hb dX12_keepBest_156 (by decide) ?_
            refine lv_iload hx hb dX12_keepBest_158 (lv_at hl 3 rfl) ?_
            refine lv_imul hx hb dX12_keepBest_160 ?_
            refine lv_topi (fun z199 ez199 => ?_)
            have iz199 : z199.toInt = 64 * w61.toInt := zi_mul ez199 rfl rfl (by omega) (by omega)
            refine lv_iload hx hb dX12_keepBest_161 (lv_at hl 2 rfl) ?_
            refine lv_iadd hx hb dX12_keepBest_163 ?_
            refine lv_topi (fun z200 ez200 => ?_)
            have iz200 : z200.toInt = z199.toInt + w72.toInt := zi_add ez200 rfl rfl (by omega) (by omega)
            obtain ⟨q201, eq201⟩ := tp_pos (tp_in hG y19 (by decide)) hk86k
            refine va_iald hx hb hK hP q201 0 eq201 rfl (vp_in_iff.mpr ⟨by omega, by omega⟩) dX12_keepBest_164 ?_
            refine lv_topi (fun z202 ez202 => ?_)
            have jz202 : z202.toInt = mo_R g29 (64 * w61.toInt + w72.toInt) := mo_rd ez202 (by omega)
            refine lv_iconst (v := 3) hx hb dX12_keepBest_165 (by decide) ?_
            refine lv_iload hx hb dX12_keepBest_166 (lv_at hl 0 rfl) ?_
            refine lv_imul hx hb dX12_keepBest_168 ?_
            refine lv_topi (fun z203 ez203 => ?_)
            have iz203 : z203.toInt = 3 * w78.toInt := zi_mul ez203 rfl rfl (by omega) (by omega)
            refine lv_ishr hx hb dX12_keepBest_169 ?_
            refine lv_topi (fun z204 ez204 => ?_)
            refine lv_bipush (v := 7) hx hb dX12_keepBest_170 (by decide) ?_
            refine lv_iand hx hb dX12_keepBest_172 ?_
            refine lv_topi (fun z205 ez205 => ?_)
            have iz205 : 0 ≤ z205.toInt ∧ z205.toInt ≤ 7 := zb_mask ez205 (by decide)
            have hpl : z205.toInt = mo_pl z202.toInt w78.toInt := zb_pl ez204 ez205 (by omega) (by omega) (by omega)
            rw [jz202] at hpl
            refine lv_iload hx hb dX12_keepBest_173 (lv_at hl 0 rfl) ?_
            obtain ⟨q206, eq206⟩ := tp_pos (tp_in hG y17 (by decide)) hf_o94
            refine va_iast hx hb hK hP hD hS q206 0 eq206 rfl (vp_in_iff.mpr ⟨by omega, by omega⟩) dX12_keepBest_175 (tp_k (.inl (κ 0, 6, .inl (upd g95 z205.toNatClampNeg w78))) hD (tp_in hG y17 (by decide)) eq206 (fun f207 H locs hP hD hS g209 k208 => ?_))
            have hT := hT.up y17 g209 k208 tp_o72
            have hR := hR.up y17 (by decide) k208
            have hU211 : mo_U (mo_R g95) (mo_R (upd g95 z205.toNatClampNeg w78)) (z205.toInt) (w78.toInt) := mo_up (by omega) (rfl : w78.toInt = _) (by omega)
            generalize (upd g95 z205.toNatClampNeg w78) = g210 at g209 hU211
            have hU211e := hU211.eq (by omega)
            obtain ⟨z212, ez212⟩ : ∃ y : Int32, y = w79 + 1 := ⟨_, rfl⟩
            refine lv_iinc (v := z212) (lv' := [(6, .int z212), (7, .int w78), (5, .int w72), (4, .int w61), (0, .ref h0), (1, .int v), (2, .int u), (3, .int a)]) hx hb dX12_keepBest_176 hl (k := 1) rfl (by rw [ez212]; rfl) (by decide) rfl (fun ls hl => ?_)
            have iz212 : z212.toInt = w79.toInt + 1 := zi_add ez212 rfl rfl (by omega) (by omega)
            obtain ⟨z213, ez213⟩ : ∃ y : Int32, y = w78 + 1 := ⟨_, rfl⟩
            refine lv_iinc (v := z213) (lv' := [(7, .int z213), (6, .int z212), (5, .int w72), (4, .int w61), (0, .ref h0), (1, .int v), (2, .int u), (3, .int a)]) hx hb dX12_keepBest_179 hl (k := 1) rfl (by rw [ez213]; rfl) (by decide) rfl (fun ls hl => ?_)
            have iz213 : z213.toInt = w78.toInt + 1 := zi_add ez213 rfl rfl (by omega) (by omega)
            refine lv_goto (tgt := 130) hx hb dX12_keepBest_182 (by decide) ?_
            have hf_214 : f207 (ρ h0 2) = .inl (κ 0, 12967, .inl g27) := (k208 _ (tp_ne y1 y17 (by decide))).trans hk83k
            have hf_215 : f207 (ρ h0 49) = .inl (κ 0, 6, .inl g31) := (k208 _ (tp_ne y22 y17 (by decide))).trans hk84k
            have hf_216 : f207 (ρ h0 43) = .inl (κ 1, 192, .inr (.inl g33)) := (k208 _ (tp_ne y18 y17 (by decide))).trans hk85k
            have hf_217 : f207 (ρ h0 44) = .inl (κ 0, 192, .inl g29) := (k208 _ (tp_ne y19 y17 (by decide))).trans hk86k
            exact ih91 _ _ _ _ (by rw [hn92]; omega) ⟨f207, z213, z212, rfl, hT, hR, hf_214, hf_215, hf_216, hf_217, (by simp only [g209, mo_i1, mo_l1]; exact (show mo_KL (mo_R g210) ((mo_R g29) (64 * w61.toInt + w72.toInt)) w72.toInt (z213.toInt) v.toInt from jf93.up hGD hU211 (by omega) (by omega) (by omega) (by omega))), (by omega), (by omega), (by omega), (by omega), (by have q9 := mo_cn_yes ((hbits w78.toInt (by omega) (by omega)).mpr (by omega)); rw [show z213.toInt = w78.toInt + 1 by omega, q9]; omega), hP, hD, hS, lv_sub hl [0, 1, 2, 3, 4, 5, 6, 7] rfl⟩
      · have ic77 : w71.toInt < v.toInt := zi_gef rfl rfl c77
        refine lv_iload hx hb dX12_keepBest_96 (lv_at hl 2 rfl) ?_
        refine lv_aload_n hx hb dX12_keepBest_98 rfl (lv_at hl 4 rfl) ?_
        obtain ⟨o218_x0, o218_x1, o218_x7, o218_x9, o218_x10, o218_x11, o218_x12, o218_x13, o218_x14, o218_x15, o218_x16, o218_x17, o218_x18, o218_x19, o218_x20, o218_x22, o218_x25, o218_x28, o218_x29, o218_x32, o218_x33, o218_x34, o218_x35, o218_x36, o218_x37, o218_x38, o218_x47, o218_x48, hf_o218, ro218_0, ro218_1, ro218_2, ro218_3, ro218_4, ro218_5, ro218_6, ro218_7, ro218_8, ro218_9, ro218_10, ro218_11, ro218_12, ro218_13⟩ := tpo_13 hT ht_h0
        obtain ⟨q219, eq219⟩ := tp_pos (tp_in hG ht_h0 (by decide)) hf_o218
        refine va_get (D := (dC, dI)) (ci := 12) (v := .ref (ρ h0 49)) (C := RX12) (T := TX12) (N := 53) hx hb hts hfX12 hown hK hP q219 eq219 rfl 49 (by decide) (hts (.fieldLink RX12 79 "ColdShipsModel" "bestShip" "[I") wa_171) (fun _ h9 => h9) rfl dX12_keepBest_99 ?_
        refine lv_iload hx hb dX12_keepBest_102 (lv_at hl 0 rfl) ?_
        obtain ⟨q220, eq220⟩ := tp_pos (tp_in hG y22 (by decide)) hk63k
        refine va_iald hx hb hK hP q220 0 eq220 rfl (vp_in_iff.mpr ⟨by omega, by omega⟩) dX12_keepBest_104 ?_
        refine lv_topi (fun z221 ez221 => ?_)
        have jz221 : z221.toInt = mo_R g31 w71.toInt := mo_rd ez221 (by omega)
        refine lv_iload hx hb dX12_keepBest_105 (lv_at hl 3 rfl) ?_
        refine lv_icmp_ne (tgt := 117) hx hb dX12_keepBest_107 (by decide) (fun c222 => ?_) (fun c222 => ?_)
        · have ic222 : z221.toInt ≠ w61.toInt := zi_ne rfl rfl c222
          refine lv_iconst (v := 0) hx hb dX12_keepBest_117 (by decide) ?_
          refine lv_ior hx hb dX12_keepBest_118 ?_
          refine lv_topi (fun z223 ez223 => ?_)
          have iz223 : 0 ≤ z223.toInt ∧ z223.toInt ≤ 63 := zb_or 6 ez223 (rfl : w72.toInt = _) (show (0 : Int32).toInt = 0 from rfl) (by omega) (by omega) (by omega) (by omega) (by decide)
          have hor0 : z223.toInt = w72.toInt := zb_or00 ez223
          refine lv_istore (lv' := [(5, .int z223), (7, .int w71), (6, .int 0), (4, .int w61), (0, .ref h0), (1, .int v), (2, .int u), (3, .int a)]) hx hb dX12_keepBest_119 hl (by decide) rfl (fun ls hl => ?_)
          obtain ⟨z224, ez224⟩ : ∃ y : Int32, y = w71 + 1 := ⟨_, rfl⟩
          refine lv_iinc (v := z224) (lv' := [(7, .int z224), (5, .int z223), (6, .int 0), (4, .int w61), (0, .ref h0), (1, .int v), (2, .int u), (3, .int a)]) hx hb dX12_keepBest_121 hl (k := 1) rfl (by rw [ez224]; rfl) (by decide) rfl (fun ls hl => ?_)
          have iz224 : z224.toInt = w71.toInt + 1 := zi_add ez224 rfl rfl (by omega) (by omega)
          refine lv_goto (tgt := 90) hx hb dX12_keepBest_124 (by decide) ?_
          exact ih75 _ _ _ _ (by rw [hn76]; omega) ⟨z224, z223, rfl, (by omega), (by omega), (by omega), (fun d d0 d1 => by rw [hor0, k74 d d0 d1]; rcases (show d = w71.toInt ∨ d ≠ w71.toInt by omega) with rfl | q9 <;> omega), hP, hD, hS, lv_sub hl [0, 2, 1, 3, 4, 5, 6, 7] rfl⟩
        · have ic222 : z221.toInt = w61.toInt := zi_nef rfl rfl c222
          refine lv_iconst (v := 1) hx hb dX12_keepBest_110 (by decide) ?_
          refine lv_iload hx hb dX12_keepBest_111 (lv_at hl 0 rfl) ?_
          refine lv_ishl hx hb dX12_keepBest_113 ?_
          refine lv_topi (fun z225 ez225 => ?_)
          have iz225 : 1 ≤ z225.toInt ∧ z225.toInt ≤ 32 := zb_shl5 ez225 rfl (by omega) (by omega)
          refine lv_goto (tgt := 118) hx hb dX12_keepBest_114 (by decide) ?_
          refine lv_ior hx hb dX12_keepBest_118 ?_
          refine lv_topi (fun z226 ez226 => ?_)
          have iz226 : 0 ≤ z226.toInt ∧ z226.toInt ≤ 63 := zb_or 6 ez226 (rfl : w72.toInt = _) (rfl : z225.toInt = _) (by omega) (by omega) (by omega) (by omega) (by decide)
          have hor := zb_orbit ez225 ez226 (by omega) (by omega) (by omega) (by omega)
          have hor1 := hor.1
          refine lv_istore (lv' := [(5, .int z226), (7, .int w71), (6, .int 0), (4, .int w61), (0, .ref h0), (1, .int v), (2, .int u), (3, .int a)]) hx hb dX12_keepBest_119 hl (by decide) rfl (fun ls hl => ?_)
          obtain ⟨z227, ez227⟩ : ∃ y : Int32, y = w71 + 1 := ⟨_, rfl⟩
          refine lv_iinc (v := z227) (lv' := [(7, .int z227), (5, .int z226), (6, .int 0), (4, .int w61), (0, .ref h0), (1, .int v), (2, .int u), (3, .int a)]) hx hb dX12_keepBest_121 hl (k := 1) rfl (by rw [ez227]; rfl) (by decide) rfl (fun ls hl => ?_)
          have iz227 : z227.toInt = w71.toInt + 1 := zi_add ez227 rfl rfl (by omega) (by omega)
          refine lv_goto (tgt := 90) hx hb dX12_keepBest_124 (by decide) ?_
          exact ih75 _ _ _ _ (by rw [hn76]; omega) ⟨z227, z226, rfl, (by omega), (by omega), (by omega), (fun d d0 d1 => by rw [hor.2 d d0 d1, k74 d d0 d1]; rcases (show d = w71.toInt ∨ d ≠ w71.toInt by omega) with rfl | q9 <;> omega), hP, hD, hS, lv_sub hl [0, 2, 1, 3, 4, 5, 6, 7] rfl⟩
  · have ic60 : w45.toInt < v.toInt := zi_gef rfl rfl c60
    refine lv_iconst (v := 0) hx hb dX12_keepBest_19 (by decide) ?_
    refine lv_istore (lv' := [(5, .int 0), (4, .int w45), (0, .ref h0), (1, .int v), (2, .int u), (3, .int a)]) hx hb dX12_keepBest_20 hl (by decide) rfl (fun ls hl => ?_)
    refine pz_loop (fun n0 H locs ls => ∃ f233 : Nat → va_E, ∃ w228 : Int32, n0 = (5 - (w228.toInt)).toNat ∧ tp_T (mo_O κ) κ τ ν ρ f233 ∧ tp_F τ [13, 69, 70, 71, 72, 80] f f233 ∧ f233 (ρ h0 2) = .inl (κ 0, 12967, .inl g27) ∧ f233 (ρ h0 49) = .inl (κ 0, 6, .inl g31) ∧ f233 (ρ h0 43) = .inl (κ 1, 192, .inr (.inl g33)) ∧ f233 (ρ h0 44) = .inl (κ 0, 192, .inl g29) ∧ (0 ≤ w228.toInt ∧ w228.toInt ≤ 5) ∧ va_P (dC, dI) vwCl (va_pl L f233) H ∧ va_D A (va_pl L f233) ∧ va_S A s.heap H locs ∧ lv_has ls 9 [(5, .int w228), (4, .int w45), (0, .ref h0), (1, .int v), (2, .int u), (3, .int a)]) ?_ _ _ _ _ ⟨f56, 0, rfl, hT, hR, hk52k, hk53k, hk54k, hk55k, (by have : (0 : Int32).toInt = 0 := rfl; omega), hP, hD, hS, lv_sub hl [0, 1, 2, 3, 4, 5] rfl⟩
    intro n0 H locs ls hI ih235
    obtain ⟨f233, w228, hn236, hT, hR, hk229k, hk230k, hk231k, hk232k, rw228, hP, hD, hS, hl⟩ := hI
    refine lv_iload hx hb dX12_keepBest_22 (lv_at hl 0 rfl) ?_
    refine lv_iconst (v := 5) hx hb dX12_keepBest_24 (by decide) ?_
    refine lv_icmp_ge (tgt := 49) hx hb dX12_keepBest_25 (by decide) (fun c237 => ?_) (fun c237 => ?_)
    · have ic237 : w228.toInt ≥ 5 := zi_ge rfl rfl c237
      refine lv_aload_n hx hb dX12_keepBest_49 rfl (lv_at hl 2 rfl) ?_
      obtain ⟨o238_x0, o238_x1, o238_x7, o238_x9, o238_x10, o238_x11, o238_x12, o238_x13, o238_x14, o238_x15, o238_x16, o238_x17, o238_x18, o238_x19, o238_x20, o238_x22, o238_x25, o238_x28, o238_x29, o238_x32, o238_x33, o238_x34, o238_x35, o238_x36, o238_x37, o238_x38, o238_x47, o238_x48, hf_o238, ro238_0, ro238_1, ro238_2, ro238_3, ro238_4, ro238_5, ro238_6, ro238_7, ro238_8, ro238_9, ro238_10, ro238_11, ro238_12, ro238_13⟩ := tpo_13 hT ht_h0
      obtain ⟨q239, eq239⟩ := tp_pos (tp_in hG ht_h0 (by decide)) hf_o238
      refine va_get (D := (dC, dI)) (ci := 12) (v := .ref (ρ h0 50)) (C := RX12) (T := TX12) (N := 53) hx hb hts hfX12 hown hK hP q239 eq239 rfl 50 (by decide) (hts (.fieldLink RX12 82 "ColdShipsModel" "bestTold" "[J") wa_172) (fun _ h9 => h9) rfl dX12_keepBest_50 ?_
      refine lv_iconst (v := 5) hx hb dX12_keepBest_53 (by decide) ?_
      refine lv_iload hx hb dX12_keepBest_54 (lv_at hl 1 rfl) ?_
      refine lv_imul hx hb dX12_keepBest_56 ?_
      refine lv_topi (fun z240 ez240 => ?_)
      have iz240 : z240.toInt = 5 * w45.toInt := zi_mul ez240 rfl rfl (by omega) (by omega)
      refine lv_aload_n hx hb dX12_keepBest_57 rfl (lv_at hl 2 rfl) ?_
      refine va_get (D := (dC, dI)) (ci := 12) (v := .ref (ρ h0 49)) (C := RX12) (T := TX12) (N := 53) hx hb hts hfX12 hown hK hP q239 eq239 rfl 49 (by decide) (hts (.fieldLink RX12 79 "ColdShipsModel" "bestShip" "[I") wa_171) (fun _ h9 => h9) rfl dX12_keepBest_58 ?_
      refine lv_iload hx hb dX12_keepBest_61 (lv_at hl 1 rfl) ?_
      obtain ⟨q241, eq241⟩ := tp_pos (tp_in hG y22 (by decide)) hk230k
      refine va_iald hx hb hK hP q241 0 eq241 rfl (vp_in_iff.mpr ⟨by omega, by omega⟩) dX12_keepBest_63 ?_
      refine lv_topi (fun z242 ez242 => ?_)
      have jz242 : z242.toInt = mo_R g31 w45.toInt := mo_rd ez242 (by omega)
      refine lv_i2l hx hb dX12_keepBest_64 rfl ?_
      obtain ⟨g244, hf_o243⟩ := tpo_80 hT y23
      obtain ⟨q245, eq245⟩ := tp_pos (tp_in hG y23 (by decide)) hf_o243
      refine va_last hx hb hK hP hD hS q245 1 eq245 rfl (vp_in_iff.mpr ⟨by omega, by omega⟩) dX12_keepBest_65 (tp_k (.inl (κ 1, 30, .inr (.inl (vp_updL g244 z240.toNatClampNeg z242.toInt64)))) hD (tp_in hG y23 (by decide)) eq245 (fun f246 H locs hP hD hS g248 k247 => ?_))
      have hT := hT.up y23 g248 k247 tp_o80
      have hR := hR.up y23 (by decide) k247
      generalize (vp_updL g244 z240.toNatClampNeg z242.toInt64) = g249 at g248
      obtain ⟨z250, ez250⟩ : ∃ y : Int32, y = w45 + 1 := ⟨_, rfl⟩
      refine lv_iinc (v := z250) (lv' := [(4, .int z250), (5, .int w228), (0, .ref h0), (1, .int v), (2, .int u), (3, .int a)]) hx hb dX12_keepBest_66 hl (k := 1) rfl (by rw [ez250]; rfl) (by decide) rfl (fun ls hl => ?_)
      have iz250 : z250.toInt = w45.toInt + 1 := zi_add ez250 rfl rfl (by omega) (by omega)
      refine lv_goto (tgt := 13) hx hb dX12_keepBest_69 (by decide) ?_
      have hf_251 : f246 (ρ h0 2) = .inl (κ 0, 12967, .inl g27) := (k247 _ (tp_ne y1 y23 (by decide))).trans hk229k
      have hf_252 : f246 (ρ h0 49) = .inl (κ 0, 6, .inl g31) := (k247 _ (tp_ne y22 y23 (by decide))).trans hk230k
      have hf_253 : f246 (ρ h0 43) = .inl (κ 1, 192, .inr (.inl g33)) := (k247 _ (tp_ne y18 y23 (by decide))).trans hk231k
      have hf_254 : f246 (ρ h0 44) = .inl (κ 0, 192, .inl g29) := (k247 _ (tp_ne y19 y23 (by decide))).trans hk232k
      exact ih58 _ _ _ _ (by rw [hn59]; omega) ⟨f246, z250, rfl, hT, hR, hf_251, hf_252, hf_253, hf_254, (by omega), hP, hD, hS, lv_sub hl [0, 2, 3, 4, 5] rfl⟩
    · have ic237 : w228.toInt < 5 := zi_gef rfl rfl c237
      refine lv_aload_n hx hb dX12_keepBest_28 rfl (lv_at hl 2 rfl) ?_
      obtain ⟨o255_x0, o255_x1, o255_x7, o255_x9, o255_x10, o255_x11, o255_x12, o255_x13, o255_x14, o255_x15, o255_x16, o255_x17, o255_x18, o255_x19, o255_x20, o255_x22, o255_x25, o255_x28, o255_x29, o255_x32, o255_x33, o255_x34, o255_x35, o255_x36, o255_x37, o255_x38, o255_x47, o255_x48, hf_o255, ro255_0, ro255_1, ro255_2, ro255_3, ro255_4, ro255_5, ro255_6, ro255_7, ro255_8, ro255_9, ro255_10, ro255_11, ro255_12, ro255_13⟩ := tpo_13 hT ht_h0
      obtain ⟨q256, eq256⟩ := tp_pos (tp_in hG ht_h0 (by decide)) hf_o255
      refine va_get (D := (dC, dI)) (ci := 12) (v := .ref (ρ h0 50)) (C := RX12) (T := TX12) (N := 53) hx hb hts hfX12 hown hK hP q256 eq256 rfl 50 (by decide) (hts (.fieldLink RX12 82 "ColdShipsModel" "bestTold" "[J") wa_172) (fun _ h9 => h9) rfl dX12_keepBest_29 ?_
      refine lv_iconst (v := 5) hx hb dX12_keepBest_32 (by decide) ?_
      refine lv_iload hx hb dX12_keepBest_33 (lv_at hl 1 rfl) ?_
      refine lv_imul hx hb dX12_keepBest_35 ?_
      refine lv_topi (fun z257 ez257 => ?_)
      have iz257 : z257.toInt = 5 * w45.toInt := zi_mul ez257 rfl rfl (by omega) (by omega)
      refine lv_iload hx hb dX12_keepBest_36 (lv_at hl 0 rfl) ?_
      refine lv_iadd hx hb dX12_keepBest_38 ?_
      refine lv_topi (fun z258 ez258 => ?_)
      have iz258 : z258.toInt = z257.toInt + w228.toInt := zi_add ez258 rfl rfl (by omega) (by omega)
      refine lv_ldc2 (own := RX12) (v := (-2000000000000000)) hx hb hown (hts (.constantLong RX12 466 (-2000000000000000)) wa_1189) dX12_keepBest_39 ?_
      obtain ⟨g260, hf_o259⟩ := tpo_80 hT y23
      obtain ⟨q261, eq261⟩ := tp_pos (tp_in hG y23 (by decide)) hf_o259
      refine va_last hx hb hK hP hD hS q261 1 eq261 rfl (vp_in_iff.mpr ⟨by omega, by omega⟩) dX12_keepBest_42 (tp_k (.inl (κ 1, 30, .inr (.inl (vp_updL g260 z258.toNatClampNeg ((-2000000000000000) : Int64))))) hD (tp_in hG y23 (by decide)) eq261 (fun f262 H locs hP hD hS g264 k263 => ?_))
      have hT := hT.up y23 g264 k263 tp_o80
      have hR := hR.up y23 (by decide) k263
      generalize (vp_updL g260 z258.toNatClampNeg ((-2000000000000000) : Int64)) = g265 at g264
      obtain ⟨z266, ez266⟩ : ∃ y : Int32, y = w228 + 1 := ⟨_, rfl⟩
      refine lv_iinc (v := z266) (lv' := [(5, .int z266), (4, .int w45), (0, .ref h0), (1, .int v), (2, .int u), (3, .int a)]) hx hb dX12_keepBest_43 hl (k := 0) rfl (by rw [ez266]; rfl) (by decide) rfl (fun ls hl => ?_)
      have iz266 : z266.toInt = w228.toInt + 1 := zi_add ez266 rfl rfl (by omega) (by omega)
      refine lv_goto (tgt := 22) hx hb dX12_keepBest_46 (by decide) ?_
      have hf_267 : f262 (ρ h0 2) = .inl (κ 0, 12967, .inl g27) := (k263 _ (tp_ne y1 y23 (by decide))).trans hk229k
      have hf_268 : f262 (ρ h0 49) = .inl (κ 0, 6, .inl g31) := (k263 _ (tp_ne y22 y23 (by decide))).trans hk230k
      have hf_269 : f262 (ρ h0 43) = .inl (κ 1, 192, .inr (.inl g33)) := (k263 _ (tp_ne y18 y23 (by decide))).trans hk231k
      have hf_270 : f262 (ρ h0 44) = .inl (κ 0, 192, .inl g29) := (k263 _ (tp_ne y19 y23 (by decide))).trans hk232k
      exact ih235 _ _ _ _ (by rw [hn236]; omega) ⟨f262, z266, rfl, hT, hR, hf_267, hf_268, hf_269, hf_270, (by omega), hP, hD, hS, lv_sub hl [0, 1, 2, 3, 4, 5] rfl⟩

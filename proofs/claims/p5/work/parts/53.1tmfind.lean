set_option maxHeartbeats 4000000 in
set_option maxRecDepth 100000 in
theorem t_X12_findSet (l : Launch) (dC : Nat → ClassId) (dI : Nat → Nat → Nat) (sz : Nat) (κ : Nat → ClassId) (τ ν : Nat → Nat) (ρ : Nat → Nat → Nat) (L : List Nat) (f : Nat → va_E) (hG : tp_G τ ν ρ L) (hT : tp_T (mo_O κ) κ τ ν ρ f) (h0 : Nat) (v : Int32) (u : Int32) (a : Int32) (x : Int) (b : Int) (ht_h0 : τ h0 = 13) (hbb : 0 ≤ b ∧ b ≤ 1000) (hJ : mo_RI x b (mo_R (mo_i (f (ρ h0 2))))) (hv1 : 0 ≤ v.toInt ∧ v.toInt < (mo_R (mo_i (f (ρ h0 2)))) (1)) (hv2 : v.toInt ≤ 2) (hu1 : 0 ≤ u.toInt) (hu2 : u.toInt < mo_P2 ((mo_R (mo_i (f (ρ h0 2)))) 10)) : Met l yX12_findSet wqX12_findSet ({ frames := 8, cells := 0, slots := 0, locals := 2800 }) (va_Pc [.ref h0, .int v, .int u, .int a] (pz_B dC dI (tp_K κ) (va_pl L f) sz)) (va_Qv (fun (f1 : Nat → va_E) => tp_T (mo_O κ) κ τ ν ρ f1 ∧ tp_F τ [13, 69, 70, 71, 72, 73, 74, 75, 76] f f1 ∧ ∃ m9 t9 : Int, mo_U (mo_RL (mo_l (f (ρ h0 43)))) (mo_RL (mo_l (f1 (ρ h0 43)))) (64 * v.toInt + u.toInt) m9 ∧ mo_U (mo_R (mo_i (f (ρ h0 44)))) (mo_R (mo_i (f1 (ρ h0 44)))) (64 * v.toInt + u.toInt) t9 ∧ (m9 ≠ -2000000000000000 → mo_GD t9 u.toInt) ∧ (u.toInt = 0 → m9 = 0)) (fun (f1 : Nat → va_E) (t : State) => pz_E dC dI (tp_K κ) (va_A (va_pl L f) sz) (va_pl L f1) t) (va_A (va_pl L f) sz)) 0 0 (va_A (va_pl L f) sz) := by
  refine Met.ofW (cc := cX12_findSet) (maxL := 12) (ret := none) (by decide) rfl ?_
  intro p e s m args below meth c s₁ B hml hv
  obtain ⟨rfl, hsz, hP, hK, hD0, hN⟩ := hv
  have hx := B.exec
  have hb := B.bytes
  have hr := B.returns
  have hts := fun (w : Cond) (h : w ∈ WALL) => atoms_spec (ws := wqX12_findSet) B.pre w (List.mem_cons_of_mem _ h)
  have hown : s.vm.findClass RX12 = some m.cls := findClass_of_methodNamed B.named
  have hlocks := B.notSynchronized
  subst hsz
  have hD := hD0.self (sz := s.heap.size)
  generalize hAe : va_A (va_pl L f) s.heap.size = A at hD ⊢
  have hA : ∀ q : Nat, s.heap.size ≤ q → A q := fun q h => by rw [← hAe]; exact Or.inr h
  have hS : va_S A s.heap s.heap [] := va_S.rf
  have hR : tp_F τ [13, 69, 70, 71, 72, 73, 74, 75, 76] f f := tp_F.rf
  have hl := lv_entry ([.ref h0, .int v, .int u, .int a]) (n := 12) (Nat.le_of_ble_eq_true rfl)
  rw [lg_entry_eq]
  generalize (lg_sl ([.ref h0, .int v, .int u, .int a]) ++ List.replicate (12 - (lg_sl ([.ref h0, .int v, .int u, .int a])).length) Slot.unset).toArray = ls at hl ⊢
  have hl : lv_has ls 12 [(0, .ref h0), (1, .int v), (2, .int u), (3, .int a)] := hl
  obtain ⟨y1, y2, y3, y4, y5, y6, y7, y8, y9, y10, y11, y12, y13, y14, y15, y16, y17, y18, y19, y20, y21, y22, y23, y24, y25⟩ := tpg_13 hG ht_h0
  obtain ⟨g27, hf_o26⟩ := tpo_32 hT y1
  have hI : mo_RI x b (mo_R g27) := by have q9 := hJ; rw [hf_o26, mo_i1] at q9; exact q9
  rw [hf_o26, mo_i1] at hv1
  rw [hf_o26, mo_i1] at hu2
  obtain ⟨g29, hf_o28⟩ := tpo_74 hT y19
  obtain ⟨g31, hf_o30⟩ := tpo_73 hT y18
  have := hI.k1; have hk10 := hI.k10
  have hP2 := mo_P2_le (mo_R g27 10)
  refine lv_iconst (v := 0) hx hb dX12_findSet_0 (by decide) ?_
  refine lv_istore (lv' := [(4, .int 0), (0, .ref h0), (1, .int v), (2, .int u), (3, .int a)]) hx hb dX12_findSet_1 hl (by decide) rfl (fun ls hl => ?_)
  refine lv_iconst (v := 0) hx hb dX12_findSet_3 (by decide) ?_
  refine lv_istore (lv' := [(5, .int 0), (4, .int 0), (0, .ref h0), (1, .int v), (2, .int u), (3, .int a)]) hx hb dX12_findSet_4 hl (by decide) rfl (fun ls hl => ?_)
  obtain ⟨g37, hf_o36⟩ := tpo_75 hT y20
  obtain ⟨g39, hf_o38⟩ := tpo_76 hT y21
  refine pz_loop (fun n0 H locs ls => ∃ f40 : Nat → va_E, ∃ w32 : Int32, ∃ w33 : Int32, n0 = (6 - (w32.toInt)).toNat ∧ tp_T (mo_O κ) κ τ ν ρ f40 ∧ tp_F τ [13, 69, 70, 71, 72, 73, 74, 75, 76] f f40 ∧ f40 (ρ h0 2) = .inl (κ 0, 12967, .inl g27) ∧ ((mo_MB (mo_R (mo_i (f40 (ρ h0 45)))) u.toInt (w33.toInt) (w32.toInt))) ∧ ((∀ i, 0 ≤ i → i < (w33.toInt) → (mo_R (mo_i (f40 (ρ h0 46)))) i = i)) ∧ (0 ≤ w32.toInt ∧ w32.toInt ≤ 6) ∧ (0 ≤ w33.toInt ∧ w33.toInt ≤ 6) ∧ ((w33.toInt) ≤ (w32.toInt)) ∧ va_P (dC, dI) vwCl (va_pl L f40) H ∧ va_D A (va_pl L f40) ∧ va_S A s.heap H locs ∧ lv_has ls 12 [(5, .int w32), (4, .int w33), (0, .ref h0), (1, .int v), (2, .int u), (3, .int a)]) ?_ _ _ _ _ ⟨f, 0, 0, rfl, hT, hR, hf_o26, (by simp only [hf_o36, mo_i1, mo_l1]; exact (show mo_MB (mo_R g37) u.toInt (0 : Int32).toInt (0 : Int32).toInt from mo_MB.rf _ _ (by decide) (by decide))), (by simp only [hf_o38, mo_i1, mo_l1]; exact (show ∀ i, 0 ≤ i → i < (0 : Int32).toInt → (mo_R g39) i = i from (fun i i0 i1 => absurd i1 (by have : (0 : Int32).toInt = 0 := rfl; omega)))), (by have : (0 : Int32).toInt = 0 := rfl; have : (0 : Int32).toInt = 0 := rfl; omega), (by have : (0 : Int32).toInt = 0 := rfl; have : (0 : Int32).toInt = 0 := rfl; omega), (by have : (0 : Int32).toInt = 0 := rfl; have : (0 : Int32).toInt = 0 := rfl; omega), hP, hD, hS, lv_sub hl [0, 1, 2, 3, 4, 5] rfl⟩
  intro n0 H locs ls hI ih42
  obtain ⟨f40, w32, w33, hn43, hT, hR, hk35k, jf44, jf45, rw32, rw33, k34, hP, hD, hS, hl⟩ := hI
  obtain ⟨g47, hf_o46⟩ := tpo_75 hT y20
  have jf44 : mo_MB (mo_R g47) u.toInt (w33.toInt) (w32.toInt) := by have q9 := jf44; simp only [hf_o46, mo_i1, mo_l1] at q9; exact q9
  obtain ⟨g49, hf_o48⟩ := tpo_76 hT y21
  have jf45 : ∀ i, 0 ≤ i → i < (w33.toInt) → (mo_R g49) i = i := by have q9 := jf45; simp only [hf_o48, mo_i1, mo_l1] at q9; exact q9
  refine lv_iload hx hb dX12_findSet_6 (lv_at hl 0 rfl) ?_
  refine lv_bipush (v := 6) hx hb dX12_findSet_8 (by decide) ?_
  refine lv_icmp_ge (tgt := 50) hx hb dX12_findSet_10 (by decide) (fun c50 => ?_) (fun c50 => ?_)
  · have ic50 : w32.toInt ≥ 6 := zi_ge rfl rfl c50
    have hMB : mo_MB (mo_R g47) u.toInt w33.toInt 6 := by have q9 := jf44; rw [show w32.toInt = 6 by omega] at q9; exact q9
    have hPM := mo_PM.id jf45
    have hPMb := hPM.bd (by omega) (by omega)
    refine lv_ldc2 (own := RX12) (v := (-2000000000000000)) hx hb hown (hts (.constantLong RX12 466 (-2000000000000000)) wa_1189) dX12_findSet_50 ?_
    refine lv_lstore (lv' := [(5, .long (-2000000000000000)), (4, .int w33), (0, .ref h0), (1, .int v), (2, .int u), (3, .int a)]) hx hb dX12_findSet_53 hl (by decide) rfl (fun ls hl => ?_)
    refine lv_iconst (v := 0) hx hb dX12_findSet_55 (by decide) ?_
    refine lv_istore (lv' := [(7, .int 0), (5, .long (-2000000000000000)), (4, .int w33), (0, .ref h0), (1, .int v), (2, .int u), (3, .int a)]) hx hb dX12_findSet_56 hl (by decide) rfl (fun ls hl => ?_)
    refine lv_iconst (v := 1) hx hb dX12_findSet_58 (by decide) ?_
    refine lv_istore (lv' := [(8, .int 1), (7, .int 0), (5, .long (-2000000000000000)), (4, .int w33), (0, .ref h0), (1, .int v), (2, .int u), (3, .int a)]) hx hb dX12_findSet_59 hl (by decide) rfl (fun ls hl => ?_)
    refine pz_loop (fun n0 H locs ls => ∃ f58 : Nat → va_E, ∃ w51 : Int32, ∃ w52 : Int32, ∃ w53 : Int64, n0 = (46656 - mo_V (mo_R (mo_i (f58 (ρ h0 46)))) w33.toInt.toNat).toNat + ((w51.toInt)).toNat ∧ tp_T (mo_O κ) κ τ ν ρ f58 ∧ tp_F τ [13, 69, 70, 71, 72, 73, 74, 75, 76] f f58 ∧ f58 (ρ h0 2) = .inl (κ 0, 12967, .inl g27) ∧ f58 (ρ h0 45) = .inl (κ 0, 6, .inl g47) ∧ ((mo_PM (mo_R (mo_i (f58 (ρ h0 46)))) w33.toInt)) ∧ (0 ≤ w51.toInt ∧ w51.toInt ≤ 1) ∧ (((w53.toInt) ≠ -2000000000000000 → mo_GD (w52.toInt) u.toInt)) ∧ ((w33.toInt = 0 → (w53.toInt) = 0 ∨ ((w51.toInt) = 1 ∧ (w53.toInt) = -2000000000000000))) ∧ va_P (dC, dI) vwCl (va_pl L f58) H ∧ va_D A (va_pl L f58) ∧ va_S A s.heap H locs ∧ lv_has ls 12 [(8, .int w51), (7, .int w52), (5, .long w53), (4, .int w33), (0, .ref h0), (1, .int v), (2, .int u), (3, .int a)]) ?_ _ _ _ _ ⟨f40, 1, 0, (-2000000000000000), rfl, hT, hR, hk35k, hf_o46, (by simp only [hf_o48, mo_i1, mo_l1]; exact (show mo_PM (mo_R g49) w33.toInt from hPM)), (by have : (1 : Int32).toInt = 1 := rfl; have : (0 : Int32).toInt = 0 := rfl; have : ((-2000000000000000) : Int64).toInt = (-2000000000000000) := rfl; omega), (fun q9 => absurd (by decide) q9), (fun _ => Or.inr ⟨by decide, by decide⟩), hP, hD, hS, lv_sub hl [0, 1, 2, 3, 4, 5, 6, 7] rfl⟩
    intro n0 H locs ls hI ih60
    obtain ⟨f58, w51, w52, w53, hn61, hT, hR, hk56k, hk57k, jf62, rw51, k54, k55, hP, hD, hS, hl⟩ := hI
    obtain ⟨g64, hf_o63⟩ := tpo_76 hT y21
    have jf62 : mo_PM (mo_R g64) w33.toInt := by have q9 := jf62; simp only [hf_o63, mo_i1, mo_l1] at q9; exact q9
    simp only [hf_o63, mo_i1, mo_l1] at hn61
    refine lv_iload hx hb dX12_findSet_61 (lv_at hl 0 rfl) ?_
    refine lv_if_eq (tgt := 181) hx hb dX12_findSet_63 (by decide) (fun c65 => ?_) (fun c65 => ?_)
    · have ic65 : w51.toInt = 0 := zi_eq rfl rfl c65
      refine lv_aload_n hx hb dX12_findSet_181 rfl (lv_at hl 4 rfl) ?_
      obtain ⟨o66_x0, o66_x1, o66_x7, o66_x9, o66_x10, o66_x11, o66_x12, o66_x13, o66_x14, o66_x15, o66_x16, o66_x17, o66_x18, o66_x19, o66_x20, o66_x22, o66_x25, o66_x28, o66_x29, o66_x32, o66_x33, o66_x34, o66_x35, o66_x36, o66_x37, o66_x38, o66_x47, o66_x48, hf_o66, ro66_0, ro66_1, ro66_2, ro66_3, ro66_4, ro66_5, ro66_6, ro66_7, ro66_8, ro66_9, ro66_10, ro66_11, ro66_12, ro66_13⟩ := tpo_13 hT ht_h0
      obtain ⟨q67, eq67⟩ := tp_pos (tp_in hG ht_h0 (by decide)) hf_o66
      refine va_get (D := (dC, dI)) (ci := 12) (v := .ref (ρ h0 43)) (C := RX12) (T := TX12) (N := 53) hx hb hts hfX12 hown hK hP q67 eq67 rfl 43 (by decide) (hts (.fieldLink RX12 67 "ColdShipsModel" "bestOf" "[J") wa_167) (fun _ h9 => h9) rfl dX12_findSet_182 ?_
      refine lv_bipush (v := 64) hx hb dX12_findSet_185 (by decide) ?_
      refine lv_iload_n hx hb dX12_findSet_187 rfl (lv_at hl 5 rfl) ?_
      refine lv_imul hx hb dX12_findSet_188 ?_
      refine lv_topi (fun z68 ez68 => ?_)
      have iz68 : z68.toInt = 64 * v.toInt := zi_mul ez68 rfl rfl (by omega) (by omega)
      refine lv_iload_n hx hb dX12_findSet_189 rfl (lv_at hl 6 rfl) ?_
      refine lv_iadd hx hb dX12_findSet_190 ?_
      refine lv_topi (fun z69 ez69 => ?_)
      have iz69 : z69.toInt = z68.toInt + u.toInt := zi_add ez69 rfl rfl (by omega) (by omega)
      refine lv_lload hx hb dX12_findSet_191 (lv_at hl 2 rfl) ?_
      obtain ⟨g71, hf_o70⟩ := tpo_73 hT y18
      obtain ⟨q72, eq72⟩ := tp_pos (tp_in hG y18 (by decide)) hf_o70
      refine va_last hx hb hK hP hD hS q72 1 eq72 rfl (vp_in_iff.mpr ⟨by omega, by omega⟩) dX12_findSet_193 (tp_k (.inl (κ 1, 192, .inr (.inl (vp_updL g71 z69.toNatClampNeg w53)))) hD (tp_in hG y18 (by decide)) eq72 (fun f73 H locs hP hD hS g75 k74 => ?_))
      have hT := hT.up y18 g75 k74 tp_o73
      have hR := hR.up y18 (by decide) k74
      have hU77 : mo_U (mo_RL g71) (mo_RL (vp_updL g71 z69.toNatClampNeg w53)) (64 * v.toInt + u.toInt) (w53.toInt) := mo_upL (by omega) (rfl : w53.toInt = _) (by omega)
      generalize (vp_updL g71 z69.toNatClampNeg w53) = g76 at g75 hU77
      refine lv_aload_n hx hb dX12_findSet_194 rfl (lv_at hl 4 rfl) ?_
      have hf_78 : f73 h0 = .inr (12, [.int o66_x0, .int o66_x1, .ref (ρ h0 2), .ref (ρ h0 3), .ref (ρ h0 4), .ref (ρ h0 5), .ref (ρ h0 6), .int o66_x7, .ref (ρ h0 8), .int o66_x9, .int o66_x10, .int o66_x11, .int o66_x12, .long o66_x13, .int o66_x14, .int o66_x15, .int o66_x16, .int o66_x17, .int o66_x18, .int o66_x19, .int o66_x20, .ref (ρ h0 21), .int o66_x22, .ref (ρ h0 23), .ref (ρ h0 24), .int o66_x25, .ref (ρ h0 26), .ref (ρ h0 27), .int o66_x28, .int o66_x29, .ref (ρ h0 30), .ref (ρ h0 31), .int o66_x32, .long o66_x33, .long o66_x34, .long o66_x35, .int o66_x36, .int o66_x37, .int o66_x38, .ref (ρ h0 39), .ref (ρ h0 40), .ref (ρ h0 41), .ref (ρ h0 42), .ref (ρ h0 43), .ref (ρ h0 44), .ref (ρ h0 45), .ref (ρ h0 46), .int o66_x47, .int o66_x48, .ref (ρ h0 49), .ref (ρ h0 50), .ref (ρ h0 51), .ref (ρ h0 52)]) := (k74 _ (tp_ne ht_h0 y18 (by decide))).trans hf_o66
      obtain ⟨q79, eq79⟩ := tp_pos (tp_in hG ht_h0 (by decide)) hf_78
      refine va_get (D := (dC, dI)) (ci := 12) (v := .ref (ρ h0 44)) (C := RX12) (T := TX12) (N := 53) hx hb hts hfX12 hown hK hP q79 eq79 rfl 44 (by decide) (hts (.fieldLink RX12 70 "ColdShipsModel" "placesOf" "[I") wa_168) (fun _ h9 => h9) rfl dX12_findSet_195 ?_
      refine lv_bipush (v := 64) hx hb dX12_findSet_198 (by decide) ?_
      refine lv_iload_n hx hb dX12_findSet_200 rfl (lv_at hl 5 rfl) ?_
      refine lv_imul hx hb dX12_findSet_201 ?_
      refine lv_topi (fun z80 ez80 => ?_)
      have iz80 : z80.toInt = 64 * v.toInt := zi_mul ez80 rfl rfl (by omega) (by omega)
      refine lv_iload_n hx hb dX12_findSet_202 rfl (lv_at hl 6 rfl) ?_
      refine lv_iadd hx hb dX12_findSet_203 ?_
      refine lv_topi (fun z81 ez81 => ?_)
      have iz81 : z81.toInt = z80.toInt + u.toInt := zi_add ez81 rfl rfl (by omega) (by omega)
      refine lv_iload hx hb dX12_findSet_204 (lv_at hl 1 rfl) ?_
      obtain ⟨g83, hf_o82⟩ := tpo_74 hT y19
      obtain ⟨q84, eq84⟩ := tp_pos (tp_in hG y19 (by decide)) hf_o82
      refine va_iast hx hb hK hP hD hS q84 0 eq84 rfl (vp_in_iff.mpr ⟨by omega, by omega⟩) dX12_findSet_206 (tp_k (.inl (κ 0, 192, .inl (upd g83 z81.toNatClampNeg w52))) hD (tp_in hG y19 (by decide)) eq84 (fun f85 H locs hP hD hS g87 k86 => ?_))
      have hT := hT.up y19 g87 k86 tp_o74
      have hR := hR.up y19 (by decide) k86
      have hU89 : mo_U (mo_R g83) (mo_R (upd g83 z81.toNatClampNeg w52)) (64 * v.toInt + u.toInt) (w52.toInt) := mo_up (by omega) (rfl : w52.toInt = _) (by omega)
      generalize (upd g83 z81.toNatClampNeg w52) = g88 at g87 hU89
      have hf_90 : f85 (ρ h0 43) = .inl (κ 1, 192, .inr (.inl g76)) := (k86 _ (tp_ne y18 y19 (by decide))).trans g75
      exact W.vret hx hb hr (fun t ht hW => ⟨⟨f85, rfl, ⟨hT, hR, (by simp only [hf_o30, hf_90, hf_o28, g87, mo_i1, mo_l1]; exact (show ∃ m9 t9 : Int, mo_U (mo_RL g31) (mo_RL g76) (64 * v.toInt + u.toInt) m9 ∧ mo_U (mo_R g29) (mo_R g88) (64 * v.toInt + u.toInt) t9 ∧ (m9 ≠ -2000000000000000 → mo_GD t9 u.toInt) ∧ (u.toInt = 0 → m9 = 0) from ⟨w53.toInt, w52.toInt, hU77, hU89, k54, fun q9 => by have q8 := hMB.zero q9; omega⟩))⟩, by rw [ht]; exact hP, va_K.moved hW.alike hK, hD⟩, hS.F ht⟩) hS.2.2 dX12_findSet_207
    · have ic65 : w51.toInt ≠ 0 := zi_eqf rfl rfl c65
      have hPM := jf62
      have hPMb := hPM.bd (by omega) (by omega)
      refine lv_iconst (v := 0) hx hb dX12_findSet_66 (by decide) ?_
      refine lv_istore (lv' := [(9, .int 0), (8, .int w51), (7, .int w52), (5, .long w53), (4, .int w33), (0, .ref h0), (1, .int v), (2, .int u), (3, .int a)]) hx hb dX12_findSet_67 hl (by decide) rfl (fun ls hl => ?_)
      refine lv_iconst (v := 0) hx hb dX12_findSet_69 (by decide) ?_
      refine lv_istore (lv' := [(10, .int 0), (9, .int 0), (8, .int w51), (7, .int w52), (5, .long w53), (4, .int w33), (0, .ref h0), (1, .int v), (2, .int u), (3, .int a)]) hx hb dX12_findSet_70 hl (by decide) rfl (fun ls hl => ?_)
      obtain ⟨g98, hf_o97⟩ := tpo_72 hT y17
      refine pz_loop (fun n0 H locs ls => ∃ f99 : Nat → va_E, ∃ w91 : Int32, ∃ w92 : Int32, n0 = (6 - (w91.toInt)).toNat ∧ tp_T (mo_O κ) κ τ ν ρ f99 ∧ tp_F τ [13, 69, 70, 71, 72, 73, 74, 75, 76] f f99 ∧ f99 (ρ h0 2) = .inl (κ 0, 12967, .inl g27) ∧ f99 (ρ h0 45) = .inl (κ 0, 6, .inl g47) ∧ f99 (ρ h0 46) = .inl (κ 0, 6, .inl g64) ∧ ((mo_LC (mo_R g64) (mo_R g47) (mo_R (mo_i (f99 (ρ h0 42)))) (w92.toInt) (w91.toInt))) ∧ (0 ≤ w91.toInt ∧ w91.toInt ≤ 6) ∧ (0 ≤ w92.toInt ∧ w92.toInt ≤ 262143) ∧ ((w91.toInt) ≤ w33.toInt) ∧ va_P (dC, dI) vwCl (va_pl L f99) H ∧ va_D A (va_pl L f99) ∧ va_S A s.heap H locs ∧ lv_has ls 12 [(10, .int w91), (9, .int w92), (8, .int w51), (7, .int w52), (5, .long w53), (4, .int w33), (0, .ref h0), (1, .int v), (2, .int u), (3, .int a)]) ?_ _ _ _ _ ⟨f58, 0, 0, rfl, hT, hR, hk56k, hk57k, hf_o63, (by simp only [hf_o97, mo_i1, mo_l1]; exact (show mo_LC (mo_R g64) (mo_R g47) (mo_R g98) (0 : Int32).toInt (0 : Int32).toInt from mo_LC.rf _ _ _ (by decide) (by decide))), (by have : (0 : Int32).toInt = 0 := rfl; have : (0 : Int32).toInt = 0 := rfl; omega), (by have : (0 : Int32).toInt = 0 := rfl; have : (0 : Int32).toInt = 0 := rfl; omega), (by have : (0 : Int32).toInt = 0 := rfl; have : (0 : Int32).toInt = 0 := rfl; omega), hP, hD, hS, lv_sub hl [0, 1, 2, 3, 4, 5, 6, 7, 8, 9] rfl⟩
      intro n0 H locs ls hI ih101
      obtain ⟨f99, w91, w92, hn102, hT, hR, hk94k, hk95k, hk96k, jf103, rw91, rw92, k93, hP, hD, hS, hl⟩ := hI
      obtain ⟨g105, hf_o104⟩ := tpo_72 hT y17
      have jf103 : mo_LC (mo_R g64) (mo_R g47) (mo_R g105) (w92.toInt) (w91.toInt) := by have q9 := jf103; simp only [hf_o104, mo_i1, mo_l1] at q9; exact q9
      refine lv_iload hx hb dX12_findSet_72 (lv_at hl 0 rfl) ?_
      refine lv_iload hx hb dX12_findSet_74 (lv_at hl 5 rfl) ?_
      refine lv_icmp_ge (tgt := 126) hx hb dX12_findSet_76 (by decide) (fun c106 => ?_) (fun c106 => ?_)
      · have ic106 : w91.toInt ≥ w33.toInt := zi_ge rfl rfl c106
        have hGD := jf103.good (by omega) hPM hMB
        have hLN := jf103.line (by omega) hPM hMB (by omega) hu2 (by omega)
        refine lv_aload_n hx hb dX12_findSet_126 rfl (lv_at hl 6 rfl) ?_
        refine lv_iload_n hx hb dX12_findSet_127 rfl (lv_at hl 7 rfl) ?_
        refine lv_iload hx hb dX12_findSet_128 (lv_at hl 5 rfl) ?_
        refine lv_iload_n hx hb dX12_findSet_130 rfl (lv_at hl 9 rfl) ?_
        obtain ⟨o107_x0, o107_x1, o107_x7, o107_x9, o107_x10, o107_x11, o107_x12, o107_x13, o107_x14, o107_x15, o107_x16, o107_x17, o107_x18, o107_x19, o107_x20, o107_x22, o107_x25, o107_x28, o107_x29, o107_x32, o107_x33, o107_x34, o107_x35, o107_x36, o107_x37, o107_x38, o107_x47, o107_x48, hf_o107, ro107_0, ro107_1, ro107_2, ro107_3, ro107_4, ro107_5, ro107_6, ro107_7, ro107_8, ro107_9, ro107_10, ro107_11, ro107_12, ro107_13⟩ := tpo_13 hT ht_h0
        obtain ⟨q108, eq108⟩ := tp_pos (tp_in hG ht_h0 (by decide)) hf_o107
        have hFc := tp_fr hD hS hA
        refine va_calll (va_runV (As := [.int v, .int w33, .int a]) (rest := []) ⟨hx, hb, hml, hown, hts⟩ (t_X12_sailRow l dC dI _ κ τ ν ρ L f99 hG hT h0 v w33 a x b ht_h0 (by first | decide | omega) (by omega) (by rw [hk94k, mo_i1]; exact hI) (by first | (simp only [hk94k, hf_o26, mo_i1]; omega) | simp only [hk94k, hf_o26, mo_i1] | omega) (by simp only [hf_o104, hk94k, mo_i1, mo_l1]; exact (show ∀ j, 0 ≤ j → j < w33.toInt → 0 ≤ (mo_R g105) j ∧ (mo_R g105) j < (mo_R g27) 10 from hLN))) (cwV 3 hts gX12_findSet_X12_sailRow rfl rfl rfl ⟨rfl, pd_X12_sailRow⟩ ⟨Nat.le_of_ble_eq_true rfl, Nat.le_of_ble_eq_true rfl⟩) ⟨pz_blind, va_recv hK hP (ci := 12) (q0 := q108) rfl eq108, pz_pre hP hK hD hN⟩ rfl rfl hl.1 rfl (lv_room (Nat.le_of_ble_eq_true rfl)) dX12_findSet_131 ⟨Nat.le_of_ble_eq_true rfl, Nat.le_of_ble_eq_true rfl⟩) hS (fun q _ h => hFc q h) hFc (fun r109 f111 t H1 locs ht hvm hw110 hB hz1 hk1 hS => ?_)
        obtain ⟨hT, hF112, hw110r, hw110p⟩ := hw110
        have hR := hR.then hF112 (by decide)
        have hP := hB.1; rw [ht] at hP; have hD := tp_ad f111 hD; clear hB hFc hz1 hk1; subst ht; generalize t.heap = H at hP hS ⊢
        refine lv_lstore (lv' := [(10, .long r109), (9, .int w92), (8, .int w51), (7, .int w52), (5, .long w53), (4, .int w33), (0, .ref h0), (1, .int v), (2, .int u), (3, .int a)]) hx hb dX12_findSet_134 hl (by decide) rfl (fun ls hl => ?_)
        refine lv_lload hx hb dX12_findSet_136 (lv_at hl 0 rfl) ?_
        refine lv_lload hx hb dX12_findSet_138 (lv_at hl 4 rfl) ?_
        refine W.lcmp hx hb dX12_findSet_140 ?_
        refine lv_if_le (tgt := 149) hx hb dX12_findSet_141 (by decide) (fun c113 => ?_) (fun c113 => ?_)
        · have ic113 : r109.toInt ≤ w53.toInt := zl_le rfl rfl c113
          refine lv_iload hx hb dX12_findSet_149 (lv_at hl 3 rfl) ?_
          refine lv_istore (lv' := [(7, .int w52), (10, .long r109), (9, .int w92), (8, .int w51), (5, .long w53), (4, .int w33), (0, .ref h0), (1, .int v), (2, .int u), (3, .int a)]) hx hb dX12_findSet_151 hl (by decide) rfl (fun ls hl => ?_)
          refine lv_lload hx hb dX12_findSet_153 (lv_at hl 1 rfl) ?_
          refine lv_lload hx hb dX12_findSet_155 (lv_at hl 4 rfl) ?_
          refine W.lcmp hx hb dX12_findSet_157 ?_
          refine lv_if_le (tgt := 166) hx hb dX12_findSet_158 (by decide) (fun c114 => ?_) (fun c114 => ?_)
          · have ic114 : r109.toInt ≤ w53.toInt := zl_le rfl rfl c114
            refine lv_lload hx hb dX12_findSet_166 (lv_at hl 4 rfl) ?_
            refine lv_lstore (lv' := [(5, .long w53), (7, .int w52), (10, .long r109), (9, .int w92), (8, .int w51), (4, .int w33), (0, .ref h0), (1, .int v), (2, .int u), (3, .int a)]) hx hb dX12_findSet_168 hl (by decide) rfl (fun ls hl => ?_)
            refine lv_aload_n hx hb dX12_findSet_170 rfl (lv_at hl 6 rfl) ?_
            refine lv_iload hx hb dX12_findSet_171 (lv_at hl 5 rfl) ?_
            have hf_115 : f111 (ρ h0 2) = .inl (κ 0, 12967, .inl g27) := (hF112 _ (by rw [y1]; decide)).trans hk94k
            have hf_116 : f111 (ρ h0 46) = .inl (κ 0, 6, .inl g64) := (hF112 _ (by rw [y21]; decide)).trans hk96k
            obtain ⟨o117_x0, o117_x1, o117_x7, o117_x9, o117_x10, o117_x11, o117_x12, o117_x13, o117_x14, o117_x15, o117_x16, o117_x17, o117_x18, o117_x19, o117_x20, o117_x22, o117_x25, o117_x28, o117_x29, o117_x32, o117_x33, o117_x34, o117_x35, o117_x36, o117_x37, o117_x38, o117_x47, o117_x48, hf_o117, ro117_0, ro117_1, ro117_2, ro117_3, ro117_4, ro117_5, ro117_6, ro117_7, ro117_8, ro117_9, ro117_10, ro117_11, ro117_12, ro117_13⟩ := tpo_13 hT ht_h0
            obtain ⟨q118, eq118⟩ := tp_pos (tp_in hG ht_h0 (by decide)) hf_o117
            have hFc := tp_fr hD hS hA
            refine va_calli (va_runV (As := [.int w33]) (rest := []) ⟨hx, hb, hml, hown, hts⟩ (t_X12_nextPlaces l dC dI _ κ τ ν ρ L f111 hG hT h0 w33 ht_h0 (by first | decide | omega) (by simp only [hf_116, mo_i1, mo_l1]; exact (show mo_PM (mo_R g64) w33.toInt from hPM))) (cwV 1 hts gX12_findSet_X12_nextPlaces rfl rfl rfl ⟨rfl, pd_X12_nextPlaces⟩ ⟨Nat.le_of_ble_eq_true rfl, Nat.le_of_ble_eq_true rfl⟩) ⟨pz_blind, va_recv hK hP (ci := 12) (q0 := q118) rfl eq118, pz_pre hP hK hD hN⟩ rfl rfl hl.1 rfl (lv_room (Nat.le_of_ble_eq_true rfl)) dX12_findSet_173 ⟨Nat.le_of_ble_eq_true rfl, Nat.le_of_ble_eq_true rfl⟩) hS (fun q _ h => hFc q h) hFc (fun r119 f121 t H1 locs ht hvm hw120 hB hz1 hk1 hS => ?_)
            obtain ⟨hT, hF122, hw120r, hw120p⟩ := hw120
            have hR := hR.then hF122 (by decide)
            have hP := hB.1; rw [ht] at hP; have hD := tp_ad f121 hD; clear hB hFc hz1 hk1; subst ht; generalize t.heap = H at hP hS ⊢
            obtain ⟨g124, hf_o123⟩ := tpo_76 hT y21
            have tk125 : mo_PM (mo_R g124) w33.toInt ∧ mo_V (mo_R g64) w33.toInt.toNat ≤ mo_V (mo_R g124) w33.toInt.toNat ∧ (r119.toInt ≠ 0 → mo_V (mo_R g64) w33.toInt.toNat < mo_V (mo_R g124) w33.toInt.toNat) := by have q9 := hw120p; simp only [hf_o123, hf_116, mo_i1, mo_l1] at q9; exact q9
            have hPM := tk125.1
            have hPMc := hPM.bd (by omega) (by omega)
            have hVm := tk125.2
            refine lv_istore (lv' := [(8, .int r119), (5, .long w53), (7, .int w52), (10, .long r109), (9, .int w92), (4, .int w33), (0, .ref h0), (1, .int v), (2, .int u), (3, .int a)]) hx hb dX12_findSet_176 hl (by decide) rfl (fun ls hl => ?_)
            refine lv_goto (tgt := 61) hx hb dX12_findSet_178 (by decide) ?_
            have hf_126 : f121 (ρ h0 2) = .inl (κ 0, 12967, .inl g27) := (hF122 _ (by rw [y1]; decide)).trans hf_115
            have hf_127 : f111 (ρ h0 45) = .inl (κ 0, 6, .inl g47) := (hF112 _ (by rw [y20]; decide)).trans hk95k
            have hf_128 : f121 (ρ h0 45) = .inl (κ 0, 6, .inl g47) := (hF122 _ (by rw [y20]; decide)).trans hf_127
            exact ih60 _ _ _ _ (by rw [hn61]; simp only [hf_o123, mo_i1, mo_l1]; omega) ⟨f121, r119, w52, w53, rfl, hT, hR, hf_126, hf_128, (by simp only [hf_o123, mo_i1, mo_l1]; exact (show mo_PM (mo_R g124) w33.toInt from hPM)), (by omega), (by first | exact (fun _ => hGD) | exact k54 | (intro q9; exfalso; omega) | (intro q9; exact k54 (by omega))), (by omega), hP, hD, hS, lv_sub hl [0, 2, 1, 5, 6, 7, 8, 9] rfl⟩
          · have ic114 : r109.toInt > w53.toInt := zl_lef rfl rfl c114
            refine lv_lload hx hb dX12_findSet_161 (lv_at hl 1 rfl) ?_
            refine lv_goto (tgt := 168) hx hb dX12_findSet_163 (by decide) ?_
            refine lv_lstore (lv' := [(5, .long r109), (7, .int w52), (10, .long r109), (9, .int w92), (8, .int w51), (4, .int w33), (0, .ref h0), (1, .int v), (2, .int u), (3, .int a)]) hx hb dX12_findSet_168 hl (by decide) rfl (fun ls hl => ?_)
            refine lv_aload_n hx hb dX12_findSet_170 rfl (lv_at hl 6 rfl) ?_
            refine lv_iload hx hb dX12_findSet_171 (lv_at hl 5 rfl) ?_
            have hf_129 : f111 (ρ h0 2) = .inl (κ 0, 12967, .inl g27) := (hF112 _ (by rw [y1]; decide)).trans hk94k
            have hf_130 : f111 (ρ h0 46) = .inl (κ 0, 6, .inl g64) := (hF112 _ (by rw [y21]; decide)).trans hk96k
            obtain ⟨o131_x0, o131_x1, o131_x7, o131_x9, o131_x10, o131_x11, o131_x12, o131_x13, o131_x14, o131_x15, o131_x16, o131_x17, o131_x18, o131_x19, o131_x20, o131_x22, o131_x25, o131_x28, o131_x29, o131_x32, o131_x33, o131_x34, o131_x35, o131_x36, o131_x37, o131_x38, o131_x47, o131_x48, hf_o131, ro131_0, ro131_1, ro131_2, ro131_3, ro131_4, ro131_5, ro131_6, ro131_7, ro131_8, ro131_9, ro131_10, ro131_11, ro131_12, ro131_13⟩ := tpo_13 hT ht_h0
            obtain ⟨q132, eq132⟩ := tp_pos (tp_in hG ht_h0 (by decide)) hf_o131
            have hFc := tp_fr hD hS hA
            refine va_calli (va_runV (As := [.int w33]) (rest := []) ⟨hx, hb, hml, hown, hts⟩ (t_X12_nextPlaces l dC dI _ κ τ ν ρ L f111 hG hT h0 w33 ht_h0 (by first | decide | omega) (by simp only [hf_130, mo_i1, mo_l1]; exact (show mo_PM (mo_R g64) w33.toInt from hPM))) (cwV 1 hts gX12_findSet_X12_nextPlaces rfl rfl rfl ⟨rfl, pd_X12_nextPlaces⟩ ⟨Nat.le_of_ble_eq_true rfl, Nat.le_of_ble_eq_true rfl⟩) ⟨pz_blind, va_recv hK hP (ci := 12) (q0 := q132) rfl eq132, pz_pre hP hK hD hN⟩ rfl rfl hl.1 rfl (lv_room (Nat.le_of_ble_eq_true rfl)) dX12_findSet_173 ⟨Nat.le_of_ble_eq_true rfl, Nat.le_of_ble_eq_true rfl⟩) hS (fun q _ h => hFc q h) hFc (fun r133 f135 t H1 locs ht hvm hw134 hB hz1 hk1 hS => ?_)
            obtain ⟨hT, hF136, hw134r, hw134p⟩ := hw134
            have hR := hR.then hF136 (by decide)
            have hP := hB.1; rw [ht] at hP; have hD := tp_ad f135 hD; clear hB hFc hz1 hk1; subst ht; generalize t.heap = H at hP hS ⊢
            obtain ⟨g138, hf_o137⟩ := tpo_76 hT y21
            have tk139 : mo_PM (mo_R g138) w33.toInt ∧ mo_V (mo_R g64) w33.toInt.toNat ≤ mo_V (mo_R g138) w33.toInt.toNat ∧ (r133.toInt ≠ 0 → mo_V (mo_R g64) w33.toInt.toNat < mo_V (mo_R g138) w33.toInt.toNat) := by have q9 := hw134p; simp only [hf_o137, hf_130, mo_i1, mo_l1] at q9; exact q9
            have hPM := tk139.1
            have hPMc := hPM.bd (by omega) (by omega)
            have hVm := tk139.2
            refine lv_istore (lv' := [(8, .int r133), (5, .long r109), (7, .int w52), (10, .long r109), (9, .int w92), (4, .int w33), (0, .ref h0), (1, .int v), (2, .int u), (3, .int a)]) hx hb dX12_findSet_176 hl (by decide) rfl (fun ls hl => ?_)
            refine lv_goto (tgt := 61) hx hb dX12_findSet_178 (by decide) ?_
            have hf_140 : f135 (ρ h0 2) = .inl (κ 0, 12967, .inl g27) := (hF136 _ (by rw [y1]; decide)).trans hf_129
            have hf_141 : f111 (ρ h0 45) = .inl (κ 0, 6, .inl g47) := (hF112 _ (by rw [y20]; decide)).trans hk95k
            have hf_142 : f135 (ρ h0 45) = .inl (κ 0, 6, .inl g47) := (hF136 _ (by rw [y20]; decide)).trans hf_141
            exact ih60 _ _ _ _ (by rw [hn61]; simp only [hf_o137, mo_i1, mo_l1]; omega) ⟨f135, r133, w52, r109, rfl, hT, hR, hf_140, hf_142, (by simp only [hf_o137, mo_i1, mo_l1]; exact (show mo_PM (mo_R g138) w33.toInt from hPM)), (by omega), (by first | exact (fun _ => hGD) | exact k54 | (intro q9; exfalso; omega) | (intro q9; exact k54 (by omega))), (by omega), hP, hD, hS, lv_sub hl [0, 2, 1, 5, 6, 7, 8, 9] rfl⟩
        · have ic113 : r109.toInt > w53.toInt := zl_lef rfl rfl c113
          refine lv_iload hx hb dX12_findSet_144 (lv_at hl 1 rfl) ?_
          refine lv_goto (tgt := 151) hx hb dX12_findSet_146 (by decide) ?_
          refine lv_istore (lv' := [(7, .int w92), (10, .long r109), (9, .int w92), (8, .int w51), (5, .long w53), (4, .int w33), (0, .ref h0), (1, .int v), (2, .int u), (3, .int a)]) hx hb dX12_findSet_151 hl (by decide) rfl (fun ls hl => ?_)
          refine lv_lload hx hb dX12_findSet_153 (lv_at hl 1 rfl) ?_
          refine lv_lload hx hb dX12_findSet_155 (lv_at hl 4 rfl) ?_
          refine W.lcmp hx hb dX12_findSet_157 ?_
          refine lv_if_le (tgt := 166) hx hb dX12_findSet_158 (by decide) (fun c143 => ?_) (fun c143 => ?_)
          · have ic143 : r109.toInt ≤ w53.toInt := zl_le rfl rfl c143
            refine lv_lload hx hb dX12_findSet_166 (lv_at hl 4 rfl) ?_
            refine lv_lstore (lv' := [(5, .long w53), (7, .int w92), (10, .long r109), (9, .int w92), (8, .int w51), (4, .int w33), (0, .ref h0), (1, .int v), (2, .int u), (3, .int a)]) hx hb dX12_findSet_168 hl (by decide) rfl (fun ls hl => ?_)
            refine lv_aload_n hx hb dX12_findSet_170 rfl (lv_at hl 6 rfl) ?_
            refine lv_iload hx hb dX12_findSet_171 (lv_at hl 5 rfl) ?_
            have hf_144 : f111 (ρ h0 2) = .inl (κ 0, 12967, .inl g27) := (hF112 _ (by rw [y1]; decide)).trans hk94k
            have hf_145 : f111 (ρ h0 46) = .inl (κ 0, 6, .inl g64) := (hF112 _ (by rw [y21]; decide)).trans hk96k
            obtain ⟨o146_x0, o146_x1, o146_x7, o146_x9, o146_x10, o146_x11, o146_x12, o146_x13, o146_x14, o146_x15, o146_x16, o146_x17, o146_x18, o146_x19, o146_x20, o146_x22, o146_x25, o146_x28, o146_x29, o146_x32, o146_x33, o146_x34, o146_x35, o146_x36, o146_x37, o146_x38, o146_x47, o146_x48, hf_o146, ro146_0, ro146_1, ro146_2, ro146_3, ro146_4, ro146_5, ro146_6, ro146_7, ro146_8, ro146_9, ro146_10, ro146_11, ro146_12, ro146_13⟩ := tpo_13 hT ht_h0
            obtain ⟨q147, eq147⟩ := tp_pos (tp_in hG ht_h0 (by decide)) hf_o146
            have hFc := tp_fr hD hS hA
            refine va_calli (va_runV (As := [.int w33]) (rest := []) ⟨hx, hb, hml, hown, hts⟩ (t_X12_nextPlaces l dC dI _ κ τ ν ρ L f111 hG hT h0 w33 ht_h0 (by first | decide | omega) (by simp only [hf_145, mo_i1, mo_l1]; exact (show mo_PM (mo_R g64) w33.toInt from hPM))) (cwV 1 hts gX12_findSet_X12_nextPlaces rfl rfl rfl ⟨rfl, pd_X12_nextPlaces⟩ ⟨Nat.le_of_ble_eq_true rfl, Nat.le_of_ble_eq_true rfl⟩) ⟨pz_blind, va_recv hK hP (ci := 12) (q0 := q147) rfl eq147, pz_pre hP hK hD hN⟩ rfl rfl hl.1 rfl (lv_room (Nat.le_of_ble_eq_true rfl)) dX12_findSet_173 ⟨Nat.le_of_ble_eq_true rfl, Nat.le_of_ble_eq_true rfl⟩) hS (fun q _ h => hFc q h) hFc (fun r148 f150 t H1 locs ht hvm hw149 hB hz1 hk1 hS => ?_)
            obtain ⟨hT, hF151, hw149r, hw149p⟩ := hw149
            have hR := hR.then hF151 (by decide)
            have hP := hB.1; rw [ht] at hP; have hD := tp_ad f150 hD; clear hB hFc hz1 hk1; subst ht; generalize t.heap = H at hP hS ⊢
            obtain ⟨g153, hf_o152⟩ := tpo_76 hT y21
            have tk154 : mo_PM (mo_R g153) w33.toInt ∧ mo_V (mo_R g64) w33.toInt.toNat ≤ mo_V (mo_R g153) w33.toInt.toNat ∧ (r148.toInt ≠ 0 → mo_V (mo_R g64) w33.toInt.toNat < mo_V (mo_R g153) w33.toInt.toNat) := by have q9 := hw149p; simp only [hf_o152, hf_145, mo_i1, mo_l1] at q9; exact q9
            have hPM := tk154.1
            have hPMc := hPM.bd (by omega) (by omega)
            have hVm := tk154.2
            refine lv_istore (lv' := [(8, .int r148), (5, .long w53), (7, .int w92), (10, .long r109), (9, .int w92), (4, .int w33), (0, .ref h0), (1, .int v), (2, .int u), (3, .int a)]) hx hb dX12_findSet_176 hl (by decide) rfl (fun ls hl => ?_)
            refine lv_goto (tgt := 61) hx hb dX12_findSet_178 (by decide) ?_
            have hf_155 : f150 (ρ h0 2) = .inl (κ 0, 12967, .inl g27) := (hF151 _ (by rw [y1]; decide)).trans hf_144
            have hf_156 : f111 (ρ h0 45) = .inl (κ 0, 6, .inl g47) := (hF112 _ (by rw [y20]; decide)).trans hk95k
            have hf_157 : f150 (ρ h0 45) = .inl (κ 0, 6, .inl g47) := (hF151 _ (by rw [y20]; decide)).trans hf_156
            exact ih60 _ _ _ _ (by rw [hn61]; simp only [hf_o152, mo_i1, mo_l1]; omega) ⟨f150, r148, w92, w53, rfl, hT, hR, hf_155, hf_157, (by simp only [hf_o152, mo_i1, mo_l1]; exact (show mo_PM (mo_R g153) w33.toInt from hPM)), (by omega), (by first | exact (fun _ => hGD) | exact k54 | (intro q9; exfalso; omega) | (intro q9; exact k54 (by omega))), (by omega), hP, hD, hS, lv_sub hl [0, 2, 1, 5, 6, 7, 8, 9] rfl⟩
          · have ic143 : r109.toInt > w53.toInt := zl_lef rfl rfl c143
            refine lv_lload hx hb dX12_findSet_161 (lv_at hl 1 rfl) ?_
            refine lv_goto (tgt := 168) hx hb dX12_findSet_163 (by decide) ?_
            refine lv_lstore (lv' := [(5, .long r109), (7, .int w92), (10, .long r109), (9, .int w92), (8, .int w51), (4, .int w33), (0, .ref h0), (1, .int v), (2, .int u), (3, .int a)]) hx hb dX12_findSet_168 hl (by decide) rfl (fun ls hl => ?_)
            refine lv_aload_n hx hb dX12_findSet_170 rfl (lv_at hl 6 rfl) ?_
            refine lv_iload hx hb dX12_findSet_171 (lv_at hl 5 rfl) ?_
            have hf_158 : f111 (ρ h0 2) = .inl (κ 0, 12967, .inl g27) := (hF112 _ (by rw [y1]; decide)).trans hk94k
            have hf_159 : f111 (ρ h0 46) = .inl (κ 0, 6, .inl g64) := (hF112 _ (by rw [y21]; decide)).trans hk96k
            obtain ⟨o160_x0, o160_x1, o160_x7, o160_x9, o160_x10, o160_x11, o160_x12, o160_x13, o160_x14, o160_x15, o160_x16, o160_x17, o160_x18, o160_x19, o160_x20, o160_x22, o160_x25, o160_x28, o160_x29, o160_x32, o160_x33, o160_x34, o160_x35, o160_x36, o160_x37, o160_x38, o160_x47, o160_x48, hf_o160, ro160_0, ro160_1, ro160_2, ro160_3, ro160_4, ro160_5, ro160_6, ro160_7, ro160_8, ro160_9, ro160_10, ro160_11, ro160_12, ro160_13⟩ := tpo_13 hT ht_h0
            obtain ⟨q161, eq161⟩ := tp_pos (tp_in hG ht_h0 (by decide)) hf_o160
            have hFc := tp_fr hD hS hA
            refine va_calli (va_runV (As := [.int w33]) (rest := []) ⟨hx, hb, hml, hown, hts⟩ (t_X12_nextPlaces l dC dI _ κ τ ν ρ L f111 hG hT h0 w33 ht_h0 (by first | decide | omega) (by simp only [hf_159, mo_i1, mo_l1]; exact (show mo_PM (mo_R g64) w33.toInt from hPM))) (cwV 1 hts gX12_findSet_X12_nextPlaces rfl rfl rfl ⟨rfl, pd_X12_nextPlaces⟩ ⟨Nat.le_of_ble_eq_true rfl, Nat.le_of_ble_eq_true rfl⟩) ⟨pz_blind, va_recv hK hP (ci := 12) (q0 := q161) rfl eq161, pz_pre hP hK hD hN⟩ rfl rfl hl.1 rfl (lv_room (Nat.le_of_ble_eq_true rfl)) dX12_findSet_173 ⟨Nat.le_of_ble_eq_true rfl, Nat.le_of_ble_eq_true rfl⟩) hS (fun q _ h => hFc q h) hFc (fun r162 f164 t H1 locs ht hvm hw163 hB hz1 hk1 hS => ?_)
            obtain ⟨hT, hF165, hw163r, hw163p⟩ := hw163
            have hR := hR.then hF165 (by decide)
            have hP := hB.1; rw [ht] at hP; have hD := tp_ad f164 hD; clear hB hFc hz1 hk1; subst ht; generalize t.heap = H at hP hS ⊢
            obtain ⟨g167, hf_o166⟩ := tpo_76 hT y21
            have tk168 : mo_PM (mo_R g167) w33.toInt ∧ mo_V (mo_R g64) w33.toInt.toNat ≤ mo_V (mo_R g167) w33.toInt.toNat ∧ (r162.toInt ≠ 0 → mo_V (mo_R g64) w33.toInt.toNat < mo_V (mo_R g167) w33.toInt.toNat) := by have q9 := hw163p; simp only [hf_o166, hf_159, mo_i1, mo_l1] at q9; exact q9
            have hPM := tk168.1
            have hPMc := hPM.bd (by omega) (by omega)
            have hVm := tk168.2
            refine lv_istore (lv' := [(8, .int r162), (5, .long r109), (7, .int w92), (10, .long r109), (9, .int w92), (4, .int w33), (0, .ref h0), (1, .int v), (2, .int u), (3, .int a)]) hx hb dX12_findSet_176 hl (by decide) rfl (fun ls hl => ?_)
            refine lv_goto (tgt := 61) hx hb dX12_findSet_178 (by decide) ?_
            have hf_169 : f164 (ρ h0 2) = .inl (κ 0, 12967, .inl g27) := (hF165 _ (by rw [y1]; decide)).trans hf_158
            have hf_170 : f111 (ρ h0 45) = .inl (κ 0, 6, .inl g47) := (hF112 _ (by rw [y20]; decide)).trans hk95k
            have hf_171 : f164 (ρ h0 45) = .inl (κ 0, 6, .inl g47) := (hF165 _ (by rw [y20]; decide)).trans hf_170
            exact ih60 _ _ _ _ (by rw [hn61]; simp only [hf_o166, mo_i1, mo_l1]; omega) ⟨f164, r162, w92, r109, rfl, hT, hR, hf_169, hf_171, (by simp only [hf_o166, mo_i1, mo_l1]; exact (show mo_PM (mo_R g167) w33.toInt from hPM)), (by omega), (by first | exact (fun _ => hGD) | exact k54 | (intro q9; exfalso; omega) | (intro q9; exact k54 (by omega))), (by omega), hP, hD, hS, lv_sub hl [0, 2, 1, 5, 6, 7, 8, 9] rfl⟩
      · have ic106 : w91.toInt < w33.toInt := zi_gef rfl rfl c106
        have hPk := hPM.1 w91.toInt (by omega) (by omega)
        have hMk := hMB.2.2.1 w91.toInt (by omega) (by omega)
        refine lv_aload_n hx hb dX12_findSet_79 rfl (lv_at hl 6 rfl) ?_
        obtain ⟨o172_x0, o172_x1, o172_x7, o172_x9, o172_x10, o172_x11, o172_x12, o172_x13, o172_x14, o172_x15, o172_x16, o172_x17, o172_x18, o172_x19, o172_x20, o172_x22, o172_x25, o172_x28, o172_x29, o172_x32, o172_x33, o172_x34, o172_x35, o172_x36, o172_x37, o172_x38, o172_x47, o172_x48, hf_o172, ro172_0, ro172_1, ro172_2, ro172_3, ro172_4, ro172_5, ro172_6, ro172_7, ro172_8, ro172_9, ro172_10, ro172_11, ro172_12, ro172_13⟩ := tpo_13 hT ht_h0
        obtain ⟨q173, eq173⟩ := tp_pos (tp_in hG ht_h0 (by decide)) hf_o172
        refine va_get (D := (dC, dI)) (ci := 12) (v := .ref (ρ h0 42)) (C := RX12) (T := TX12) (N := 53) hx hb hts hfX12 hown hK hP q173 eq173 rfl 42 (by decide) (hts (.fieldLink RX12 64 "ColdShipsModel" "line" "[I") wa_166) (fun _ h9 => h9) rfl dX12_findSet_80 ?_
        refine lv_aload_n hx hb dX12_findSet_83 rfl (lv_at hl 6 rfl) ?_
        refine va_get (D := (dC, dI)) (ci := 12) (v := .ref (ρ h0 46)) (C := RX12) (T := TX12) (N := 53) hx hb hts hfX12 hown hK hP q173 eq173 rfl 46 (by decide) (hts (.fieldLink RX12 76 "ColdShipsModel" "places" "[I") wa_170) (fun _ h9 => h9) rfl dX12_findSet_84 ?_
        refine lv_iload hx hb dX12_findSet_87 (lv_at hl 0 rfl) ?_
        obtain ⟨q174, eq174⟩ := tp_pos (tp_in hG y21 (by decide)) hk96k
        refine va_iald hx hb hK hP q174 0 eq174 rfl (vp_in_iff.mpr ⟨by omega, by omega⟩) dX12_findSet_89 ?_
        refine lv_topi (fun z175 ez175 => ?_)
        have jz175 : z175.toInt = mo_R g64 w91.toInt := mo_rd ez175 (by omega)
        refine lv_aload_n hx hb dX12_findSet_90 rfl (lv_at hl 6 rfl) ?_
        refine va_get (D := (dC, dI)) (ci := 12) (v := .ref (ρ h0 45)) (C := RX12) (T := TX12) (N := 53) hx hb hts hfX12 hown hK hP q173 eq173 rfl 45 (by decide) (hts (.fieldLink RX12 73 "ColdShipsModel" "members" "[I") wa_169) (fun _ h9 => h9) rfl dX12_findSet_91 ?_
        refine lv_iload hx hb dX12_findSet_94 (lv_at hl 0 rfl) ?_
        obtain ⟨q176, eq176⟩ := tp_pos (tp_in hG y20 (by decide)) hk95k
        refine va_iald hx hb hK hP q176 0 eq176 rfl (vp_in_iff.mpr ⟨by omega, by omega⟩) dX12_findSet_96 ?_
        refine lv_topi (fun z177 ez177 => ?_)
        have jz177 : z177.toInt = mo_R g47 w91.toInt := mo_rd ez177 (by omega)
        obtain ⟨q178, eq178⟩ := tp_pos (tp_in hG y17 (by decide)) hf_o104
        refine va_iast hx hb hK hP hD hS q178 0 eq178 rfl (vp_in_iff.mpr ⟨by omega, by omega⟩) dX12_findSet_97 (tp_k (.inl (κ 0, 6, .inl (upd g105 z175.toNatClampNeg z177))) hD (tp_in hG y17 (by decide)) eq178 (fun f179 H locs hP hD hS g181 k180 => ?_))
        have hT := hT.up y17 g181 k180 tp_o72
        have hR := hR.up y17 (by decide) k180
        have hU183 : mo_U (mo_R g105) (mo_R (upd g105 z175.toNatClampNeg z177)) (z175.toInt) (z177.toInt) := mo_up (by omega) (rfl : z177.toInt = _) (by omega)
        generalize (upd g105 z175.toNatClampNeg z177) = g182 at g181 hU183
        refine lv_iload hx hb dX12_findSet_98 (lv_at hl 1 rfl) ?_
        refine lv_aload_n hx hb dX12_findSet_100 rfl (lv_at hl 6 rfl) ?_
        have hf_184 : f179 h0 = .inr (12, [.int o172_x0, .int o172_x1, .ref (ρ h0 2), .ref (ρ h0 3), .ref (ρ h0 4), .ref (ρ h0 5), .ref (ρ h0 6), .int o172_x7, .ref (ρ h0 8), .int o172_x9, .int o172_x10, .int o172_x11, .int o172_x12, .long o172_x13, .int o172_x14, .int o172_x15, .int o172_x16, .int o172_x17, .int o172_x18, .int o172_x19, .int o172_x20, .ref (ρ h0 21), .int o172_x22, .ref (ρ h0 23), .ref (ρ h0 24), .int o172_x25, .ref (ρ h0 26), .ref (ρ h0 27), .int o172_x28, .int o172_x29, .ref (ρ h0 30), .ref (ρ h0 31), .int o172_x32, .long o172_x33, .long o172_x34, .long o172_x35, .int o172_x36, .int o172_x37, .int o172_x38, .ref (ρ h0 39), .ref (ρ h0 40), .ref (ρ h0 41), .ref (ρ h0 42), .ref (ρ h0 43), .ref (ρ h0 44), .ref (ρ h0 45), .ref (ρ h0 46), .int o172_x47, .int o172_x48, .ref (ρ h0 49), .ref (ρ h0 50), .ref (ρ h0 51), .ref (ρ h0 52)]) := (k180 _ (tp_ne ht_h0 y17 (by decide))).trans hf_o172
        obtain ⟨q185, eq185⟩ := tp_pos (tp_in hG ht_h0 (by decide)) hf_184
        refine va_get (D := (dC, dI)) (ci := 12) (v := .ref (ρ h0 46)) (C := RX12) (T := TX12) (N := 53) hx hb hts hfX12 hown hK hP q185 eq185 rfl 46 (by decide) (hts (.fieldLink RX12 76 "ColdShipsModel" "places" "[I") wa_170) (fun _ h9 => h9) rfl dX12_findSet_101 ?_
        refine lv_iload hx hb dX12_findSet_104 (lv_at hl 0 rfl) ?_
        have hf_186 : f179 (ρ h0 46) = .inl (κ 0, 6, .inl g64) := (k180 _ (tp_ne y21 y17 (by decide))).trans hk96k
        obtain ⟨q187, eq187⟩ := tp_pos (tp_in hG y21 (by decide)) hf_186
        refine va_iald hx hb hK hP q187 0 eq187 rfl (vp_in_iff.mpr ⟨by omega, by omega⟩) dX12_findSet_106 ?_
        refine lv_topi (fun z188 ez188 => ?_)
        have jz188 : z188.toInt = mo_R g64 w91.toInt := mo_rd ez188 (by omega)
        refine lv_iconst (v := 3) hx hb dX12_findSet_107 (by decide) ?_
        refine lv_aload_n hx hb dX12_findSet_108 rfl (lv_at hl 6 rfl) ?_
        refine va_get (D := (dC, dI)) (ci := 12) (v := .ref (ρ h0 45)) (C := RX12) (T := TX12) (N := 53) hx hb hts hfX12 hown hK hP q185 eq185 rfl 45 (by decide) (hts (.fieldLink RX12 73 "ColdShipsModel" "members" "[I") wa_169) (fun _ h9 => h9) rfl dX12_findSet_109 ?_
        refine lv_iload hx hb dX12_findSet_112 (lv_at hl 0 rfl) ?_
        have hf_189 : f179 (ρ h0 45) = .inl (κ 0, 6, .inl g47) := (k180 _ (tp_ne y20 y17 (by decide))).trans hk95k
        obtain ⟨q190, eq190⟩ := tp_pos (tp_in hG y20 (by decide)) hf_189
        refine va_iald hx hb hK hP q190 0 eq190 rfl (vp_in_iff.mpr ⟨by omega, by omega⟩) dX12_findSet_114 ?_
        refine lv_topi (fun z191 ez191 => ?_)
        have jz191 : z191.toInt = mo_R g47 w91.toInt := mo_rd ez191 (by omega)
        refine lv_imul hx hb dX12_findSet_115 ?_
        refine lv_topi (fun z192 ez192 => ?_)
        have iz192 : z192.toInt = 3 * z191.toInt := zi_mul ez192 rfl rfl (by omega) (by omega)
        refine lv_ishl hx hb dX12_findSet_116 ?_
        refine lv_topi (fun z193 ez193 => ?_)
        refine lv_ior hx hb dX12_findSet_117 ?_
        refine lv_topi (fun z194 ez194 => ?_)
        have hfree := jf103.free hMB (by omega) (by omega)
        have hcd := jf103.1
        have hcode : z194.toInt = w92.toInt + (mo_R g64) w91.toInt * mo_p8 ((mo_R g47) w91.toInt) := by rw [zb_cd (M := z191.toInt) ez193 ez194 (by omega) (by omega) (by omega) (by omega) (by omega) (by omega) (by omega) (by rw [jz191]; exact hfree), jz188, jz191]
        have hcz := (mo_pl_add (x := w92.toInt) (p := (mo_R g64) w91.toInt) (m := (mo_R g47) w91.toInt) (c := 0) (by omega) (by omega) (by omega) (by omega) (by omega) (by omega) (by omega) (by omega) hfree).2.2
        rw [← hcode] at hcz
        refine lv_istore (lv' := [(9, .int z194), (10, .int w91), (8, .int w51), (7, .int w52), (5, .long w53), (4, .int w33), (0, .ref h0), (1, .int v), (2, .int u), (3, .int a)]) hx hb dX12_findSet_118 hl (by decide) rfl (fun ls hl => ?_)
        obtain ⟨z195, ez195⟩ : ∃ y : Int32, y = w91 + 1 := ⟨_, rfl⟩
        refine lv_iinc (v := z195) (lv' := [(10, .int z195), (9, .int z194), (8, .int w51), (7, .int w52), (5, .long w53), (4, .int w33), (0, .ref h0), (1, .int v), (2, .int u), (3, .int a)]) hx hb dX12_findSet_120 hl (k := 1) rfl (by rw [ez195]; rfl) (by decide) rfl (fun ls hl => ?_)
        have iz195 : z195.toInt = w91.toInt + 1 := zi_add ez195 rfl rfl (by omega) (by omega)
        refine lv_goto (tgt := 72) hx hb dX12_findSet_123 (by decide) ?_
        have hf_196 : f179 (ρ h0 2) = .inl (κ 0, 12967, .inl g27) := (k180 _ (tp_ne y1 y17 (by decide))).trans hk94k
        exact ih101 _ _ _ _ (by rw [hn102]; omega) ⟨f179, z195, z194, rfl, hT, hR, hf_196, hf_189, hf_186, (by simp only [g181, mo_i1, mo_l1]; exact (show mo_LC (mo_R g64) (mo_R g47) (mo_R g182) (z194.toInt) (z195.toInt) from jf103.up hPM hMB (by omega) (by omega) hU183 (by omega) (by omega) hcode (by omega))), (by omega), (by omega), (by omega), hP, hD, hS, lv_sub hl [0, 1, 2, 3, 4, 5, 6, 7, 8, 9] rfl⟩
  · have ic50 : w32.toInt < 6 := zi_gef rfl rfl c50
    refine lv_iload_n hx hb dX12_findSet_13 rfl (lv_at hl 4 rfl) ?_
    refine lv_iload hx hb dX12_findSet_14 (lv_at hl 0 rfl) ?_
    refine lv_ishr hx hb dX12_findSet_16 ?_
    refine lv_topi (fun z197 ez197 => ?_)
    refine lv_iconst (v := 1) hx hb dX12_findSet_17 (by decide) ?_
    refine lv_iand hx hb dX12_findSet_18 ?_
    refine lv_topi (fun z198 ez198 => ?_)
    have iz198 : 0 ≤ z198.toInt ∧ z198.toInt ≤ 1 := zb_mask ez198 (by decide)
    refine lv_iconst (v := 1) hx hb dX12_findSet_19 (by decide) ?_
    have hbt := zb_bt ez197 ez198 (by omega) (by omega) (by omega) (by omega)
    refine lv_icmp_ne (tgt := 44) hx hb dX12_findSet_20 (by decide) (fun c199 => ?_) (fun c199 => ?_)
    · have ic199 : z198.toInt ≠ 1 := zi_ne rfl rfl c199
      obtain ⟨z200, ez200⟩ : ∃ y : Int32, y = w32 + 1 := ⟨_, rfl⟩
      refine lv_iinc (v := z200) (lv' := [(5, .int z200), (4, .int w33), (0, .ref h0), (1, .int v), (2, .int u), (3, .int a)]) hx hb dX12_findSet_44 hl (k := 0) rfl (by rw [ez200]; rfl) (by decide) rfl (fun ls hl => ?_)
      have iz200 : z200.toInt = w32.toInt + 1 := zi_add ez200 rfl rfl (by omega) (by omega)
      refine lv_goto (tgt := 6) hx hb dX12_findSet_47 (by decide) ?_
      exact ih42 _ _ _ _ (by rw [hn43]; omega) ⟨f40, z200, w33, rfl, hT, hR, hk35k, (by simp only [hf_o46, mo_i1, mo_l1]; exact (show mo_MB (mo_R g47) u.toInt (w33.toInt) (z200.toInt) from mo_MB.no jf44 (hbt.2 (by omega)) (by omega) _ (by omega))), (by simp only [hf_o48, mo_i1, mo_l1]; exact (show ∀ i, 0 ≤ i → i < (w33.toInt) → (mo_R g49) i = i from (fun i i0 i1 => jf45 i i0 (by omega)))), (by omega), (by omega), (by omega), hP, hD, hS, lv_sub hl [0, 1, 2, 3, 4, 5] rfl⟩
    · have ic199 : z198.toInt = 1 := zi_nef rfl rfl c199
      refine lv_aload_n hx hb dX12_findSet_23 rfl (lv_at hl 2 rfl) ?_
      obtain ⟨o201_x0, o201_x1, o201_x7, o201_x9, o201_x10, o201_x11, o201_x12, o201_x13, o201_x14, o201_x15, o201_x16, o201_x17, o201_x18, o201_x19, o201_x20, o201_x22, o201_x25, o201_x28, o201_x29, o201_x32, o201_x33, o201_x34, o201_x35, o201_x36, o201_x37, o201_x38, o201_x47, o201_x48, hf_o201, ro201_0, ro201_1, ro201_2, ro201_3, ro201_4, ro201_5, ro201_6, ro201_7, ro201_8, ro201_9, ro201_10, ro201_11, ro201_12, ro201_13⟩ := tpo_13 hT ht_h0
      obtain ⟨q202, eq202⟩ := tp_pos (tp_in hG ht_h0 (by decide)) hf_o201
      refine va_get (D := (dC, dI)) (ci := 12) (v := .ref (ρ h0 45)) (C := RX12) (T := TX12) (N := 53) hx hb hts hfX12 hown hK hP q202 eq202 rfl 45 (by decide) (hts (.fieldLink RX12 73 "ColdShipsModel" "members" "[I") wa_169) (fun _ h9 => h9) rfl dX12_findSet_24 ?_
      refine lv_iload hx hb dX12_findSet_27 (lv_at hl 1 rfl) ?_
      refine lv_iload hx hb dX12_findSet_29 (lv_at hl 0 rfl) ?_
      obtain ⟨q203, eq203⟩ := tp_pos (tp_in hG y20 (by decide)) hf_o46
      refine va_iast hx hb hK hP hD hS q203 0 eq203 rfl (vp_in_iff.mpr ⟨by omega, by omega⟩) dX12_findSet_31 (tp_k (.inl (κ 0, 6, .inl (upd g47 w33.toNatClampNeg w32))) hD (tp_in hG y20 (by decide)) eq203 (fun f204 H locs hP hD hS g206 k205 => ?_))
      have hT := hT.up y20 g206 k205 tp_o75
      have hR := hR.up y20 (by decide) k205
      have hU208 : mo_U (mo_R g47) (mo_R (upd g47 w33.toNatClampNeg w32)) (w33.toInt) (w32.toInt) := mo_up (by omega) (rfl : w32.toInt = _) (by omega)
      generalize (upd g47 w33.toNatClampNeg w32) = g207 at g206 hU208
      have hU208e := hU208.eq (by omega)
      refine lv_aload_n hx hb dX12_findSet_32 rfl (lv_at hl 2 rfl) ?_
      have hf_209 : f204 h0 = .inr (12, [.int o201_x0, .int o201_x1, .ref (ρ h0 2), .ref (ρ h0 3), .ref (ρ h0 4), .ref (ρ h0 5), .ref (ρ h0 6), .int o201_x7, .ref (ρ h0 8), .int o201_x9, .int o201_x10, .int o201_x11, .int o201_x12, .long o201_x13, .int o201_x14, .int o201_x15, .int o201_x16, .int o201_x17, .int o201_x18, .int o201_x19, .int o201_x20, .ref (ρ h0 21), .int o201_x22, .ref (ρ h0 23), .ref (ρ h0 24), .int o201_x25, .ref (ρ h0 26), .ref (ρ h0 27), .int o201_x28, .int o201_x29, .ref (ρ h0 30), .ref (ρ h0 31), .int o201_x32, .long o201_x33, .long o201_x34, .long o201_x35, .int o201_x36, .int o201_x37, .int o201_x38, .ref (ρ h0 39), .ref (ρ h0 40), .ref (ρ h0 41), .ref (ρ h0 42), .ref (ρ h0 43), .ref (ρ h0 44), .ref (ρ h0 45), .ref (ρ h0 46), .int o201_x47, .int o201_x48, .ref (ρ h0 49), .ref (ρ h0 50), .ref (ρ h0 51), .ref (ρ h0 52)]) := (k205 _ (tp_ne ht_h0 y20 (by decide))).trans hf_o201
      obtain ⟨q210, eq210⟩ := tp_pos (tp_in hG ht_h0 (by decide)) hf_209
      refine va_get (D := (dC, dI)) (ci := 12) (v := .ref (ρ h0 46)) (C := RX12) (T := TX12) (N := 53) hx hb hts hfX12 hown hK hP q210 eq210 rfl 46 (by decide) (hts (.fieldLink RX12 76 "ColdShipsModel" "places" "[I") wa_170) (fun _ h9 => h9) rfl dX12_findSet_33 ?_
      refine lv_iload hx hb dX12_findSet_36 (lv_at hl 1 rfl) ?_
      refine lv_iload hx hb dX12_findSet_38 (lv_at hl 1 rfl) ?_
      have hf_211 : f204 (ρ h0 46) = .inl (κ 0, 6, .inl g49) := (k205 _ (tp_ne y21 y20 (by decide))).trans hf_o48
      obtain ⟨q212, eq212⟩ := tp_pos (tp_in hG y21 (by decide)) hf_211
      refine va_iast hx hb hK hP hD hS q212 0 eq212 rfl (vp_in_iff.mpr ⟨by omega, by omega⟩) dX12_findSet_40 (tp_k (.inl (κ 0, 6, .inl (upd g49 w33.toNatClampNeg w33))) hD (tp_in hG y21 (by decide)) eq212 (fun f213 H locs hP hD hS g215 k214 => ?_))
      have hT := hT.up y21 g215 k214 tp_o76
      have hR := hR.up y21 (by decide) k214
      have hU217 : mo_U (mo_R g49) (mo_R (upd g49 w33.toNatClampNeg w33)) (w33.toInt) (w33.toInt) := mo_up (by omega) (rfl : w33.toInt = _) (by omega)
      generalize (upd g49 w33.toNatClampNeg w33) = g216 at g215 hU217
      have hU217e := hU217.eq (by omega)
      obtain ⟨z218, ez218⟩ : ∃ y : Int32, y = w33 + 1 := ⟨_, rfl⟩
      refine lv_iinc (v := z218) (lv' := [(4, .int z218), (5, .int w32), (0, .ref h0), (1, .int v), (2, .int u), (3, .int a)]) hx hb dX12_findSet_41 hl (k := 1) rfl (by rw [ez218]; rfl) (by decide) rfl (fun ls hl => ?_)
      have iz218 : z218.toInt = w33.toInt + 1 := zi_add ez218 rfl rfl (by omega) (by omega)
      obtain ⟨z219, ez219⟩ : ∃ y : Int32, y = w32 + 1 := ⟨_, rfl⟩
      refine lv_iinc (v := z219) (lv' := [(5, .int z219), (4, .int z218), (0, .ref h0), (1, .int v), (2, .int u), (3, .int a)]) hx hb dX12_findSet_44 hl (k := 1) rfl (by rw [ez219]; rfl) (by decide) rfl (fun ls hl => ?_)
      have iz219 : z219.toInt = w32.toInt + 1 := zi_add ez219 rfl rfl (by omega) (by omega)
      refine lv_goto (tgt := 6) hx hb dX12_findSet_47 (by decide) ?_
      have hf_220 : f213 (ρ h0 45) = .inl (κ 0, 6, .inl g207) := (k214 _ (tp_ne y20 y21 (by decide))).trans g206
      have hf_221 : f204 (ρ h0 2) = .inl (κ 0, 12967, .inl g27) := (k205 _ (tp_ne y1 y20 (by decide))).trans hk35k
      have hf_222 : f213 (ρ h0 2) = .inl (κ 0, 12967, .inl g27) := (k214 _ (tp_ne y1 y21 (by decide))).trans hf_221
      exact ih42 _ _ _ _ (by rw [hn43]; omega) ⟨f213, z219, z218, rfl, hT, hR, hf_222, (by simp only [hf_220, mo_i1, mo_l1]; exact (show mo_MB (mo_R g207) u.toInt (z218.toInt) (z219.toInt) from mo_MB.yes jf44 hU208 (by omega) (by omega) (hbt.1 (by omega)) _ _ (by omega) (by omega))), (by simp only [g215, mo_i1, mo_l1]; exact (show ∀ i, 0 ≤ i → i < (z218.toInt) → (mo_R g216) i = i from (fun i i0 i1 => by rcases hU217.at i i0 with ⟨z0, a0⟩ | ⟨z0, a0⟩ <;> first | (rw [a0]; omega) | (rw [a0]; exact jf45 i i0 (by omega))))), (by omega), (by omega), (by omega), hP, hD, hS, lv_sub hl [0, 1, 2, 3, 4, 5] rfl⟩

set_option maxHeartbeats 4000000 in
set_option maxRecDepth 100000 in
theorem t_X12_findSet (l : Launch) (dC : Nat → ClassId) (dI : Nat → Nat → Nat) (sz : Nat) (κ : Nat → ClassId) (τ ν : Nat → Nat) (ρ : Nat → Nat → Nat) (L : List Nat) (f : Nat → va_E) (hG : tp_G τ ν ρ L) (hT : tp_T (mo_O κ) κ τ ν ρ f) (h0 : Nat) (v : Int32) (u : Int32) (a : Int32) (x : Int) (b : Int) (ht_h0 : τ h0 = 13) (hbb : 0 ≤ b ∧ b ≤ 1000) (hJ : mo_RI x b (mo_R (mo_i (f (ρ h0 2))))) (hv1 : 0 ≤ v.toInt ∧ v.toInt < (mo_R (mo_i (f (ρ h0 2)))) (1)) (hv2 : v.toInt ≤ 2) (hu1 : 0 ≤ u.toInt) (hu2 : u.toInt < mo_P2 ((mo_R (mo_i (f (ρ h0 2)))) 10)) : Met l yX12_findSet wqX12_findSet ({ frames := 8, cells := 0, slots := 0, locals := 2800 }) (va_Pc [.ref h0, .int v, .int u, .int a] (pz_B dC dI (tp_K κ) (va_pl L f) sz)) (va_Qv (fun (f1 : Nat → va_E) => tp_T (mo_O κ) κ τ ν ρ f1 ∧ tp_F τ [13, 69, 70, 71, 72, 73, 74, 75, 76] f f1 ∧ ∃ m9 t9 : Int, mo_U (mo_RL (mo_l (f (ρ h0 43)))) (mo_RL (mo_l (f1 (ρ h0 43)))) (64 * v.toInt + u.toInt) m9 ∧ mo_U (mo_R (mo_i (f (ρ h0 44)))) (mo_R (mo_i (f1 (ρ h0 44)))) (64 * v.toInt + u.toInt) t9 ∧ (m9 ≠ -2000000000000000 → mo_GD t9 u.toInt) ∧ (u.toInt = 0 → m9 = 0)) (fun (f1 : Nat → va_E) (t : State) => pz_E dC dI (tp_K κ) (va_A (va_pl L f) sz) (va_pl L f1) t) (va_A (va_pl L f) sz)) 0 0 (va_A (va_pl L f) sz) := by
  refine Met.ofW (cc := cX12_findSet) (maxL := 12) (ret := none) (by decide) rfl ?_
  intro p e s m args below meth c s₁ B hml hv
  obtain ⟨rfl, hsz, hP, hK, hD0, hN⟩ := hv
  have hx := B.exec
  have hb := B.bytes
  have hr := B.returns
  have hts := fun (w : Cond) (h : w ∈ WALL) => atoms_spec (ws := wqX12_findSet) B.pre w (List.mem_cons_of_mem _ h)
  have hown : s.vm.findClass RX12 = some m.cls := findClass_of_methodNamed B.named
  have hlocks := B.notSynchronized
  subst hsz
  have hD := hD0.self (sz := s.heap.size)
  generalize hAe : va_A (va_pl L f) s.heap.size = A at hD ⊢
  have hA : ∀ q : Nat, s.heap.size ≤ q → A q := fun q h => by rw [← hAe]; exact Or.inr h
  have hS : va_S A s.heap s.heap [] := va_S.rf
  have hR : tp_F τ [13, 69, 70, 71, 72, 73, 74, 75, 76] f f := tp_F.rf
  have hl := lv_entry ([.ref h0, .int v, .int u, .int a]) (n := 12) (Nat.le_of_ble_eq_true rfl)
  rw [lg_entry_eq]
  generalize (lg_sl ([.ref h0, .int v, .int u, .int a]) ++ List.replicate (12 - (lg_sl ([.ref h0, .int v, .int u, .int a])).length) Slot.unset).toArray = ls at hl ⊢
  have hl : lv_has ls 12 [(0, .ref h0), (1, .int v), (2, .int u), (3, .int a)] := hl
  obtain ⟨y1, y2, y3, y4, y5, y6, y7, y8, y9, y10, y11, y12, y13, y14, y15, y16, y17, y18, y19, y20, y21, y22, y23, y24, y25⟩ := tpg_13 hG ht_h0
  obtain ⟨g27, hf_o26⟩ := tpo_32 hT y1
  have hI : mo_RI x b (mo_R g27) := by have q9 := hJ; rw [hf_o26, mo_i1] at q9; exact q9
  rw [hf_o26, mo_i1] at hv1
  rw [hf_o26, mo_i1] at hu2
  obtain ⟨g29, hf_o28⟩ := tpo_74 hT y19
  have tf30 : mo_i (f (ρ h0 44)) = g29 := tfa_i hf_o28
  obtain ⟨g32, hf_o31⟩ := tpo_73 hT y18
  have tf33 : mo_l (f (ρ h0 43)) = g32 := tfa_l hf_o31
  have := hI.k1; have hk10 := hI.k10
  have hP2 := mo_P2_le (mo_R g27 10)
  refine lv_iconst (v := 0) hx hb dX12_findSet_0 (by decide) ?_
  refine lv_istore (lv' := [(4, .int 0), (0, .ref h0), (1, .int v), (2, .int u), (3, .int a)]) hx hb dX12_findSet_1 hl (by decide) rfl (fun ls hl => ?_)
  refine lv_iconst (v := 0) hx hb dX12_findSet_3 (by decide) ?_
  refine lv_istore (lv' := [(5, .int 0), (4, .int 0), (0, .ref h0), (1, .int v), (2, .int u), (3, .int a)]) hx hb dX12_findSet_4 hl (by decide) rfl (fun ls hl => ?_)
  obtain ⟨g39, hf_o38⟩ := tpo_75 hT y20
  have tf40 : mo_i (f (ρ h0 45)) = g39 := tfa_i hf_o38
  obtain ⟨g42, hf_o41⟩ := tpo_76 hT y21
  have tf43 : mo_i (f (ρ h0 46)) = g42 := tfa_i hf_o41
  refine pz_loop (fun n0 H locs ls => ∃ f44 : Nat → va_E, ∃ w34 : Int32, ∃ w35 : Int32, n0 = (6 - (w34.toInt)).toNat ∧ tp_T (mo_O κ) κ τ ν ρ f44 ∧ tp_F τ [13, 69, 70, 71, 72, 73, 74, 75, 76] f f44 ∧ f44 (ρ h0 2) = .inl (κ 0, 12967, .inl g27) ∧ ((mo_MB (mo_R (mo_i (f44 (ρ h0 45)))) u.toInt (w35.toInt) (w34.toInt))) ∧ ((∀ i, 0 ≤ i → i < (w35.toInt) → (mo_R (mo_i (f44 (ρ h0 46)))) i = i)) ∧ (0 ≤ w34.toInt ∧ w34.toInt ≤ 6) ∧ (0 ≤ w35.toInt ∧ w35.toInt ≤ 6) ∧ ((w35.toInt) ≤ (w34.toInt)) ∧ va_P (dC, dI) vwCl (va_pl L f44) H ∧ va_D A (va_pl L f44) ∧ va_S A s.heap H locs ∧ lv_has ls 12 [(5, .int w34), (4, .int w35), (0, .ref h0), (1, .int v), (2, .int u), (3, .int a)]) ?_ _ _ _ _ ⟨f, 0, 0, rfl, hT, hR, hf_o26, (by first | (simp only [tf40, mo_i1, mo_l1]; exact (show mo_MB (mo_R g39) u.toInt (0 : Int32).toInt (0 : Int32).toInt from mo_MB.rf _ _ (by decide) (by decide))) | (rw [tf40]; exact (show mo_MB (mo_R g39) u.toInt (0 : Int32).toInt (0 : Int32).toInt from mo_MB.rf _ _ (by decide) (by decide)))), (by first | (simp only [tf43, mo_i1, mo_l1]; exact (show ∀ i, 0 ≤ i → i < (0 : Int32).toInt → (mo_R g42) i = i from (fun i i0 i1 => absurd i1 (by have : (0 : Int32).toInt = 0 := rfl; omega)))) | (rw [tf43]; exact (show ∀ i, 0 ≤ i → i < (0 : Int32).toInt → (mo_R g42) i = i from (fun i i0 i1 => absurd i1 (by have : (0 : Int32).toInt = 0 := rfl; omega))))), (by have : (0 : Int32).toInt = 0 := rfl; have : (0 : Int32).toInt = 0 := rfl; omega), (by have : (0 : Int32).toInt = 0 := rfl; have : (0 : Int32).toInt = 0 := rfl; omega), (by have : (0 : Int32).toInt = 0 := rfl; have : (0 : Int32).toInt = 0 := rfl; omega), hP, hD, hS, lv_sub hl [0, 1, 2, 3, 4, 5] rfl⟩
  intro n0 H locs ls hI ih46
  obtain ⟨f44, w34, w35, hn47, hT, hR, hk37k, jf48, jf49, rw34, rw35, k36, hP, hD, hS, hl⟩ := hI
  obtain ⟨g51, hf_o50⟩ := tpo_75 hT y20
  have tf52 : mo_i (f44 (ρ h0 45)) = g51 := tfa_i hf_o50
  have jf48 : mo_MB (mo_R g51) u.toInt (w35.toInt) (w34.toInt) := by have q9 := jf48; first | (simp only [tf52, mo_i1, mo_l1] at q9; exact q9) | (rw [tf52] at q9; exact q9)
  obtain ⟨g54, hf_o53⟩ := tpo_76 hT y21
  have tf55 : mo_i (f44 (ρ h0 46)) = g54 := tfa_i hf_o53
  have jf49 : ∀ i, 0 ≤ i → i < (w35.toInt) → (mo_R g54) i = i := by have q9 := jf49; first | (simp only [tf55, mo_i1, mo_l1] at q9; exact q9) | (rw [tf55] at q9; exact q9)
  refine lv_iload hx hb dX12_findSet_6 (lv_at hl 0 rfl) ?_
  refine lv_bipush (v := 6) hx hb dX12_findSet_8 (by decide) ?_
  refine lv_icmp_ge (tgt := 50) hx hb dX12_findSet_10 (by decide) (fun c56 => ?_) (fun c56 => ?_)
  · have ic56 : w34.toInt ≥ 6 := zi_ge rfl rfl c56
    have hMB : mo_MB (mo_R g51) u.toInt w35.toInt 6 := by have q9 := jf48; rw [show w34.toInt = 6 by omega] at q9; exact q9
    have hPM := mo_PM.id jf49
    have hPMb := hPM.bd (by omega) (by omega)
    refine lv_ldc2 (own := RX12) (v := (-2000000000000000)) hx hb hown (hts (.constantLong RX12 466 (-2000000000000000)) wa_1189) dX12_findSet_50 ?_
    refine lv_lstore (lv' := [(5, .long (-2000000000000000)), (4, .int w35), (0, .ref h0), (1, .int v), (2, .int u), (3, .int a)]) hx hb dX12_findSet_53 hl (by decide) rfl (fun ls hl => ?_)
    refine lv_iconst (v := 0) hx hb dX12_findSet_55 (by decide) ?_
    refine lv_istore (lv' := [(7, .int 0), (5, .long (-2000000000000000)), (4, .int w35), (0, .ref h0), (1, .int v), (2, .int u), (3, .int a)]) hx hb dX12_findSet_56 hl (by decide) rfl (fun ls hl => ?_)
    refine lv_iconst (v := 1) hx hb dX12_findSet_58 (by decide) ?_
    refine lv_istore (lv' := [(8, .int 1), (7, .int 0), (5, .long (-2000000000000000)), (4, .int w35), (0, .ref h0), (1, .int v), (2, .int u), (3, .int a)]) hx hb dX12_findSet_59 hl (by decide) rfl (fun ls hl => ?_)
    refine pz_loop (fun n0 H locs ls => ∃ f64 : Nat → va_E, ∃ w57 : Int32, ∃ w58 : Int32, ∃ w59 : Int64, n0 = (46656 - mo_V (mo_R (mo_i (f64 (ρ h0 46)))) w35.toInt.toNat).toNat + ((w57.toInt)).toNat ∧ tp_T (mo_O κ) κ τ ν ρ f64 ∧ tp_F τ [13, 69, 70, 71, 72, 73, 74, 75, 76] f f64 ∧ f64 (ρ h0 2) = .inl (κ 0, 12967, .inl g27) ∧ f64 (ρ h0 45) = .inl (κ 0, 6, .inl g51) ∧ ((mo_PM (mo_R (mo_i (f64 (ρ h0 46)))) w35.toInt)) ∧ (0 ≤ w57.toInt ∧ w57.toInt ≤ 1) ∧ (((w59.toInt) ≠ -2000000000000000 → mo_GD (w58.toInt) u.toInt)) ∧ ((w35.toInt = 0 → (w59.toInt) = 0 ∨ ((w57.toInt) = 1 ∧ (w59.toInt) = -2000000000000000))) ∧ va_P (dC, dI) vwCl (va_pl L f64) H ∧ va_D A (va_pl L f64) ∧ va_S A s.heap H locs ∧ lv_has ls 12 [(8, .int w57), (7, .int w58), (5, .long w59), (4, .int w35), (0, .ref h0), (1, .int v), (2, .int u), (3, .int a)]) ?_ _ _ _ _ ⟨f44, 1, 0, (-2000000000000000), rfl, hT, hR, hk37k, hf_o50, (by first | (simp only [tf55, mo_i1, mo_l1]; exact (show mo_PM (mo_R g54) w35.toInt from hPM)) | (rw [tf55]; exact (show mo_PM (mo_R g54) w35.toInt from hPM))), (by have : (1 : Int32).toInt = 1 := rfl; have : (0 : Int32).toInt = 0 := rfl; have : ((-2000000000000000) : Int64).toInt = (-2000000000000000) := rfl; omega), (fun q9 => absurd (by decide) q9), (fun _ => Or.inr ⟨by decide, by decide⟩), hP, hD, hS, lv_sub hl [0, 1, 2, 3, 4, 5, 6, 7] rfl⟩
    intro n0 H locs ls hI ih66
    obtain ⟨f64, w57, w58, w59, hn67, hT, hR, hk62k, hk63k, jf68, rw57, k60, k61, hP, hD, hS, hl⟩ := hI
    obtain ⟨g70, hf_o69⟩ := tpo_76 hT y21
    have tf71 : mo_i (f64 (ρ h0 46)) = g70 := tfa_i hf_o69
    have jf68 : mo_PM (mo_R g70) w35.toInt := by have q9 := jf68; first | (simp only [tf71, mo_i1, mo_l1] at q9; exact q9) | (rw [tf71] at q9; exact q9)
    have hn67 : n0 = (46656 - mo_V (mo_R g70) w35.toInt.toNat).toNat + ((w57.toInt)).toNat := by have q9 := hn67; first | (simp only [tf71, mo_i1, mo_l1] at q9; exact q9) | (rw [tf71] at q9; exact q9)
    refine lv_iload hx hb dX12_findSet_61 (lv_at hl 0 rfl) ?_
    refine lv_if_eq (tgt := 181) hx hb dX12_findSet_63 (by decide) (fun c72 => ?_) (fun c72 => ?_)
    · have ic72 : w57.toInt = 0 := zi_eq rfl rfl c72
      refine lv_aload_n hx hb dX12_findSet_181 rfl (lv_at hl 4 rfl) ?_
      obtain ⟨o73_x0, o73_x1, o73_x7, o73_x9, o73_x10, o73_x11, o73_x12, o73_x13, o73_x14, o73_x15, o73_x16, o73_x17, o73_x18, o73_x19, o73_x20, o73_x22, o73_x25, o73_x28, o73_x29, o73_x32, o73_x33, o73_x34, o73_x35, o73_x36, o73_x37, o73_x38, o73_x47, o73_x48, hf_o73, ro73_0, ro73_1, ro73_2, ro73_3, ro73_4, ro73_5, ro73_6, ro73_7, ro73_8, ro73_9, ro73_10, ro73_11, ro73_12, ro73_13⟩ := tpo_13 hT ht_h0
      obtain ⟨q74, eq74⟩ := tp_pos (tp_in hG ht_h0 (by decide)) hf_o73
      refine va_get (D := (dC, dI)) (ci := 12) (v := .ref (ρ h0 43)) (C := RX12) (T := TX12) (N := 53) hx hb hts hfX12 hown hK hP q74 eq74 rfl 43 (by decide) (hts (.fieldLink RX12 67 "ColdShipsModel" "bestOf" "[J") wa_167) (fun _ h9 => h9) rfl dX12_findSet_182 ?_
      refine lv_bipush (v := 64) hx hb dX12_findSet_185 (by decide) ?_
      refine lv_iload_n hx hb dX12_findSet_187 rfl (lv_at hl 5 rfl) ?_
      refine lv_imul hx hb dX12_findSet_188 ?_
      refine lv_topi (fun z75 ez75 => ?_)
      have iz75 : z75.toInt = 64 * v.toInt := zi_mul ez75 rfl rfl (by omega) (by omega)
      refine lv_iload_n hx hb dX12_findSet_189 rfl (lv_at hl 6 rfl) ?_
      refine lv_iadd hx hb dX12_findSet_190 ?_
      refine lv_topi (fun z76 ez76 => ?_)
      have iz76 : z76.toInt = z75.toInt + u.toInt := zi_add ez76 rfl rfl (by omega) (by omega)
      refine lv_lload hx hb dX12_findSet_191 (lv_at hl 2 rfl) ?_
      obtain ⟨g78, hf_o77⟩ := tpo_73 hT y18
      obtain ⟨q79, eq79⟩ := tp_pos (tp_in hG y18 (by decide)) hf_o77
      refine va_last hx hb hK hP hD hS q79 1 eq79 rfl (vp_in_iff.mpr ⟨by omega, by omega⟩) dX12_findSet_193 (tp_k (.inl (κ 1, 192, .inr (.inl (vp_updL g78 z76.toNatClampNeg w59)))) hD (tp_in hG y18 (by decide)) eq79 (fun f80 H locs hP hD hS g82 k81 => ?_))
      have hT := hT.up y18 g82 k81 tp_o73
      have hR := hR.up y18 (by decide) k81
      have hU84 : mo_U (mo_RL g78) (mo_RL (vp_updL g78 z76.toNatClampNeg w59)) (64 * v.toInt + u.toInt) (w59.toInt) := mo_upL (by omega) (rfl : w59.toInt = _) (by omega)
      generalize (vp_updL g78 z76.toNatClampNeg w59) = g83 at g82 hU84
      refine lv_aload_n hx hb dX12_findSet_194 rfl (lv_at hl 4 rfl) ?_
      have hf_85 : f80 h0 = .inr (12, [.int o73_x0, .int o73_x1, .ref (ρ h0 2), .ref (ρ h0 3), .ref (ρ h0 4), .ref (ρ h0 5), .ref (ρ h0 6), .int o73_x7, .ref (ρ h0 8), .int o73_x9, .int o73_x10, .int o73_x11, .int o73_x12, .long o73_x13, .int o73_x14, .int o73_x15, .int o73_x16, .int o73_x17, .int o73_x18, .int o73_x19, .int o73_x20, .ref (ρ h0 21), .int o73_x22, .ref (ρ h0 23), .ref (ρ h0 24), .int o73_x25, .ref (ρ h0 26), .ref (ρ h0 27), .int o73_x28, .int o73_x29, .ref (ρ h0 30), .ref (ρ h0 31), .int o73_x32, .long o73_x33, .long o73_x34, .long o73_x35, .int o73_x36, .int o73_x37, .int o73_x38, .ref (ρ h0 39), .ref (ρ h0 40), .ref (ρ h0 41), .ref (ρ h0 42), .ref (ρ h0 43), .ref (ρ h0 44), .ref (ρ h0 45), .ref (ρ h0 46), .int o73_x47, .int o73_x48, .ref (ρ h0 49), .ref (ρ h0 50), .ref (ρ h0 51), .ref (ρ h0 52)]) := (k81 _ (tp_ne ht_h0 y18 (by decide))).trans hf_o73
      obtain ⟨q86, eq86⟩ := tp_pos (tp_in hG ht_h0 (by decide)) hf_85
      refine va_get (D := (dC, dI)) (ci := 12) (v := .ref (ρ h0 44)) (C := RX12) (T := TX12) (N := 53) hx hb hts hfX12 hown hK hP q86 eq86 rfl 44 (by decide) (hts (.fieldLink RX12 70 "ColdShipsModel" "placesOf" "[I") wa_168) (fun _ h9 => h9) rfl dX12_findSet_195 ?_
      refine lv_bipush (v := 64) hx hb dX12_findSet_198 (by decide) ?_
      refine lv_iload_n hx hb dX12_findSet_200 rfl (lv_at hl 5 rfl) ?_
      refine lv_imul hx hb dX12_findSet_201 ?_
      refine lv_topi (fun z87 ez87 => ?_)
      have iz87 : z87.toInt = 64 * v.toInt := zi_mul ez87 rfl rfl (by omega) (by omega)
      refine lv_iload_n hx hb dX12_findSet_202 rfl (lv_at hl 6 rfl) ?_
      refine lv_iadd hx hb dX12_findSet_203 ?_
      refine lv_topi (fun z88 ez88 => ?_)
      have iz88 : z88.toInt = z87.toInt + u.toInt := zi_add ez88 rfl rfl (by omega) (by omega)
      refine lv_iload hx hb dX12_findSet_204 (lv_at hl 1 rfl) ?_
      obtain ⟨g90, hf_o89⟩ := tpo_74 hT y19
      obtain ⟨q91, eq91⟩ := tp_pos (tp_in hG y19 (by decide)) hf_o89
      refine va_iast hx hb hK hP hD hS q91 0 eq91 rfl (vp_in_iff.mpr ⟨by omega, by omega⟩) dX12_findSet_206 (tp_k (.inl (κ 0, 192, .inl (upd g90 z88.toNatClampNeg w58))) hD (tp_in hG y19 (by decide)) eq91 (fun f92 H locs hP hD hS g94 k93 => ?_))
      have hT := hT.up y19 g94 k93 tp_o74
      have hR := hR.up y19 (by decide) k93
      have hU96 : mo_U (mo_R g90) (mo_R (upd g90 z88.toNatClampNeg w58)) (64 * v.toInt + u.toInt) (w58.toInt) := mo_up (by omega) (rfl : w58.toInt = _) (by omega)
      generalize (upd g90 z88.toNatClampNeg w58) = g95 at g94 hU96
      have hf_97 : f92 (ρ h0 43) = .inl (κ 1, 192, .inr (.inl g83)) := (k93 _ (tp_ne y18 y19 (by decide))).trans g82
      have tf98 : mo_l (f92 (ρ h0 43)) = g83 := tfa_l hf_97
      have tf99 : mo_i (f92 (ρ h0 44)) = g95 := tfa_i g94
      exact W.vret hx hb hr (fun t ht hW => ⟨⟨f92, rfl, ⟨hT, hR, (by first | (simp only [tf33, tf98, tf30, tf99, mo_i1, mo_l1]; exact (show ∃ m9 t9 : Int, mo_U (mo_RL g32) (mo_RL g83) (64 * v.toInt + u.toInt) m9 ∧ mo_U (mo_R g29) (mo_R g95) (64 * v.toInt + u.toInt) t9 ∧ (m9 ≠ -2000000000000000 → mo_GD t9 u.toInt) ∧ (u.toInt = 0 → m9 = 0) from ⟨w59.toInt, w58.toInt, hU84, hU96, k60, fun q9 => by have q8 := hMB.zero q9; omega⟩)) | (rw [tf33, tf98, tf30, tf99]; exact (show ∃ m9 t9 : Int, mo_U (mo_RL g32) (mo_RL g83) (64 * v.toInt + u.toInt) m9 ∧ mo_U (mo_R g29) (mo_R g95) (64 * v.toInt + u.toInt) t9 ∧ (m9 ≠ -2000000000000000 → mo_GD t9 u.toInt) ∧ (u.toInt = 0 → m9 = 0) from ⟨w59.toInt, w58.toInt, hU84, hU96, k60, fun q9 => by have q8 := hMB.zero q9; omega⟩)))⟩, by rw [ht]; exact hP, va_K.moved hW.alike hK, hD⟩, hS.F ht⟩) hS.2.2 dX12_findSet_207
    · have ic72 : w57.toInt ≠ 0 := zi_eqf rfl rfl c72
      have hPM := jf68
      have hPMb := hPM.bd (by omega) (by omega)
      refine lv_iconst (v := 0) hx hb dX12_findSet_66 (by decide) ?_
      refine lv_istore (lv' := [(9, .int 0), (8, .int w57), (7, .int w58), (5, .long w59), (4, .int w35), (0, .ref h0), (1, .int v), (2, .int u), (3, .int a)]) hx hb dX12_findSet_67 hl (by decide) rfl (fun ls hl => ?_)
      refine lv_iconst (v := 0) hx hb dX12_findSet_69 (by decide) ?_
      refine lv_istore (lv' := [(10, .int 0), (9, .int 0), (8, .int w57), (7, .int w58), (5, .long w59), (4, .int w35), (0, .ref h0), (1, .int v), (2, .int u), (3, .int a)]) hx hb dX12_findSet_70 hl (by decide) rfl (fun ls hl => ?_)
      have tf100 : mo_i (f64 (ρ h0 45)) = g51 := tfa_i hk63k
      obtain ⟨g108, hf_o107⟩ := tpo_72 hT y17
      have tf109 : mo_i (f64 (ρ h0 42)) = g108 := tfa_i hf_o107
      refine pz_loop (fun n0 H locs ls => ∃ f110 : Nat → va_E, ∃ w101 : Int32, ∃ w102 : Int32, n0 = (6 - (w101.toInt)).toNat ∧ tp_T (mo_O κ) κ τ ν ρ f110 ∧ tp_F τ [13, 69, 70, 71, 72, 73, 74, 75, 76] f f110 ∧ f110 (ρ h0 2) = .inl (κ 0, 12967, .inl g27) ∧ f110 (ρ h0 45) = .inl (κ 0, 6, .inl g51) ∧ f110 (ρ h0 46) = .inl (κ 0, 6, .inl g70) ∧ ((mo_LC (mo_R g70) (mo_R g51) (mo_R (mo_i (f110 (ρ h0 42)))) (w102.toInt) (w101.toInt))) ∧ (0 ≤ w101.toInt ∧ w101.toInt ≤ 6) ∧ (0 ≤ w102.toInt ∧ w102.toInt ≤ 262143) ∧ ((w101.toInt) ≤ w35.toInt) ∧ va_P (dC, dI) vwCl (va_pl L f110) H ∧ va_D A (va_pl L f110) ∧ va_S A s.heap H locs ∧ lv_has ls 12 [(10, .int w101), (9, .int w102), (8, .int w57), (7, .int w58), (5, .long w59), (4, .int w35), (0, .ref h0), (1, .int v), (2, .int u), (3, .int a)]) ?_ _ _ _ _ ⟨f64, 0, 0, rfl, hT, hR, hk62k, hk63k, hf_o69, (by first | (simp only [tf109, mo_i1, mo_l1]; exact (show mo_LC (mo_R g70) (mo_R g51) (mo_R g108) (0 : Int32).toInt (0 : Int32).toInt from mo_LC.rf _ _ _ (by decide) (by decide))) | (rw [tf109]; exact (show mo_LC (mo_R g70) (mo_R g51) (mo_R g108) (0 : Int32).toInt (0 : Int32).toInt from mo_LC.rf _ _ _ (by decide) (by decide)))), (by have : (0 : Int32).toInt = 0 := rfl; have : (0 : Int32).toInt = 0 := rfl; omega), (by have : (0 : Int32).toInt = 0 := rfl; have : (0 : Int32).toInt = 0 := rfl; omega), (by have : (0 : Int32).toInt = 0 := rfl; have : (0 : Int32).toInt = 0 := rfl; omega), hP, hD, hS, lv_sub hl [0, 1, 2, 3, 4, 5, 6, 7, 8, 9] rfl⟩
      intro n0 H locs ls hI ih112
      obtain ⟨f110, w101, w102, hn113, hT, hR, hk104k, hk105k, hk106k, jf114, rw101, rw102, k103, hP, hD, hS, hl⟩ := hI
      obtain ⟨g116, hf_o115⟩ := tpo_72 hT y17
      have tf117 : mo_i (f110 (ρ h0 42)) = g116 := tfa_i hf_o115
      have jf114 : mo_LC (mo_R g70) (mo_R g51) (mo_R g116) (w102.toInt) (w101.toInt) := by have q9 := jf114; first | (simp only [tf117, mo_i1, mo_l1] at q9; exact q9) | (rw [tf117] at q9; exact q9)
      refine lv_iload hx hb dX12_findSet_72 (lv_at hl 0 rfl) ?_
      refine lv_iload hx hb dX12_findSet_74 (lv_at hl 5 rfl) ?_
      refine lv_icmp_ge (tgt := 126) hx hb dX12_findSet_76 (by decide) (fun c118 => ?_) (fun c118 => ?_)
      · have ic118 : w101.toInt ≥ w35.toInt := zi_ge rfl rfl c118
        have hGD := jf114.good (by omega) hPM hMB
        have hLN := jf114.line (by omega) hPM hMB (by omega) hu2 (by omega)
        refine lv_aload_n hx hb dX12_findSet_126 rfl (lv_at hl 6 rfl) ?_
        refine lv_iload_n hx hb dX12_findSet_127 rfl (lv_at hl 7 rfl) ?_
        refine lv_iload hx hb dX12_findSet_128 (lv_at hl 5 rfl) ?_
        refine lv_iload_n hx hb dX12_findSet_130 rfl (lv_at hl 9 rfl) ?_
        obtain ⟨o119_x0, o119_x1, o119_x7, o119_x9, o119_x10, o119_x11, o119_x12, o119_x13, o119_x14, o119_x15, o119_x16, o119_x17, o119_x18, o119_x19, o119_x20, o119_x22, o119_x25, o119_x28, o119_x29, o119_x32, o119_x33, o119_x34, o119_x35, o119_x36, o119_x37, o119_x38, o119_x47, o119_x48, hf_o119, ro119_0, ro119_1, ro119_2, ro119_3, ro119_4, ro119_5, ro119_6, ro119_7, ro119_8, ro119_9, ro119_10, ro119_11, ro119_12, ro119_13⟩ := tpo_13 hT ht_h0
        obtain ⟨q120, eq120⟩ := tp_pos (tp_in hG ht_h0 (by decide)) hf_o119
        have hFc := tp_fr hD hS hA
        refine va_calll (va_runV (As := [.int v, .int w35, .int a]) (rest := []) ⟨hx, hb, hml, hown, hts⟩ (t_X12_sailRow l dC dI _ κ τ ν ρ L f110 hG hT h0 v w35 a x b ht_h0 (by first | decide | omega) (by omega) (by rw [hk104k, mo_i1]; exact hI) (by first | (simp only [hk104k, hf_o26, mo_i1]; omega) | simp only [hk104k, hf_o26, mo_i1] | omega) (by first | (simp only [tf117, hk104k, mo_i1, mo_l1]; exact (show ∀ j, 0 ≤ j → j < w35.toInt → 0 ≤ (mo_R g116) j ∧ (mo_R g116) j < (mo_R g27) 10 from hLN)) | (rw [tf117, hk104k]; exact (show ∀ j, 0 ≤ j → j < w35.toInt → 0 ≤ (mo_R g116) j ∧ (mo_R g116) j < (mo_R g27) 10 from hLN)))) (cwV 3 hts gX12_findSet_X12_sailRow rfl rfl rfl ⟨rfl, pd_X12_sailRow⟩ ⟨Nat.le_of_ble_eq_true rfl, Nat.le_of_ble_eq_true rfl⟩) ⟨pz_blind, va_recv hK hP (ci := 12) (q0 := q120) rfl eq120, pz_pre hP hK hD hN⟩ rfl rfl hl.1 rfl (lv_room (Nat.le_of_ble_eq_true rfl)) dX12_findSet_131 ⟨Nat.le_of_ble_eq_true rfl, Nat.le_of_ble_eq_true rfl⟩) hS (fun q _ h => hFc q h) hFc (fun r121 f123 t H1 locs ht hvm hw122 hB hz1 hk1 hS => ?_)
        obtain ⟨hT, hF124, hw122r, hw122p⟩ := hw122
        have hR := hR.then hF124 (by decide)
        have hP := hB.1; rw [ht] at hP; have hD := tp_ad f123 hD; clear hB hFc hz1 hk1; subst ht; generalize t.heap = H at hP hS ⊢
        refine lv_lstore (lv' := [(10, .long r121), (9, .int w102), (8, .int w57), (7, .int w58), (5, .long w59), (4, .int w35), (0, .ref h0), (1, .int v), (2, .int u), (3, .int a)]) hx hb dX12_findSet_134 hl (by decide) rfl (fun ls hl => ?_)
        refine lv_lload hx hb dX12_findSet_136 (lv_at hl 0 rfl) ?_
        refine lv_lload hx hb dX12_findSet_138 (lv_at hl 4 rfl) ?_
        refine W.lcmp hx hb dX12_findSet_140 ?_
        refine lv_if_le (tgt := 149) hx hb dX12_findSet_141 (by decide) (fun c125 => ?_) (fun c125 => ?_)
        · have ic125 : r121.toInt ≤ w59.toInt := zl_le rfl rfl c125
          refine lv_iload hx hb dX12_findSet_149 (lv_at hl 3 rfl) ?_
          refine lv_istore (lv' := [(7, .int w58), (10, .long r121), (9, .int w102), (8, .int w57), (5, .long w59), (4, .int w35), (0, .ref h0), (1, .int v), (2, .int u), (3, .int a)]) hx hb dX12_findSet_151 hl (by decide) rfl (fun ls hl => ?_)
          refine lv_lload hx hb dX12_findSet_153 (lv_at hl 1 rfl) ?_
          refine lv_lload hx hb dX12_findSet_155 (lv_at hl 4 rfl) ?_
          refine W.lcmp hx hb dX12_findSet_157 ?_
          refine lv_if_le (tgt := 166) hx hb dX12_findSet_158 (by decide) (fun c126 => ?_) (fun c126 => ?_)
          · have ic126 : r121.toInt ≤ w59.toInt := zl_le rfl rfl c126
            refine lv_lload hx hb dX12_findSet_166 (lv_at hl 4 rfl) ?_
            refine lv_lstore (lv' := [(5, .long w59), (7, .int w58), (10, .long r121), (9, .int w102), (8, .int w57), (4, .int w35), (0, .ref h0), (1, .int v), (2, .int u), (3, .int a)]) hx hb dX12_findSet_168 hl (by decide) rfl (fun ls hl => ?_)
            refine lv_aload_n hx hb dX12_findSet_170 rfl (lv_at hl 6 rfl) ?_
            refine lv_iload hx hb dX12_findSet_171 (lv_at hl 5 rfl) ?_
            have hf_127 : f123 (ρ h0 2) = .inl (κ 0, 12967, .inl g27) := (hF124 _ (by rw [y1]; decide)).trans hk104k
            have hf_128 : f123 (ρ h0 46) = .inl (κ 0, 6, .inl g70) := (hF124 _ (by rw [y21]; decide)).trans hk106k
            have tf129 : mo_i (f123 (ρ h0 46)) = g70 := tfa_i hf_128
            obtain ⟨o130_x0, o130_x1, o130_x7, o130_x9, o130_x10, o130_x11, o130_x12, o130_x13, o130_x14, o130_x15, o130_x16, o130_x17, o130_x18, o130_x19, o130_x20, o130_x22, o130_x25, o130_x28, o130_x29, o130_x32, o130_x33, o130_x34, o130_x35, o130_x36, o130_x37, o130_x38, o130_x47, o130_x48, hf_o130, ro130_0, ro130_1, ro130_2, ro130_3, ro130_4, ro130_5, ro130_6, ro130_7, ro130_8, ro130_9, ro130_10, ro130_11, ro130_12, ro130_13⟩ := tpo_13 hT ht_h0
            obtain ⟨q131, eq131⟩ := tp_pos (tp_in hG ht_h0 (by decide)) hf_o130
            have hFc := tp_fr hD hS hA
            refine va_calli (va_runV (As := [.int w35]) (rest := []) ⟨hx, hb, hml, hown, hts⟩ (t_X12_nextPlaces l dC dI _ κ τ ν ρ L f123 hG hT h0 w35 ht_h0 (by first | decide | omega) (by first | (simp only [tf129, mo_i1, mo_l1]; exact (show mo_PM (mo_R g70) w35.toInt from hPM)) | (rw [tf129]; exact (show mo_PM (mo_R g70) w35.toInt from hPM)))) (cwV 1 hts gX12_findSet_X12_nextPlaces rfl rfl rfl ⟨rfl, pd_X12_nextPlaces⟩ ⟨Nat.le_of_ble_eq_true rfl, Nat.le_of_ble_eq_true rfl⟩) ⟨pz_blind, va_recv hK hP (ci := 12) (q0 := q131) rfl eq131, pz_pre hP hK hD hN⟩ rfl rfl hl.1 rfl (lv_room (Nat.le_of_ble_eq_true rfl)) dX12_findSet_173 ⟨Nat.le_of_ble_eq_true rfl, Nat.le_of_ble_eq_true rfl⟩) hS (fun q _ h => hFc q h) hFc (fun r132 f134 t H1 locs ht hvm hw133 hB hz1 hk1 hS => ?_)
            obtain ⟨hT, hF135, hw133r, hw133p⟩ := hw133
            have hR := hR.then hF135 (by decide)
            have hP := hB.1; rw [ht] at hP; have hD := tp_ad f134 hD; clear hB hFc hz1 hk1; subst ht; generalize t.heap = H at hP hS ⊢
            obtain ⟨g137, hf_o136⟩ := tpo_76 hT y21
            have tf138 : mo_i (f134 (ρ h0 46)) = g137 := tfa_i hf_o136
            have tk139 : mo_PM (mo_R g137) w35.toInt ∧ mo_V (mo_R g70) w35.toInt.toNat ≤ mo_V (mo_R g137) w35.toInt.toNat ∧ (r132.toInt ≠ 0 → mo_V (mo_R g70) w35.toInt.toNat < mo_V (mo_R g137) w35.toInt.toNat) := by have q9 := hw133p; first | (simp only [tf138, tf129, mo_i1, mo_l1] at q9; exact q9) | (rw [tf138, tf129] at q9; exact q9)
            have hPM := tk139.1
            have hPMc := hPM.bd (by omega) (by omega)
            have hVm := tk139.2
            refine lv_istore (lv' := [(8, .int r132), (5, .long w59), (7, .int w58), (10, .long r121), (9, .int w102), (4, .int w35), (0, .ref h0), (1, .int v), (2, .int u), (3, .int a)]) hx hb dX12_findSet_176 hl (by decide) rfl (fun ls hl => ?_)
            refine lv_goto (tgt := 61) hx hb dX12_findSet_178 (by decide) ?_
            have hf_140 : f134 (ρ h0 2) = .inl (κ 0, 12967, .inl g27) := (hF135 _ (by rw [y1]; decide)).trans hf_127
            have hf_141 : f123 (ρ h0 45) = .inl (κ 0, 6, .inl g51) := (hF124 _ (by rw [y20]; decide)).trans hk105k
            have hf_142 : f134 (ρ h0 45) = .inl (κ 0, 6, .inl g51) := (hF135 _ (by rw [y20]; decide)).trans hf_141
            exact ih66 _ _ _ _ (by rw [hn67]; first | (simp only [tf138, mo_i1, mo_l1]; exact (show (46656 - mo_V (mo_R g137) w35.toInt.toNat).toNat + ((r132.toInt)).toNat < (46656 - mo_V (mo_R g70) w35.toInt.toNat).toNat + ((w57.toInt)).toNat from by omega)) | (rw [tf138]; exact (show (46656 - mo_V (mo_R g137) w35.toInt.toNat).toNat + ((r132.toInt)).toNat < (46656 - mo_V (mo_R g70) w35.toInt.toNat).toNat + ((w57.toInt)).toNat from by omega))) ⟨f134, r132, w58, w59, rfl, hT, hR, hf_140, hf_142, (by first | (simp only [tf138, mo_i1, mo_l1]; exact (show mo_PM (mo_R g137) w35.toInt from hPM)) | (rw [tf138]; exact (show mo_PM (mo_R g137) w35.toInt from hPM))), (by omega), (by first | exact (fun _ => hGD) | exact k60 | (intro q9; exfalso; omega) | (intro q9; exact k60 (by omega))), (by omega), hP, hD, hS, lv_sub hl [0, 2, 1, 5, 6, 7, 8, 9] rfl⟩
          · have ic126 : r121.toInt > w59.toInt := zl_lef rfl rfl c126
            refine lv_lload hx hb dX12_findSet_161 (lv_at hl 1 rfl) ?_
            refine lv_goto (tgt := 168) hx hb dX12_findSet_163 (by decide) ?_
            refine lv_lstore (lv' := [(5, .long r121), (7, .int w58), (10, .long r121), (9, .int w102), (8, .int w57), (4, .int w35), (0, .ref h0), (1, .int v), (2, .int u), (3, .int a)]) hx hb dX12_findSet_168 hl (by decide) rfl (fun ls hl => ?_)
            refine lv_aload_n hx hb dX12_findSet_170 rfl (lv_at hl 6 rfl) ?_
            refine lv_iload hx hb dX12_findSet_171 (lv_at hl 5 rfl) ?_
            have hf_143 : f123 (ρ h0 2) = .inl (κ 0, 12967, .inl g27) := (hF124 _ (by rw [y1]; decide)).trans hk104k
            have hf_144 : f123 (ρ h0 46) = .inl (κ 0, 6, .inl g70) := (hF124 _ (by rw [y21]; decide)).trans hk106k
            have tf145 : mo_i (f123 (ρ h0 46)) = g70 := tfa_i hf_144
            obtain ⟨o146_x0, o146_x1, o146_x7, o146_x9, o146_x10, o146_x11, o146_x12, o146_x13, o146_x14, o146_x15, o146_x16, o146_x17, o146_x18, o146_x19, o146_x20, o146_x22, o146_x25, o146_x28, o146_x29, o146_x32, o146_x33, o146_x34, o146_x35, o146_x36, o146_x37, o146_x38, o146_x47, o146_x48, hf_o146, ro146_0, ro146_1, ro146_2, ro146_3, ro146_4, ro146_5, ro146_6, ro146_7, ro146_8, ro146_9, ro146_10, ro146_11, ro146_12, ro146_13⟩ := tpo_13 hT ht_h0
            obtain ⟨q147, eq147⟩ := tp_pos (tp_in hG ht_h0 (by decide)) hf_o146
            have hFc := tp_fr hD hS hA
            refine va_calli (va_runV (As := [.int w35]) (rest := []) ⟨hx, hb, hml, hown, hts⟩ (t_X12_nextPlaces l dC dI _ κ τ ν ρ L f123 hG hT h0 w35 ht_h0 (by first | decide | omega) (by first | (simp only [tf145, mo_i1, mo_l1]; exact (show mo_PM (mo_R g70) w35.toInt from hPM)) | (rw [tf145]; exact (show mo_PM (mo_R g70) w35.toInt from hPM)))) (cwV 1 hts gX12_findSet_X12_nextPlaces rfl rfl rfl ⟨rfl, pd_X12_nextPlaces⟩ ⟨Nat.le_of_ble_eq_true rfl, Nat.le_of_ble_eq_true rfl⟩) ⟨pz_blind, va_recv hK hP (ci := 12) (q0 := q147) rfl eq147, pz_pre hP hK hD hN⟩ rfl rfl hl.1 rfl (lv_room (Nat.le_of_ble_eq_true rfl)) dX12_findSet_173 ⟨Nat.le_of_ble_eq_true rfl, Nat.le_of_ble_eq_true rfl⟩) hS (fun q _ h => hFc q h) hFc (fun r148 f150 t H1 locs ht hvm hw149 hB hz1 hk1 hS => ?_)
            obtain ⟨hT, hF151, hw149r, hw149p⟩ := hw149
            have hR := hR.then hF151 (by decide)
            have hP := hB.1; rw [ht] at hP; have hD := tp_ad f150 hD; clear hB hFc hz1 hk1; subst ht; generalize t.heap = H at hP hS ⊢
            obtain ⟨g153, hf_o152⟩ := tpo_76 hT y21
            have tf154 : mo_i (f150 (ρ h0 46)) = g153 := tfa_i hf_o152
            have tk155 : mo_PM (mo_R g153) w35.toInt ∧ mo_V (mo_R g70) w35.toInt.toNat ≤ mo_V (mo_R g153) w35.toInt.toNat ∧ (r148.toInt ≠ 0 → mo_V (mo_R g70) w35.toInt.toNat < mo_V (mo_R g153) w35.toInt.toNat) := by have q9 := hw149p; first | (simp only [tf154, tf145, mo_i1, mo_l1] at q9; exact q9) | (rw [tf154, tf145] at q9; exact q9)
            have hPM := tk155.1
            have hPMc := hPM.bd (by omega) (by omega)
            have hVm := tk155.2
            refine lv_istore (lv' := [(8, .int r148), (5, .long r121), (7, .int w58), (10, .long r121), (9, .int w102), (4, .int w35), (0, .ref h0), (1, .int v), (2, .int u), (3, .int a)]) hx hb dX12_findSet_176 hl (by decide) rfl (fun ls hl => ?_)
            refine lv_goto (tgt := 61) hx hb dX12_findSet_178 (by decide) ?_
            have hf_156 : f150 (ρ h0 2) = .inl (κ 0, 12967, .inl g27) := (hF151 _ (by rw [y1]; decide)).trans hf_143
            have hf_157 : f123 (ρ h0 45) = .inl (κ 0, 6, .inl g51) := (hF124 _ (by rw [y20]; decide)).trans hk105k
            have hf_158 : f150 (ρ h0 45) = .inl (κ 0, 6, .inl g51) := (hF151 _ (by rw [y20]; decide)).trans hf_157
            exact ih66 _ _ _ _ (by rw [hn67]; first | (simp only [tf154, mo_i1, mo_l1]; exact (show (46656 - mo_V (mo_R g153) w35.toInt.toNat).toNat + ((r148.toInt)).toNat < (46656 - mo_V (mo_R g70) w35.toInt.toNat).toNat + ((w57.toInt)).toNat from by omega)) | (rw [tf154]; exact (show (46656 - mo_V (mo_R g153) w35.toInt.toNat).toNat + ((r148.toInt)).toNat < (46656 - mo_V (mo_R g70) w35.toInt.toNat).toNat + ((w57.toInt)).toNat from by omega))) ⟨f150, r148, w58, r121, rfl, hT, hR, hf_156, hf_158, (by first | (simp only [tf154, mo_i1, mo_l1]; exact (show mo_PM (mo_R g153) w35.toInt from hPM)) | (rw [tf154]; exact (show mo_PM (mo_R g153) w35.toInt from hPM))), (by omega), (by first | exact (fun _ => hGD) | exact k60 | (intro q9; exfalso; omega) | (intro q9; exact k60 (by omega))), (by omega), hP, hD, hS, lv_sub hl [0, 2, 1, 5, 6, 7, 8, 9] rfl⟩
        · have ic125 : r121.toInt > w59.toInt := zl_lef rfl rfl c125
          refine lv_iload hx hb dX12_findSet_144 (lv_at hl 1 rfl) ?_
          refine lv_goto (tgt := 151) hx hb dX12_findSet_146 (by decide) ?_
          refine lv_istore (lv' := [(7, .int w102), (10, .long r121), (9, .int w102), (8, .int w57), (5, .long w59), (4, .int w35), (0, .ref h0), (1, .int v), (2, .int u), (3, .int a)]) hx hb dX12_findSet_151 hl (by decide) rfl (fun ls hl => ?_)
          refine lv_lload hx hb dX12_findSet_153 (lv_at hl 1 rfl) ?_
          refine lv_lload hx hb dX12_findSet_155 (lv_at hl 4 rfl) ?_
          refine W.lcmp hx hb dX12_findSet_157 ?_
          refine lv_if_le (tgt := 166) hx hb dX12_findSet_158 (by decide) (fun c159 => ?_) (fun c159 => ?_)
          · have ic159 : r121.toInt ≤ w59.toInt := zl_le rfl rfl c159
            refine lv_lload hx hb dX12_findSet_166 (lv_at hl 4 rfl) ?_
            refine lv_lstore (lv' := [(5, .long w59), (7, .int w102), (10, .long r121), (9, .int w102), (8, .int w57), (4, .int w35), (0, .ref h0), (1, .int v), (2, .int u), (3, .int a)]) hx hb dX12_findSet_168 hl (by decide) rfl (fun ls hl => ?_)
            refine lv_aload_n hx hb dX12_findSet_170 rfl (lv_at hl 6 rfl) ?_
            refine lv_iload hx hb dX12_findSet_171 (lv_at hl 5 rfl) ?_
            have hf_160 : f123 (ρ h0 2) = .inl (κ 0, 12967, .inl g27) := (hF124 _ (by rw [y1]; decide)).trans hk104k
            have hf_161 : f123 (ρ h0 46) = .inl (κ 0, 6, .inl g70) := (hF124 _ (by rw [y21]; decide)).trans hk106k
            have tf162 : mo_i (f123 (ρ h0 46)) = g70 := tfa_i hf_161
            obtain ⟨o163_x0, o163_x1, o163_x7, o163_x9, o163_x10, o163_x11, o163_x12, o163_x13, o163_x14, o163_x15, o163_x16, o163_x17, o163_x18, o163_x19, o163_x20, o163_x22, o163_x25, o163_x28, o163_x29, o163_x32, o163_x33, o163_x34, o163_x35, o163_x36, o163_x37, o163_x38, o163_x47, o163_x48, hf_o163, ro163_0, ro163_1, ro163_2, ro163_3, ro163_4, ro163_5, ro163_6, ro163_7, ro163_8, ro163_9, ro163_10, ro163_11, ro163_12, ro163_13⟩ := tpo_13 hT ht_h0
            obtain ⟨q164, eq164⟩ := tp_pos (tp_in hG ht_h0 (by decide)) hf_o163
            have hFc := tp_fr hD hS hA
            refine va_calli (va_runV (As := [.int w35]) (rest := []) ⟨hx, hb, hml, hown, hts⟩ (t_X12_nextPlaces l dC dI _ κ τ ν ρ L f123 hG hT h0 w35 ht_h0 (by first | decide | omega) (by first | (simp only [tf162, mo_i1, mo_l1]; exact (show mo_PM (mo_R g70) w35.toInt from hPM)) | (rw [tf162]; exact (show mo_PM (mo_R g70) w35.toInt from hPM)))) (cwV 1 hts gX12_findSet_X12_nextPlaces rfl rfl rfl ⟨rfl, pd_X12_nextPlaces⟩ ⟨Nat.le_of_ble_eq_true rfl, Nat.le_of_ble_eq_true rfl⟩) ⟨pz_blind, va_recv hK hP (ci := 12) (q0 := q164) rfl eq164, pz_pre hP hK hD hN⟩ rfl rfl hl.1 rfl (lv_room (Nat.le_of_ble_eq_true rfl)) dX12_findSet_173 ⟨Nat.le_of_ble_eq_true rfl, Nat.le_of_ble_eq_true rfl⟩) hS (fun q _ h => hFc q h) hFc (fun r165 f167 t H1 locs ht hvm hw166 hB hz1 hk1 hS => ?_)
            obtain ⟨hT, hF168, hw166r, hw166p⟩ := hw166
            have hR := hR.then hF168 (by decide)
            have hP := hB.1; rw [ht] at hP; have hD := tp_ad f167 hD; clear hB hFc hz1 hk1; subst ht; generalize t.heap = H at hP hS ⊢
            obtain ⟨g170, hf_o169⟩ := tpo_76 hT y21
            have tf171 : mo_i (f167 (ρ h0 46)) = g170 := tfa_i hf_o169
            have tk172 : mo_PM (mo_R g170) w35.toInt ∧ mo_V (mo_R g70) w35.toInt.toNat ≤ mo_V (mo_R g170) w35.toInt.toNat ∧ (r165.toInt ≠ 0 → mo_V (mo_R g70) w35.toInt.toNat < mo_V (mo_R g170) w35.toInt.toNat) := by have q9 := hw166p; first | (simp only [tf171, tf162, mo_i1, mo_l1] at q9; exact q9) | (rw [tf171, tf162] at q9; exact q9)
            have hPM := tk172.1
            have hPMc := hPM.bd (by omega) (by omega)
            have hVm := tk172.2
            refine lv_istore (lv' := [(8, .int r165), (5, .long w59), (7, .int w102), (10, .long r121), (9, .int w102), (4, .int w35), (0, .ref h0), (1, .int v), (2, .int u), (3, .int a)]) hx hb dX12_findSet_176 hl (by decide) rfl (fun ls hl => ?_)
            refine lv_goto (tgt := 61) hx hb dX12_findSet_178 (by decide) ?_
            have hf_173 : f167 (ρ h0 2) = .inl (κ 0, 12967, .inl g27) := (hF168 _ (by rw [y1]; decide)).trans hf_160
            have hf_174 : f123 (ρ h0 45) = .inl (κ 0, 6, .inl g51) := (hF124 _ (by rw [y20]; decide)).trans hk105k
            have hf_175 : f167 (ρ h0 45) = .inl (κ 0, 6, .inl g51) := (hF168 _ (by rw [y20]; decide)).trans hf_174
            exact ih66 _ _ _ _ (by rw [hn67]; first | (simp only [tf171, mo_i1, mo_l1]; exact (show (46656 - mo_V (mo_R g170) w35.toInt.toNat).toNat + ((r165.toInt)).toNat < (46656 - mo_V (mo_R g70) w35.toInt.toNat).toNat + ((w57.toInt)).toNat from by omega)) | (rw [tf171]; exact (show (46656 - mo_V (mo_R g170) w35.toInt.toNat).toNat + ((r165.toInt)).toNat < (46656 - mo_V (mo_R g70) w35.toInt.toNat).toNat + ((w57.toInt)).toNat from by omega))) ⟨f167, r165, w102, w59, rfl, hT, hR, hf_173, hf_175, (by first | (simp only [tf171, mo_i1, mo_l1]; exact (show mo_PM (mo_R g170) w35.toInt from hPM)) | (rw [tf171]; exact (show mo_PM (mo_R g170) w35.toInt from hPM))), (by omega), (by first | exact (fun _ => hGD) | exact k60 | (intro q9; exfalso; omega) | (intro q9; exact k60 (by omega))), (by omega), hP, hD, hS, lv_sub hl [0, 2, 1, 5, 6, 7, 8, 9] rfl⟩
          · have ic159 : r121.toInt > w59.toInt := zl_lef rfl rfl c159
            refine lv_lload hx hb dX12_findSet_161 (lv_at hl 1 rfl) ?_
            refine lv_goto (tgt := 168) hx hb dX12_findSet_163 (by decide) ?_
            refine lv_lstore (lv' := [(5, .long r121), (7, .int w102), (10, .long r121), (9, .int w102), (8, .int w57), (4, .int w35), (0, .ref h0), (1, .int v), (2, .int u), (3, .int a)]) hx hb dX12_findSet_168 hl (by decide) rfl (fun ls hl => ?_)
            refine lv_aload_n hx hb dX12_findSet_170 rfl (lv_at hl 6 rfl) ?_
            refine lv_iload hx hb dX12_findSet_171 (lv_at hl 5 rfl) ?_
            have hf_176 : f123 (ρ h0 2) = .inl (κ 0, 12967, .inl g27) := (hF124 _ (by rw [y1]; decide)).trans hk104k
            have hf_177 : f123 (ρ h0 46) = .inl (κ 0, 6, .inl g70) := (hF124 _ (by rw [y21]; decide)).trans hk106k
            have tf178 : mo_i (f123 (ρ h0 46)) = g70 := tfa_i hf_177
            obtain ⟨o179_x0, o179_x1, o179_x7, o179_x9, o179_x10, o179_x11, o179_x12, o179_x13, o179_x14, o179_x15, o179_x16, o179_x17, o179_x18, o179_x19, o179_x20, o179_x22, o179_x25, o179_x28, o179_x29, o179_x32, o179_x33, o179_x34, o179_x35, o179_x36, o179_x37, o179_x38, o179_x47, o179_x48, hf_o179, ro179_0, ro179_1, ro179_2, ro179_3, ro179_4, ro179_5, ro179_6, ro179_7, ro179_8, ro179_9, ro179_10, ro179_11, ro179_12, ro179_13⟩ := tpo_13 hT ht_h0
            obtain ⟨q180, eq180⟩ := tp_pos (tp_in hG ht_h0 (by decide)) hf_o179
            have hFc := tp_fr hD hS hA
            refine va_calli (va_runV (As := [.int w35]) (rest := []) ⟨hx, hb, hml, hown, hts⟩ (t_X12_nextPlaces l dC dI _ κ τ ν ρ L f123 hG hT h0 w35 ht_h0 (by first | decide | omega) (by first | (simp only [tf178, mo_i1, mo_l1]; exact (show mo_PM (mo_R g70) w35.toInt from hPM)) | (rw [tf178]; exact (show mo_PM (mo_R g70) w35.toInt from hPM)))) (cwV 1 hts gX12_findSet_X12_nextPlaces rfl rfl rfl ⟨rfl, pd_X12_nextPlaces⟩ ⟨Nat.le_of_ble_eq_true rfl, Nat.le_of_ble_eq_true rfl⟩) ⟨pz_blind, va_recv hK hP (ci := 12) (q0 := q180) rfl eq180, pz_pre hP hK hD hN⟩ rfl rfl hl.1 rfl (lv_room (Nat.le_of_ble_eq_true rfl)) dX12_findSet_173 ⟨Nat.le_of_ble_eq_true rfl, Nat.le_of_ble_eq_true rfl⟩) hS (fun q _ h => hFc q h) hFc (fun r181 f183 t H1 locs ht hvm hw182 hB hz1 hk1 hS => ?_)
            obtain ⟨hT, hF184, hw182r, hw182p⟩ := hw182
            have hR := hR.then hF184 (by decide)
            have hP := hB.1; rw [ht] at hP; have hD := tp_ad f183 hD; clear hB hFc hz1 hk1; subst ht; generalize t.heap = H at hP hS ⊢
            obtain ⟨g186, hf_o185⟩ := tpo_76 hT y21
            have tf187 : mo_i (f183 (ρ h0 46)) = g186 := tfa_i hf_o185
            have tk188 : mo_PM (mo_R g186) w35.toInt ∧ mo_V (mo_R g70) w35.toInt.toNat ≤ mo_V (mo_R g186) w35.toInt.toNat ∧ (r181.toInt ≠ 0 → mo_V (mo_R g70) w35.toInt.toNat < mo_V (mo_R g186) w35.toInt.toNat) := by have q9 := hw182p; first | (simp only [tf187, tf178, mo_i1, mo_l1] at q9; exact q9) | (rw [tf187, tf178] at q9; exact q9)
            have hPM := tk188.1
            have hPMc := hPM.bd (by omega) (by omega)
            have hVm := tk188.2
            refine lv_istore (lv' := [(8, .int r181), (5, .long r121), (7, .int w102), (10, .long r121), (9, .int w102), (4, .int w35), (0, .ref h0), (1, .int v), (2, .int u), (3, .int a)]) hx hb dX12_findSet_176 hl (by decide) rfl (fun ls hl => ?_)
            refine lv_goto (tgt := 61) hx hb dX12_findSet_178 (by decide) ?_
            have hf_189 : f183 (ρ h0 2) = .inl (κ 0, 12967, .inl g27) := (hF184 _ (by rw [y1]; decide)).trans hf_176
            have hf_190 : f123 (ρ h0 45) = .inl (κ 0, 6, .inl g51) := (hF124 _ (by rw [y20]; decide)).trans hk105k
            have hf_191 : f183 (ρ h0 45) = .inl (κ 0, 6, .inl g51) := (hF184 _ (by rw [y20]; decide)).trans hf_190
            exact ih66 _ _ _ _ (by rw [hn67]; first | (simp only [tf187, mo_i1, mo_l1]; exact (show (46656 - mo_V (mo_R g186) w35.toInt.toNat).toNat + ((r181.toInt)).toNat < (46656 - mo_V (mo_R g70) w35.toInt.toNat).toNat + ((w57.toInt)).toNat from by omega)) | (rw [tf187]; exact (show (46656 - mo_V (mo_R g186) w35.toInt.toNat).toNat + ((r181.toInt)).toNat < (46656 - mo_V (mo_R g70) w35.toInt.toNat).toNat + ((w57.toInt)).toNat from by omega))) ⟨f183, r181, w102, r121, rfl, hT, hR, hf_189, hf_191, (by first | (simp only [tf187, mo_i1, mo_l1]; exact (show mo_PM (mo_R g186) w35.toInt from hPM)) | (rw [tf187]; exact (show mo_PM (mo_R g186) w35.toInt from hPM))), (by omega), (by first | exact (fun _ => hGD) | exact k60 | (intro q9; exfalso; omega) | (intro q9; exact k60 (by omega))), (by omega), hP, hD, hS, lv_sub hl [0, 2, 1, 5, 6, 7, 8, 9] rfl⟩
      · have ic118 : w101.toInt < w35.toInt := zi_gef rfl rfl c118
        have hPk := hPM.1 w101.toInt (by omega) (by omega)
        have hMk := hMB.2.2.1 w101.toInt (by omega) (by omega)
        refine lv_aload_n hx hb dX12_findSet_79 rfl (lv_at hl 6 rfl) ?_
        obtain ⟨o192_x0, o192_x1, o192_x7, o192_x9, o192_x10, o192_x11, o192_x12, o192_x13, o192_x14, o192_x15, o192_x16, o192_x17, o192_x18, o192_x19, o192_x20, o192_x22, o192_x25, o192_x28, o192_x29, o192_x32, o192_x33, o192_x34, o192_x35, o192_x36, o192_x37, o192_x38, o192_x47, o192_x48, hf_o192, ro192_0, ro192_1, ro192_2, ro192_3, ro192_4, ro192_5, ro192_6, ro192_7, ro192_8, ro192_9, ro192_10, ro192_11, ro192_12, ro192_13⟩ := tpo_13 hT ht_h0
        obtain ⟨q193, eq193⟩ := tp_pos (tp_in hG ht_h0 (by decide)) hf_o192
        refine va_get (D := (dC, dI)) (ci := 12) (v := .ref (ρ h0 42)) (C := RX12) (T := TX12) (N := 53) hx hb hts hfX12 hown hK hP q193 eq193 rfl 42 (by decide) (hts (.fieldLink RX12 64 "ColdShipsModel" "line" "[I") wa_166) (fun _ h9 => h9) rfl dX12_findSet_80 ?_
        refine lv_aload_n hx hb dX12_findSet_83 rfl (lv_at hl 6 rfl) ?_
        refine va_get (D := (dC, dI)) (ci := 12) (v := .ref (ρ h0 46)) (C := RX12) (T := TX12) (N := 53) hx hb hts hfX12 hown hK hP q193 eq193 rfl 46 (by decide) (hts (.fieldLink RX12 76 "ColdShipsModel" "places" "[I") wa_170) (fun _ h9 => h9) rfl dX12_findSet_84 ?_
        refine lv_iload hx hb dX12_findSet_87 (lv_at hl 0 rfl) ?_
        obtain ⟨q194, eq194⟩ := tp_pos (tp_in hG y21 (by decide)) hk106k
        refine va_iald hx hb hK hP q194 0 eq194 rfl (vp_in_iff.mpr ⟨by omega, by omega⟩) dX12_findSet_89 ?_
        refine lv_topi (fun z195 ez195 => ?_)
        have jz195 : z195.toInt = mo_R g70 w101.toInt := mo_rd ez195 (by omega)
        refine lv_aload_n hx hb dX12_findSet_90 rfl (lv_at hl 6 rfl) ?_
        refine va_get (D := (dC, dI)) (ci := 12) (v := .ref (ρ h0 45)) (C := RX12) (T := TX12) (N := 53) hx hb hts hfX12 hown hK hP q193 eq193 rfl 45 (by decide) (hts (.fieldLink RX12 73 "ColdShipsModel" "members" "[I") wa_169) (fun _ h9 => h9) rfl dX12_findSet_91 ?_
        refine lv_iload hx hb dX12_findSet_94 (lv_at hl 0 rfl) ?_
        obtain ⟨q196, eq196⟩ := tp_pos (tp_in hG y20 (by decide)) hk105k
        refine va_iald hx hb hK hP q196 0 eq196 rfl (vp_in_iff.mpr ⟨by omega, by omega⟩) dX12_findSet_96 ?_
        refine lv_topi (fun z197 ez197 => ?_)
        have jz197 : z197.toInt = mo_R g51 w101.toInt := mo_rd ez197 (by omega)
        obtain ⟨q198, eq198⟩ := tp_pos (tp_in hG y17 (by decide)) hf_o115
        refine va_iast hx hb hK hP hD hS q198 0 eq198 rfl (vp_in_iff.mpr ⟨by omega, by omega⟩) dX12_findSet_97 (tp_k (.inl (κ 0, 6, .inl (upd g116 z195.toNatClampNeg z197))) hD (tp_in hG y17 (by decide)) eq198 (fun f199 H locs hP hD hS g201 k200 => ?_))
        have hT := hT.up y17 g201 k200 tp_o72
        have hR := hR.up y17 (by decide) k200
        have hU203 : mo_U (mo_R g116) (mo_R (upd g116 z195.toNatClampNeg z197)) (z195.toInt) (z197.toInt) := mo_up (by omega) (rfl : z197.toInt = _) (by omega)
        generalize (upd g116 z195.toNatClampNeg z197) = g202 at g201 hU203
        refine lv_iload hx hb dX12_findSet_98 (lv_at hl 1 rfl) ?_
        refine lv_aload_n hx hb dX12_findSet_100 rfl (lv_at hl 6 rfl) ?_
        have hf_204 : f199 h0 = .inr (12, [.int o192_x0, .int o192_x1, .ref (ρ h0 2), .ref (ρ h0 3), .ref (ρ h0 4), .ref (ρ h0 5), .ref (ρ h0 6), .int o192_x7, .ref (ρ h0 8), .int o192_x9, .int o192_x10, .int o192_x11, .int o192_x12, .long o192_x13, .int o192_x14, .int o192_x15, .int o192_x16, .int o192_x17, .int o192_x18, .int o192_x19, .int o192_x20, .ref (ρ h0 21), .int o192_x22, .ref (ρ h0 23), .ref (ρ h0 24), .int o192_x25, .ref (ρ h0 26), .ref (ρ h0 27), .int o192_x28, .int o192_x29, .ref (ρ h0 30), .ref (ρ h0 31), .int o192_x32, .long o192_x33, .long o192_x34, .long o192_x35, .int o192_x36, .int o192_x37, .int o192_x38, .ref (ρ h0 39), .ref (ρ h0 40), .ref (ρ h0 41), .ref (ρ h0 42), .ref (ρ h0 43), .ref (ρ h0 44), .ref (ρ h0 45), .ref (ρ h0 46), .int o192_x47, .int o192_x48, .ref (ρ h0 49), .ref (ρ h0 50), .ref (ρ h0 51), .ref (ρ h0 52)]) := (k200 _ (tp_ne ht_h0 y17 (by decide))).trans hf_o192
        obtain ⟨q205, eq205⟩ := tp_pos (tp_in hG ht_h0 (by decide)) hf_204
        refine va_get (D := (dC, dI)) (ci := 12) (v := .ref (ρ h0 46)) (C := RX12) (T := TX12) (N := 53) hx hb hts hfX12 hown hK hP q205 eq205 rfl 46 (by decide) (hts (.fieldLink RX12 76 "ColdShipsModel" "places" "[I") wa_170) (fun _ h9 => h9) rfl dX12_findSet_101 ?_
        refine lv_iload hx hb dX12_findSet_104 (lv_at hl 0 rfl) ?_
        have hf_206 : f199 (ρ h0 46) = .inl (κ 0, 6, .inl g70) := (k200 _ (tp_ne y21 y17 (by decide))).trans hk106k
        obtain ⟨q207, eq207⟩ := tp_pos (tp_in hG y21 (by decide)) hf_206
        refine va_iald hx hb hK hP q207 0 eq207 rfl (vp_in_iff.mpr ⟨by omega, by omega⟩) dX12_findSet_106 ?_
        refine lv_topi (fun z208 ez208 => ?_)
        have jz208 : z208.toInt = mo_R g70 w101.toInt := mo_rd ez208 (by omega)
        refine lv_iconst (v := 3) hx hb dX12_findSet_107 (by decide) ?_
        refine lv_aload_n hx hb dX12_findSet_108 rfl (lv_at hl 6 rfl) ?_
        refine va_get (D := (dC, dI)) (ci := 12) (v := .ref (ρ h0 45)) (C := RX12) (T := TX12) (N := 53) hx hb hts hfX12 hown hK hP q205 eq205 rfl 45 (by decide) (hts (.fieldLink RX12 73 "ColdShipsModel" "members" "[I") wa_169) (fun _ h9 => h9) rfl dX12_findSet_109 ?_
        refine lv_iload hx hb dX12_findSet_112 (lv_at hl 0 rfl) ?_
        have hf_209 : f199 (ρ h0 45) = .inl (κ 0, 6, .inl g51) := (k200 _ (tp_ne y20 y17 (by decide))).trans hk105k
        obtain ⟨q210, eq210⟩ := tp_pos (tp_in hG y20 (by decide)) hf_209
        refine va_iald hx hb hK hP q210 0 eq210 rfl (vp_in_iff.mpr ⟨by omega, by omega⟩) dX12_findSet_114 ?_
        refine lv_topi (fun z211 ez211 => ?_)
        have jz211 : z211.toInt = mo_R g51 w101.toInt := mo_rd ez211 (by omega)
        refine lv_imul hx hb dX12_findSet_115 ?_
        refine lv_topi (fun z212 ez212 => ?_)
        have iz212 : z212.toInt = 3 * z211.toInt := zi_mul ez212 rfl rfl (by omega) (by omega)
        refine lv_ishl hx hb dX12_findSet_116 ?_
        refine lv_topi (fun z213 ez213 => ?_)
        refine lv_ior hx hb dX12_findSet_117 ?_
        refine lv_topi (fun z214 ez214 => ?_)
        have tf215 : mo_i (f199 (ρ h0 46)) = g70 := tfa_i hf_206
        have tf216 : mo_i (f199 (ρ h0 45)) = g51 := tfa_i hf_209
        have hfree := jf114.free hMB (by omega) (by omega)
        have hcd := jf114.1
        have hcode : z214.toInt = w102.toInt + (mo_R g70) w101.toInt * mo_p8 ((mo_R g51) w101.toInt) := by rw [zb_cd (M := z211.toInt) ez213 ez214 (by omega) (by omega) (by omega) (by omega) (by omega) (by omega) (by omega) (by rw [jz211]; exact hfree), jz208, jz211]
        have hcz := (mo_pl_add (x := w102.toInt) (p := (mo_R g70) w101.toInt) (m := (mo_R g51) w101.toInt) (c := 0) (by omega) (by omega) (by omega) (by omega) (by omega) (by omega) (by omega) (by omega) hfree).2.2
        rw [← hcode] at hcz
        refine lv_istore (lv' := [(9, .int z214), (10, .int w101), (8, .int w57), (7, .int w58), (5, .long w59), (4, .int w35), (0, .ref h0), (1, .int v), (2, .int u), (3, .int a)]) hx hb dX12_findSet_118 hl (by decide) rfl (fun ls hl => ?_)
        obtain ⟨z217, ez217⟩ : ∃ y : Int32, y = w101 + 1 := ⟨_, rfl⟩
        refine lv_iinc (v := z217) (lv' := [(10, .int z217), (9, .int z214), (8, .int w57), (7, .int w58), (5, .long w59), (4, .int w35), (0, .ref h0), (1, .int v), (2, .int u), (3, .int a)]) hx hb dX12_findSet_120 hl (k := 1) rfl (by rw [ez217]; rfl) (by decide) rfl (fun ls hl => ?_)
        have iz217 : z217.toInt = w101.toInt + 1 := zi_add ez217 rfl rfl (by omega) (by omega)
        refine lv_goto (tgt := 72) hx hb dX12_findSet_123 (by decide) ?_
        have tf218 : mo_i (f199 (ρ h0 42)) = g202 := tfa_i g201
        have hf_219 : f199 (ρ h0 2) = .inl (κ 0, 12967, .inl g27) := (k200 _ (tp_ne y1 y17 (by decide))).trans hk104k
        exact ih112 _ _ _ _ (by rw [hn113]; omega) ⟨f199, z217, z214, rfl, hT, hR, hf_219, hf_209, hf_206, (by first | (simp only [tf218, mo_i1, mo_l1]; exact (show mo_LC (mo_R g70) (mo_R g51) (mo_R g202) (z214.toInt) (z217.toInt) from jf114.up hPM hMB (by omega) (by omega) hU203 (by omega) (by omega) hcode (by omega))) | (rw [tf218]; exact (show mo_LC (mo_R g70) (mo_R g51) (mo_R g202) (z214.toInt) (z217.toInt) from jf114.up hPM hMB (by omega) (by omega) hU203 (by omega) (by omega) hcode (by omega)))), (by omega), (by omega), (by omega), hP, hD, hS, lv_sub hl [0, 1, 2, 3, 4, 5, 6, 7, 8, 9] rfl⟩
  · have ic56 : w34.toInt < 6 := zi_gef rfl rfl c56
    refine lv_iload_n hx hb dX12_findSet_13 rfl (lv_at hl 4 rfl) ?_
    refine lv_iload hx hb dX12_findSet_14 (lv_at hl 0 rfl) ?_
    refine lv_ishr hx hb dX12_findSet_16 ?_
    refine lv_topi (fun z220 ez220 => ?_)
    refine lv_iconst (v := 1) hx hb dX12_findSet_17 (by decide) ?_
    refine lv_iand hx hb dX12_findSet_18 ?_
    refine lv_topi (fun z221 ez221 => ?_)
    have iz221 : 0 ≤ z221.toInt ∧ z221.toInt ≤ 1 := zb_mask ez221 (by decide)
    refine lv_iconst (v := 1) hx hb dX12_findSet_19 (by decide) ?_
    have hbt := zb_bt ez220 ez221 (by omega) (by omega) (by omega) (by omega)
    refine lv_icmp_ne (tgt := 44) hx hb dX12_findSet_20 (by decide) (fun c222 => ?_) (fun c222 => ?_)
    · have ic222 : z221.toInt ≠ 1 := zi_ne rfl rfl c222
      obtain ⟨z223, ez223⟩ : ∃ y : Int32, y = w34 + 1 := ⟨_, rfl⟩
      refine lv_iinc (v := z223) (lv' := [(5, .int z223), (4, .int w35), (0, .ref h0), (1, .int v), (2, .int u), (3, .int a)]) hx hb dX12_findSet_44 hl (k := 0) rfl (by rw [ez223]; rfl) (by decide) rfl (fun ls hl => ?_)
      have iz223 : z223.toInt = w34.toInt + 1 := zi_add ez223 rfl rfl (by omega) (by omega)
      refine lv_goto (tgt := 6) hx hb dX12_findSet_47 (by decide) ?_
      exact ih46 _ _ _ _ (by rw [hn47]; omega) ⟨f44, z223, w35, rfl, hT, hR, hk37k, (by first | (simp only [tf52, mo_i1, mo_l1]; exact (show mo_MB (mo_R g51) u.toInt (w35.toInt) (z223.toInt) from mo_MB.no jf48 (hbt.2 (by omega)) (by omega) _ (by omega))) | (rw [tf52]; exact (show mo_MB (mo_R g51) u.toInt (w35.toInt) (z223.toInt) from mo_MB.no jf48 (hbt.2 (by omega)) (by omega) _ (by omega)))), (by first | (simp only [tf55, mo_i1, mo_l1]; exact (show ∀ i, 0 ≤ i → i < (w35.toInt) → (mo_R g54) i = i from (fun i i0 i1 => jf49 i i0 (by omega)))) | (rw [tf55]; exact (show ∀ i, 0 ≤ i → i < (w35.toInt) → (mo_R g54) i = i from (fun i i0 i1 => jf49 i i0 (by omega))))), (by omega), (by omega), (by omega), hP, hD, hS, lv_sub hl [0, 1, 2, 3, 4, 5] rfl⟩
    · have ic222 : z221.toInt = 1 := zi_nef rfl rfl c222
      refine lv_aload_n hx hb dX12_findSet_23 rfl (lv_at hl 2 rfl) ?_
      obtain ⟨o224_x0, o224_x1, o224_x7, o224_x9, o224_x10, o224_x11, o224_x12, o224_x13, o224_x14, o224_x15, o224_x16, o224_x17, o224_x18, o224_x19, o224_x20, o224_x22, o224_x25, o224_x28, o224_x29, o224_x32, o224_x33, o224_x34, o224_x35, o224_x36, o224_x37, o224_x38, o224_x47, o224_x48, hf_o224, ro224_0, ro224_1, ro224_2, ro224_3, ro224_4, ro224_5, ro224_6, ro224_7, ro224_8, ro224_9, ro224_10, ro224_11, ro224_12, ro224_13⟩ := tpo_13 hT ht_h0
      obtain ⟨q225, eq225⟩ := tp_pos (tp_in hG ht_h0 (by decide)) hf_o224
      refine va_get (D := (dC, dI)) (ci := 12) (v := .ref (ρ h0 45)) (C := RX12) (T := TX12) (N := 53) hx hb hts hfX12 hown hK hP q225 eq225 rfl 45 (by decide) (hts (.fieldLink RX12 73 "ColdShipsModel" "members" "[I") wa_169) (fun _ h9 => h9) rfl dX12_findSet_24 ?_
      refine lv_iload hx hb dX12_findSet_27 (lv_at hl 1 rfl) ?_
      refine lv_iload hx hb dX12_findSet_29 (lv_at hl 0 rfl) ?_
      obtain ⟨q226, eq226⟩ := tp_pos (tp_in hG y20 (by decide)) hf_o50
      refine va_iast hx hb hK hP hD hS q226 0 eq226 rfl (vp_in_iff.mpr ⟨by omega, by omega⟩) dX12_findSet_31 (tp_k (.inl (κ 0, 6, .inl (upd g51 w35.toNatClampNeg w34))) hD (tp_in hG y20 (by decide)) eq226 (fun f227 H locs hP hD hS g229 k228 => ?_))
      have hT := hT.up y20 g229 k228 tp_o75
      have hR := hR.up y20 (by decide) k228
      have hU231 : mo_U (mo_R g51) (mo_R (upd g51 w35.toNatClampNeg w34)) (w35.toInt) (w34.toInt) := mo_up (by omega) (rfl : w34.toInt = _) (by omega)
      generalize (upd g51 w35.toNatClampNeg w34) = g230 at g229 hU231
      have hU231e := hU231.eq (by omega)
      refine lv_aload_n hx hb dX12_findSet_32 rfl (lv_at hl 2 rfl) ?_
      have hf_232 : f227 h0 = .inr (12, [.int o224_x0, .int o224_x1, .ref (ρ h0 2), .ref (ρ h0 3), .ref (ρ h0 4), .ref (ρ h0 5), .ref (ρ h0 6), .int o224_x7, .ref (ρ h0 8), .int o224_x9, .int o224_x10, .int o224_x11, .int o224_x12, .long o224_x13, .int o224_x14, .int o224_x15, .int o224_x16, .int o224_x17, .int o224_x18, .int o224_x19, .int o224_x20, .ref (ρ h0 21), .int o224_x22, .ref (ρ h0 23), .ref (ρ h0 24), .int o224_x25, .ref (ρ h0 26), .ref (ρ h0 27), .int o224_x28, .int o224_x29, .ref (ρ h0 30), .ref (ρ h0 31), .int o224_x32, .long o224_x33, .long o224_x34, .long o224_x35, .int o224_x36, .int o224_x37, .int o224_x38, .ref (ρ h0 39), .ref (ρ h0 40), .ref (ρ h0 41), .ref (ρ h0 42), .ref (ρ h0 43), .ref (ρ h0 44), .ref (ρ h0 45), .ref (ρ h0 46), .int o224_x47, .int o224_x48, .ref (ρ h0 49), .ref (ρ h0 50), .ref (ρ h0 51), .ref (ρ h0 52)]) := (k228 _ (tp_ne ht_h0 y20 (by decide))).trans hf_o224
      obtain ⟨q233, eq233⟩ := tp_pos (tp_in hG ht_h0 (by decide)) hf_232
      refine va_get (D := (dC, dI)) (ci := 12) (v := .ref (ρ h0 46)) (C := RX12) (T := TX12) (N := 53) hx hb hts hfX12 hown hK hP q233 eq233 rfl 46 (by decide) (hts (.fieldLink RX12 76 "ColdShipsModel" "places" "[I") wa_170) (fun _ h9 => h9) rfl dX12_findSet_33 ?_
      refine lv_iload hx hb dX12_findSet_36 (lv_at hl 1 rfl) ?_
      refine lv_iload hx hb dX12_findSet_38 (lv_at hl 1 rfl) ?_
      have hf_234 : f227 (ρ h0 46) = .inl (κ 0, 6, .inl g54) := (k228 _ (tp_ne y21 y20 (by decide))).trans hf_o53
      obtain ⟨q235, eq235⟩ := tp_pos (tp_in hG y21 (by decide)) hf_234
      refine va_iast hx hb hK hP hD hS q235 0 eq235 rfl (vp_in_iff.mpr ⟨by omega, by omega⟩) dX12_findSet_40 (tp_k (.inl (κ 0, 6, .inl (upd g54 w35.toNatClampNeg w35))) hD (tp_in hG y21 (by decide)) eq235 (fun f236 H locs hP hD hS g238 k237 => ?_))
      have hT := hT.up y21 g238 k237 tp_o76
      have hR := hR.up y21 (by decide) k237
      have hU240 : mo_U (mo_R g54) (mo_R (upd g54 w35.toNatClampNeg w35)) (w35.toInt) (w35.toInt) := mo_up (by omega) (rfl : w35.toInt = _) (by omega)
      generalize (upd g54 w35.toNatClampNeg w35) = g239 at g238 hU240
      have hU240e := hU240.eq (by omega)
      obtain ⟨z241, ez241⟩ : ∃ y : Int32, y = w35 + 1 := ⟨_, rfl⟩
      refine lv_iinc (v := z241) (lv' := [(4, .int z241), (5, .int w34), (0, .ref h0), (1, .int v), (2, .int u), (3, .int a)]) hx hb dX12_findSet_41 hl (k := 1) rfl (by rw [ez241]; rfl) (by decide) rfl (fun ls hl => ?_)
      have iz241 : z241.toInt = w35.toInt + 1 := zi_add ez241 rfl rfl (by omega) (by omega)
      obtain ⟨z242, ez242⟩ : ∃ y : Int32, y = w34 + 1 := ⟨_, rfl⟩
      refine lv_iinc (v := z242) (lv' := [(5, .int z242), (4, .int z241), (0, .ref h0), (1, .int v), (2, .int u), (3, .int a)]) hx hb dX12_findSet_44 hl (k := 1) rfl (by rw [ez242]; rfl) (by decide) rfl (fun ls hl => ?_)
      have iz242 : z242.toInt = w34.toInt + 1 := zi_add ez242 rfl rfl (by omega) (by omega)
      refine lv_goto (tgt := 6) hx hb dX12_findSet_47 (by decide) ?_
      have hf_243 : f236 (ρ h0 45) = .inl (κ 0, 6, .inl g230) := (k237 _ (tp_ne y20 y21 (by decide))).trans g229
      have tf244 : mo_i (f236 (ρ h0 45)) = g230 := tfa_i hf_243
      have tf245 : mo_i (f236 (ρ h0 46)) = g239 := tfa_i g238
      have hf_246 : f227 (ρ h0 2) = .inl (κ 0, 12967, .inl g27) := (k228 _ (tp_ne y1 y20 (by decide))).trans hk37k
      have hf_247 : f236 (ρ h0 2) = .inl (κ 0, 12967, .inl g27) := (k237 _ (tp_ne y1 y21 (by decide))).trans hf_246
      exact ih46 _ _ _ _ (by rw [hn47]; omega) ⟨f236, z242, z241, rfl, hT, hR, hf_247, (by first | (simp only [tf244, mo_i1, mo_l1]; exact (show mo_MB (mo_R g230) u.toInt (z241.toInt) (z242.toInt) from mo_MB.yes jf48 hU231 (by omega) (by omega) (hbt.1 (by omega)) _ _ (by omega) (by omega))) | (rw [tf244]; exact (show mo_MB (mo_R g230) u.toInt (z241.toInt) (z242.toInt) from mo_MB.yes jf48 hU231 (by omega) (by omega) (hbt.1 (by omega)) _ _ (by omega) (by omega)))), (by first | (simp only [tf245, mo_i1, mo_l1]; exact (show ∀ i, 0 ≤ i → i < (z241.toInt) → (mo_R g239) i = i from (fun i i0 i1 => by rcases hU240.at i i0 with ⟨z0, a0⟩ | ⟨z0, a0⟩ <;> first | (rw [a0]; omega) | (rw [a0]; exact jf49 i i0 (by omega))))) | (rw [tf245]; exact (show ∀ i, 0 ≤ i → i < (z241.toInt) → (mo_R g239) i = i from (fun i i0 i1 => by rcases hU240.at i i0 with ⟨z0, a0⟩ | ⟨z0, a0⟩ <;> first | (rw [a0]; omega) | (rw [a0]; exact jf49 i i0 (by omega)))))), (by omega), (by omega), (by omega), hP, hD, hS, lv_sub hl [0, 1, 2, 3, 4, 5] rfl⟩

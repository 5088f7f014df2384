set_option maxHeartbeats 4000000 in
set_option maxRecDepth 100000 in
theorem t_X12_findSet (l : Launch) (dC : Nat → ClassId) (dI : Nat → Nat → Nat) (sz : Nat) (κ : Nat → ClassId) (τ ν : Nat → Nat) (ρ : Nat → Nat → Nat) (L : List Nat) (f : Nat → va_E) (hG : tp_G τ ν ρ L) (hT : tp_T (mo_O κ) κ τ ν ρ f) (h0 : Nat) (v : Int32) (u : Int32) (a : Int32) (x : Int) (b : Int) (ht_h0 : τ h0 = 13) (hbb : 0 ≤ b ∧ b ≤ 1000) (hJ : mo_RI x b (mo_R (mo_i (f (ρ h0 2))))) (hv1 : 0 ≤ v.toInt ∧ v.toInt < (mo_R (mo_i (f (ρ h0 2)))) (1)) (hv2 : v.toInt ≤ 2) (hu1 : 0 ≤ u.toInt) (hu2 : u.toInt < mo_P2 ((mo_R (mo_i (f (ρ h0 2)))) 10)) : Met l yX12_findSet wqX12_findSet ({ frames := 8, cells := 0, slots := 0, locals := 2800 }) (va_Pc [.ref h0, .int v, .int u, .int a] (pz_B dC dI (tp_K κ) (va_pl L f) sz)) (va_Qv (fun (f1 : Nat → va_E) => tp_T (mo_O κ) κ τ ν ρ f1 ∧ tp_F τ [13, 69, 70, 71, 72, 73, 74, 75, 76] f f1 ∧ ∃ m9 t9 : Int, mo_U (mo_RL (mo_l (f (ρ h0 43)))) (mo_RL (mo_l (f1 (ρ h0 43)))) (64 * v.toInt + u.toInt) m9 ∧ mo_U (mo_R (mo_i (f (ρ h0 44)))) (mo_R (mo_i (f1 (ρ h0 44)))) (64 * v.toInt + u.toInt) t9 ∧ (m9 ≠ -2000000000000000 → mo_GD t9 u.toInt) ∧ (u.toInt = 0 → m9 = 0)) (fun (f1 : Nat → va_E) (t : State) => pz_E dC dI (tp_K κ) (va_A (va_pl L f) sz) (va_pl L f1) t) (va_A (va_pl L f) sz)) 0 0 (va_A (va_pl L f) sz) := by
  refine Met.ofW (cc := cX12_findSet) (maxL := 12) (ret := none) (by decide) rfl ?_
  intro p e s m args below meth c s₁ B hml hv
  obtain ⟨rfl, hsz, hP, hK, hD0, hN⟩ := hv
  have hx := B.exec
  have hb := B.bytes
  have hr := B.returns
  have hts := fun (w : Cond) (h : w ∈ WALL) => atoms_spec (ws := wqX12_findSet) B.pre w (List.mem_cons_of_mem _ h)
  have hown : s.vm.findClass RX12 = some m.cls := findClass_of_methodNamed B.named
  have hlocks := B.notSynchronized
  subst hsz
  have hD := hD0.self (sz := s.heap.size)
  generalize hAe : va_A (va_pl L f) s.heap.size = A at hD ⊢
  have hA : ∀ q : Nat, s.heap.size ≤ q → A q := fun q h => by rw [← hAe]; exact Or.inr h
  have hS : va_S A s.heap s.heap [] := va_S.rf
  have hR : tp_F τ [13, 69, 70, 71, 72, 73, 74, 75, 76] f f := tp_F.rf
  have hl := lv_entry ([.ref h0, .int v, .int u, .int a]) (n := 12) (Nat.le_of_ble_eq_true rfl)
  rw [lg_entry_eq]
  generalize (lg_sl ([.ref h0, .int v, .int u, .int a]) ++ List.replicate (12 - (lg_sl ([.ref h0, .int v, .int u, .int a])).length) Slot.unset).toArray = ls at hl ⊢
  have hl : lv_has ls 12 [(0, .ref h0), (1, .int v), (2, .int u), (3, .int a)] := hl
  refine tgk_13 hG ht_h0 (fun y1 y2 y3 y4 y5 y6 y7 y8 y9 y10 y11 y12 y13 y14 y15 y16 y17 y18 y19 y20 y21 y22 y23 y24 y25 => ?_)
  refine tpk_32 hT y1 (fun g27 hf_o26 => ?_)
  have hI : mo_RI x b (mo_R g27) := by have q9 := hJ; rw [hf_o26, mo_i1] at q9; exact q9
  rw [hf_o26, mo_i1] at hv1
  rw [hf_o26, mo_i1] at hu2
  refine tpk_74 hT y19 (fun g29 hf_o28 => ?_)
  have tf30 : mo_hd (mo_i (f (ρ h0 44)) = g29) := tfa_i hf_o28
  refine tpk_73 hT y18 (fun g32 hf_o31 => ?_)
  have tf33 : mo_hd (mo_l (f (ρ h0 43)) = g32) := tfa_l hf_o31
  have := hI.k1; have hk10 := hI.k10
  have hP2 := mo_P2_le (mo_R g27 10)
  refine lv_iconst (v := 0) hx hb dX12_findSet_0 (by decide) ?_
  refine lv_istore (lv' := [(4, .int 0), (0, .ref h0), (1, .int v), (2, .int u), (3, .int a)]) hx hb dX12_findSet_1 hl (by decide) rfl (fun ls hl => ?_)
  refine lv_iconst (v := 0) hx hb dX12_findSet_3 (by decide) ?_
  refine lv_istore (lv' := [(5, .int 0), (4, .int 0), (0, .ref h0), (1, .int v), (2, .int u), (3, .int a)]) hx hb dX12_findSet_4 hl (by decide) rfl (fun ls hl => ?_)
  refine tpk_75 hT y20 (fun g41 hf_o40 => ?_)
  have tf42 : mo_hd (mo_i (f (ρ h0 45)) = g41) := tfa_i hf_o40
  refine tpk_76 hT y21 (fun g44 hf_o43 => ?_)
  have tf45 : mo_hd (mo_i (f (ρ h0 46)) = g44) := tfa_i hf_o43
  refine pz_loop (fun n0 H locs ls => ∃ f46 : Nat → va_E, ∃ w34 : Int32, ∃ w35 : Int32, n0 = (6 - (w34.toInt)).toNat ∧ tp_T (mo_O κ) κ τ ν ρ f46 ∧ tp_F τ [13, 69, 70, 71, 72, 73, 74, 75, 76] f f46 ∧ f46 (ρ h0 2) = .inl (κ 0, 12967, .inl g27) ∧ f46 (ρ h0 43) = .inl (κ 1, 192, .inr (.inl g32)) ∧ f46 (ρ h0 44) = .inl (κ 0, 192, .inl g29) ∧ ((mo_MB (mo_R (mo_i (f46 (ρ h0 45)))) u.toInt (w35.toInt) (w34.toInt))) ∧ ((∀ i, 0 ≤ i → i < (w35.toInt) → (mo_R (mo_i (f46 (ρ h0 46)))) i = i)) ∧ (0 ≤ w34.toInt ∧ w34.toInt ≤ 6) ∧ (0 ≤ w35.toInt ∧ w35.toInt ≤ 6) ∧ ((w35.toInt) ≤ (w34.toInt)) ∧ va_P (dC, dI) vwCl (va_pl L f46) H ∧ va_D A (va_pl L f46) ∧ va_S A s.heap H locs ∧ lv_has ls 12 [(5, .int w34), (4, .int w35), (0, .ref h0), (1, .int v), (2, .int u), (3, .int a)]) ?_ _ _ _ _ ⟨f, 0, 0, rfl, hT, hR, hf_o26, hf_o31, hf_o28, (by first | (simp only [(mo_un tf42), mo_i1, mo_l1]; exact (show mo_MB (mo_R g41) u.toInt (0 : Int32).toInt (0 : Int32).toInt from mo_MB.rf _ _ (by decide) (by decide))) | (rw [(mo_un tf42)]; exact (show mo_MB (mo_R g41) u.toInt (0 : Int32).toInt (0 : Int32).toInt from mo_MB.rf _ _ (by decide) (by decide)))), (by first | (simp only [(mo_un tf45), mo_i1, mo_l1]; exact (show ∀ i, 0 ≤ i → i < (0 : Int32).toInt → (mo_R g44) i = i from (fun i i0 i1 => absurd i1 (by have : (0 : Int32).toInt = 0 := rfl; omega)))) | (rw [(mo_un tf45)]; exact (show ∀ i, 0 ≤ i → i < (0 : Int32).toInt → (mo_R g44) i = i from (fun i i0 i1 => absurd i1 (by have : (0 : Int32).toInt = 0 := rfl; omega))))), (by have : (0 : Int32).toInt = 0 := rfl; have : (0 : Int32).toInt = 0 := rfl; omega), (by have : (0 : Int32).toInt = 0 := rfl; have : (0 : Int32).toInt = 0 := rfl; omega), (by have : (0 : Int32).toInt = 0 := rfl; have : (0 : Int32).toInt = 0 := rfl; omega), hP, hD, hS, lv_sub hl [0, 1, 2, 3, 4, 5] rfl⟩
  intro n0 H locs ls hI ih48
  refine Exists.elim hI (fun f46 hE90 => Exists.elim hE90 (fun w34 hE91 => Exists.elim hE91 (fun w35 hE92 => tn_15 hE92 (fun hn49 hT hR hk37k hk38k hk39k jf50 jf51 rw34 rw35 k36 hP hD hS hl => ?_))))
  clear hE92 hE91 hE90 hI
  refine tpk_75 hT y20 (fun g53 hf_o52 => ?_)
  have tf54 : mo_hd (mo_i (f46 (ρ h0 45)) = g53) := tfa_i hf_o52
  replace jf50 : mo_MB (mo_R g53) u.toInt (w35.toInt) (w34.toInt) := by have q9 := jf50; first | (simp only [(mo_un tf54), mo_i1, mo_l1] at q9; exact q9) | (rw [(mo_un tf54)] at q9; exact q9)
  refine tpk_76 hT y21 (fun g56 hf_o55 => ?_)
  have tf57 : mo_hd (mo_i (f46 (ρ h0 46)) = g56) := tfa_i hf_o55
  replace jf51 : mo_hd (∀ i, 0 ≤ i → i < (w35.toInt) → (mo_R g56) i = i) := by have q9 := jf51; first | (simp only [(mo_un tf57), mo_i1, mo_l1] at q9; exact q9) | (rw [(mo_un tf57)] at q9; exact q9)
  refine lv_iload hx hb dX12_findSet_6 (lv_at hl 0 rfl) ?_
  refine lv_bipush (v := 6) hx hb dX12_findSet_8 (by decide) ?_
  refine lv_icmp_ge (tgt := 50) hx hb dX12_findSet_10 (by decide) (fun c58 => ?_) (fun c58 => ?_)
  · have ic58 : w34.toInt ≥ 6 := zi_ge rfl rfl c58
    have hMB : mo_MB (mo_R g53) u.toInt w35.toInt 6 := by have q9 := jf50; rw [show w34.toInt = 6 by (first | omega | (have u0 := mo_un jf51; omega))] at q9; exact q9
    have hPM := mo_PM.id jf51
    have hPMb := hPM.bd (by (first | omega | (have u0 := mo_un jf51; omega))) (by (first | omega | (have u0 := mo_un jf51; omega)))
    refine lv_ldc2 (own := RX12) (v := (-2000000000000000)) hx hb hown (hts (.constantLong RX12 466 (-2000000000000000)) wa_1189) dX12_findSet_50 ?_
    refine lv_lstore (lv' := [(5, .long (-2000000000000000)), (4, .int w35), (0, .ref h0), (1, .int v), (2, .int u), (3, .int a)]) hx hb dX12_findSet_53 hl (by decide) rfl (fun ls hl => ?_)
    refine lv_iconst (v := 0) hx hb dX12_findSet_55 (by decide) ?_
    refine lv_istore (lv' := [(7, .int 0), (5, .long (-2000000000000000)), (4, .int w35), (0, .ref h0), (1, .int v), (2, .int u), (3, .int a)]) hx hb dX12_findSet_56 hl (by decide) rfl (fun ls hl => ?_)
    refine lv_iconst (v := 1) hx hb dX12_findSet_58 (by decide) ?_
    refine lv_istore (lv' := [(8, .int 1), (7, .int 0), (5, .long (-2000000000000000)), (4, .int w35), (0, .ref h0), (1, .int v), (2, .int u), (3, .int a)]) hx hb dX12_findSet_59 hl (by decide) rfl (fun ls hl => ?_)
    refine pz_loop (fun n0 H locs ls => ∃ f68 : Nat → va_E, ∃ w59 : Int32, ∃ w60 : Int32, ∃ w61 : Int64, n0 = (46656 - mo_VL (mo_R (mo_i (f68 (ρ h0 46)))) w35.toInt.toNat).toNat + ((w59.toInt)).toNat ∧ tp_T (mo_O κ) κ τ ν ρ f68 ∧ tp_F τ [13, 69, 70, 71, 72, 73, 74, 75, 76] f f68 ∧ f68 (ρ h0 2) = .inl (κ 0, 12967, .inl g27) ∧ f68 (ρ h0 45) = .inl (κ 0, 6, .inl g53) ∧ f68 (ρ h0 43) = .inl (κ 1, 192, .inr (.inl g32)) ∧ f68 (ρ h0 44) = .inl (κ 0, 192, .inl g29) ∧ ((mo_PM (mo_R (mo_i (f68 (ρ h0 46)))) w35.toInt)) ∧ (0 ≤ w59.toInt ∧ w59.toInt ≤ 1) ∧ (((w61.toInt) ≠ -2000000000000000 → mo_GD (w60.toInt) u.toInt)) ∧ ((w35.toInt = 0 → (w61.toInt) = 0 ∨ ((w59.toInt) = 1 ∧ (w61.toInt) = -2000000000000000))) ∧ va_P (dC, dI) vwCl (va_pl L f68) H ∧ va_D A (va_pl L f68) ∧ va_S A s.heap H locs ∧ lv_has ls 12 [(8, .int w59), (7, .int w60), (5, .long w61), (4, .int w35), (0, .ref h0), (1, .int v), (2, .int u), (3, .int a)]) ?_ _ _ _ _ ⟨f46, 1, 0, (-2000000000000000), rfl, hT, hR, hk37k, hf_o52, hk38k, hk39k, (by first | (simp only [(mo_un tf57), mo_i1, mo_l1]; exact (show mo_PM (mo_R g56) w35.toInt from hPM)) | (rw [(mo_un tf57)]; exact (show mo_PM (mo_R g56) w35.toInt from hPM))), (by have : (1 : Int32).toInt = 1 := rfl; have : (0 : Int32).toInt = 0 := rfl; have : ((-2000000000000000) : Int64).toInt = (-2000000000000000) := rfl; (first | omega | (have u0 := mo_un jf51; omega))), (fun q9 => absurd (by decide) q9), (fun _ => Or.inr ⟨by decide, by decide⟩), hP, hD, hS, lv_sub hl [0, 1, 2, 3, 4, 5, 6, 7] rfl⟩
    intro n0 H locs ls hI ih70
    refine Exists.elim hI (fun f68 hE90 => Exists.elim hE90 (fun w59 hE91 => Exists.elim hE91 (fun w60 hE92 => Exists.elim hE92 (fun w61 hE93 => tn_15 hE93 (fun hn71 hT hR hk64k hk65k hk66k hk67k jf72 rw59 k62 k63 hP hD hS hl => ?_)))))
    clear hE93 hE92 hE91 hE90 hI
    refine tpk_76 hT y21 (fun g74 hf_o73 => ?_)
    have tf75 : mo_hd (mo_i (f68 (ρ h0 46)) = g74) := tfa_i hf_o73
    replace jf72 : mo_PM (mo_R g74) w35.toInt := by have q9 := jf72; first | (simp only [(mo_un tf75), mo_i1, mo_l1] at q9; exact q9) | (rw [(mo_un tf75)] at q9; exact q9)
    have hn71 : n0 = (46656 - mo_VL (mo_R g74) w35.toInt.toNat).toNat + ((w59.toInt)).toNat := by have q9 := hn71; first | (simp only [(mo_un tf75), mo_i1, mo_l1] at q9; exact q9) | (rw [(mo_un tf75)] at q9; exact q9)
    refine lv_iload hx hb dX12_findSet_61 (lv_at hl 0 rfl) ?_
    refine lv_if_eq (tgt := 181) hx hb dX12_findSet_63 (by decide) (fun c76 => ?_) (fun c76 => ?_)
    · have ic76 : w59.toInt = 0 := zi_eq rfl rfl c76
      refine lv_aload_n hx hb dX12_findSet_181 rfl (lv_at hl 4 rfl) ?_
      refine tpk_13 hT ht_h0 (fun o77_x0 o77_x1 o77_x7 o77_x9 o77_x10 o77_x11 o77_x12 o77_x13 o77_x14 o77_x15 o77_x16 o77_x17 o77_x18 o77_x19 o77_x20 o77_x22 o77_x25 o77_x28 o77_x29 o77_x32 o77_x33 o77_x34 o77_x35 o77_x36 o77_x37 o77_x38 o77_x47 o77_x48 hf_o77 ro77_0 ro77_1 ro77_2 ro77_3 ro77_4 ro77_5 ro77_6 ro77_7 ro77_8 ro77_9 ro77_10 ro77_11 ro77_12 ro77_13 => ?_)
      refine tpk_pos (tp_in hG ht_h0 (by decide)) hf_o77 (fun q78 eq78 => ?_)
      refine va_get (D := (dC, dI)) (ci := 12) (v := .ref (ρ h0 43)) (C := RX12) (T := TX12) (N := 53) hx hb hts hfX12 hown hK hP q78 eq78 rfl 43 (by decide) (hts (.fieldLink RX12 67 "ColdShipsModel" "bestOf" "[J") wa_167) (fun _ h9 => h9) rfl dX12_findSet_182 ?_
      refine lv_bipush (v := 64) hx hb dX12_findSet_185 (by decide) ?_
      refine lv_iload_n hx hb dX12_findSet_187 rfl (lv_at hl 5 rfl) ?_
      refine lv_imul hx hb dX12_findSet_188 ?_
      refine lv_topi (fun z79 ez79 => ?_)
      have iz79 : z79.toInt = 64 * v.toInt := zi_mul ez79 rfl rfl (by (first | omega | (have u0 := mo_un jf51; omega))) (by (first | omega | (have u0 := mo_un jf51; omega)))
      refine lv_iload_n hx hb dX12_findSet_189 rfl (lv_at hl 6 rfl) ?_
      refine lv_iadd hx hb dX12_findSet_190 ?_
      refine lv_topi (fun z80 ez80 => ?_)
      have iz80 : z80.toInt = z79.toInt + u.toInt := zi_add ez80 rfl rfl (by (first | omega | (have u0 := mo_un jf51; omega))) (by (first | omega | (have u0 := mo_un jf51; omega)))
      refine lv_lload hx hb dX12_findSet_191 (lv_at hl 2 rfl) ?_
      refine tpk_pos (tp_in hG y18 (by decide)) hk66k (fun q81 eq81 => ?_)
      refine va_last hx hb hK hP hD hS q81 1 eq81 rfl (vp_in_iff.mpr ⟨by (first | omega | (have u0 := mo_un jf51; omega)), by (first | omega | (have u0 := mo_un jf51; omega))⟩) dX12_findSet_193 (tp_k (.inl (κ 1, 192, .inr (.inl (vp_updL g32 z80.toNatClampNeg w61)))) hD (tp_in hG y18 (by decide)) eq81 (fun f82 H locs hP hD hS g84 k83 => ?_))
      have hT := hT.up y18 g84 k83 tp_o73
      have hR := hR.up y18 (by decide) k83
      have hU86 : mo_U (mo_RL g32) (mo_RL (vp_updL g32 z80.toNatClampNeg w61)) (64 * v.toInt + u.toInt) (w61.toInt) := mo_upL (by (first | omega | (have u0 := mo_un jf51; omega))) (rfl : w61.toInt = _) (by (first | omega | (have u0 := mo_un jf51; omega)))
      generalize (vp_updL g32 z80.toNatClampNeg w61) = g85 at g84 hU86
      refine lv_aload_n hx hb dX12_findSet_194 rfl (lv_at hl 4 rfl) ?_
      have hf_87 : f82 h0 = .inr (12, [.int o77_x0, .int o77_x1, .ref (ρ h0 2), .ref (ρ h0 3), .ref (ρ h0 4), .ref (ρ h0 5), .ref (ρ h0 6), .int o77_x7, .ref (ρ h0 8), .int o77_x9, .int o77_x10, .int o77_x11, .int o77_x12, .long o77_x13, .int o77_x14, .int o77_x15, .int o77_x16, .int o77_x17, .int o77_x18, .int o77_x19, .int o77_x20, .ref (ρ h0 21), .int o77_x22, .ref (ρ h0 23), .ref (ρ h0 24), .int o77_x25, .ref (ρ h0 26), .ref (ρ h0 27), .int o77_x28, .int o77_x29, .ref (ρ h0 30), .ref (ρ h0 31), .int o77_x32, .long o77_x33, .long o77_x34, .long o77_x35, .int o77_x36, .int o77_x37, .int o77_x38, .ref (ρ h0 39), .ref (ρ h0 40), .ref (ρ h0 41), .ref (ρ h0 42), .ref (ρ h0 43), .ref (ρ h0 44), .ref (ρ h0 45), .ref (ρ h0 46), .int o77_x47, .int o77_x48, .ref (ρ h0 49), .ref (ρ h0 50), .ref (ρ h0 51), .ref (ρ h0 52)]) := (k83 _ (tp_ne ht_h0 y18 (by decide))).trans hf_o77
      refine tpk_pos (tp_in hG ht_h0 (by decide)) hf_87 (fun q88 eq88 => ?_)
      refine va_get (D := (dC, dI)) (ci := 12) (v := .ref (ρ h0 44)) (C := RX12) (T := TX12) (N := 53) hx hb hts hfX12 hown hK hP q88 eq88 rfl 44 (by decide) (hts (.fieldLink RX12 70 "ColdShipsModel" "placesOf" "[I") wa_168) (fun _ h9 => h9) rfl dX12_findSet_195 ?_
      refine lv_bipush (v := 64) hx hb dX12_findSet_198 (by decide) ?_
      refine lv_iload_n hx hb dX12_findSet_200 rfl (lv_at hl 5 rfl) ?_
      refine lv_imul hx hb dX12_findSet_201 ?_
      refine lv_topi (fun z89 ez89 => ?_)
      have iz89 : z89.toInt = 64 * v.toInt := zi_mul ez89 rfl rfl (by (first | omega | (have u0 := mo_un jf51; omega))) (by (first | omega | (have u0 := mo_un jf51; omega)))
      refine lv_iload_n hx hb dX12_findSet_202 rfl (lv_at hl 6 rfl) ?_
      refine lv_iadd hx hb dX12_findSet_203 ?_
      refine lv_topi (fun z90 ez90 => ?_)
      have iz90 : z90.toInt = z89.toInt + u.toInt := zi_add ez90 rfl rfl (by (first | omega | (have u0 := mo_un jf51; omega))) (by (first | omega | (have u0 := mo_un jf51; omega)))
      refine lv_iload hx hb dX12_findSet_204 (lv_at hl 1 rfl) ?_
      have hf_91 : f82 (ρ h0 44) = .inl (κ 0, 192, .inl g29) := (k83 _ (tp_ne y19 y18 (by decide))).trans hk67k
      refine tpk_pos (tp_in hG y19 (by decide)) hf_91 (fun q92 eq92 => ?_)
      refine va_iast hx hb hK hP hD hS q92 0 eq92 rfl (vp_in_iff.mpr ⟨by (first | omega | (have u0 := mo_un jf51; omega)), by (first | omega | (have u0 := mo_un jf51; omega))⟩) dX12_findSet_206 (tp_k (.inl (κ 0, 192, .inl (upd g29 z90.toNatClampNeg w60))) hD (tp_in hG y19 (by decide)) eq92 (fun f93 H locs hP hD hS g95 k94 => ?_))
      have hT := hT.up y19 g95 k94 tp_o74
      have hR := hR.up y19 (by decide) k94
      have hU97 : mo_U (mo_R g29) (mo_R (upd g29 z90.toNatClampNeg w60)) (64 * v.toInt + u.toInt) (w60.toInt) := mo_up (by (first | omega | (have u0 := mo_un jf51; omega))) (rfl : w60.toInt = _) (by (first | omega | (have u0 := mo_un jf51; omega)))
      generalize (upd g29 z90.toNatClampNeg w60) = g96 at g95 hU97
      have hf_98 : f93 (ρ h0 43) = .inl (κ 1, 192, .inr (.inl g85)) := (k94 _ (tp_ne y18 y19 (by decide))).trans g84
      have tf99 : mo_hd (mo_l (f93 (ρ h0 43)) = g85) := tfa_l hf_98
      have tf100 : mo_hd (mo_i (f93 (ρ h0 44)) = g96) := tfa_i g95
      exact W.vret hx hb hr (fun t ht hW => ⟨⟨f93, rfl, ⟨hT, hR, (by first | (simp only [(mo_un tf33), (mo_un tf99), (mo_un tf30), (mo_un tf100), mo_i1, mo_l1]; exact (show ∃ m9 t9 : Int, mo_U (mo_RL g32) (mo_RL g85) (64 * v.toInt + u.toInt) m9 ∧ mo_U (mo_R g29) (mo_R g96) (64 * v.toInt + u.toInt) t9 ∧ (m9 ≠ -2000000000000000 → mo_GD t9 u.toInt) ∧ (u.toInt = 0 → m9 = 0) from ⟨w61.toInt, w60.toInt, hU86, hU97, k62, fun q9 => by have q8 := hMB.zero q9; (first | omega | (have u0 := mo_un jf51; omega))⟩)) | (rw [(mo_un tf33), (mo_un tf99), (mo_un tf30), (mo_un tf100)]; exact (show ∃ m9 t9 : Int, mo_U (mo_RL g32) (mo_RL g85) (64 * v.toInt + u.toInt) m9 ∧ mo_U (mo_R g29) (mo_R g96) (64 * v.toInt + u.toInt) t9 ∧ (m9 ≠ -2000000000000000 → mo_GD t9 u.toInt) ∧ (u.toInt = 0 → m9 = 0) from ⟨w61.toInt, w60.toInt, hU86, hU97, k62, fun q9 => by have q8 := hMB.zero q9; (first | omega | (have u0 := mo_un jf51; omega))⟩)))⟩, by rw [ht]; exact hP, va_K.moved hW.alike hK, hD⟩, hS.F ht⟩) hS.2.2 dX12_findSet_207
    · have ic76 : w59.toInt ≠ 0 := zi_eqf rfl rfl c76
      replace ic76 : 1 ≤ w59.toInt := by (first | omega | (have u0 := mo_un jf51; omega))
      have hPM := jf72
      have hPMb := hPM.bd (by (first | omega | (have u0 := mo_un jf51; omega))) (by (first | omega | (have u0 := mo_un jf51; omega)))
      refine lv_iconst (v := 0) hx hb dX12_findSet_66 (by decide) ?_
      refine lv_istore (lv' := [(9, .int 0), (8, .int w59), (7, .int w60), (5, .long w61), (4, .int w35), (0, .ref h0), (1, .int v), (2, .int u), (3, .int a)]) hx hb dX12_findSet_67 hl (by decide) rfl (fun ls hl => ?_)
      refine lv_iconst (v := 0) hx hb dX12_findSet_69 (by decide) ?_
      refine lv_istore (lv' := [(10, .int 0), (9, .int 0), (8, .int w59), (7, .int w60), (5, .long w61), (4, .int w35), (0, .ref h0), (1, .int v), (2, .int u), (3, .int a)]) hx hb dX12_findSet_70 hl (by decide) rfl (fun ls hl => ?_)
      have tf101 : mo_hd (mo_i (f68 (ρ h0 45)) = g53) := tfa_i hk65k
      refine tpk_72 hT y17 (fun g111 hf_o110 => ?_)
      have tf112 : mo_hd (mo_i (f68 (ρ h0 42)) = g111) := tfa_i hf_o110
      refine pz_loop (fun n0 H locs ls => ∃ f113 : Nat → va_E, ∃ w102 : Int32, ∃ w103 : Int32, n0 = (6 - (w102.toInt)).toNat ∧ tp_T (mo_O κ) κ τ ν ρ f113 ∧ tp_F τ [13, 69, 70, 71, 72, 73, 74, 75, 76] f f113 ∧ f113 (ρ h0 2) = .inl (κ 0, 12967, .inl g27) ∧ f113 (ρ h0 45) = .inl (κ 0, 6, .inl g53) ∧ f113 (ρ h0 46) = .inl (κ 0, 6, .inl g74) ∧ f113 (ρ h0 43) = .inl (κ 1, 192, .inr (.inl g32)) ∧ f113 (ρ h0 44) = .inl (κ 0, 192, .inl g29) ∧ ((mo_LC (mo_R g74) (mo_R g53) (mo_R (mo_i (f113 (ρ h0 42)))) (w103.toInt) (w102.toInt))) ∧ (0 ≤ w102.toInt ∧ w102.toInt ≤ 6) ∧ (0 ≤ w103.toInt ∧ w103.toInt ≤ 262143) ∧ ((w102.toInt) ≤ w35.toInt) ∧ va_P (dC, dI) vwCl (va_pl L f113) H ∧ va_D A (va_pl L f113) ∧ va_S A s.heap H locs ∧ lv_has ls 12 [(10, .int w102), (9, .int w103), (8, .int w59), (7, .int w60), (5, .long w61), (4, .int w35), (0, .ref h0), (1, .int v), (2, .int u), (3, .int a)]) ?_ _ _ _ _ ⟨f68, 0, 0, rfl, hT, hR, hk64k, hk65k, hf_o73, hk66k, hk67k, (by first | (simp only [(mo_un tf112), mo_i1, mo_l1]; exact (show mo_LC (mo_R g74) (mo_R g53) (mo_R g111) (0 : Int32).toInt (0 : Int32).toInt from mo_LC.rf _ _ _ (by decide) (by decide))) | (rw [(mo_un tf112)]; exact (show mo_LC (mo_R g74) (mo_R g53) (mo_R g111) (0 : Int32).toInt (0 : Int32).toInt from mo_LC.rf _ _ _ (by decide) (by decide)))), (by have : (0 : Int32).toInt = 0 := rfl; have : (0 : Int32).toInt = 0 := rfl; (first | omega | (have u0 := mo_un jf51; omega))), (by have : (0 : Int32).toInt = 0 := rfl; have : (0 : Int32).toInt = 0 := rfl; (first | omega | (have u0 := mo_un jf51; omega))), (by have : (0 : Int32).toInt = 0 := rfl; have : (0 : Int32).toInt = 0 := rfl; (first | omega | (have u0 := mo_un jf51; omega))), hP, hD, hS, lv_sub hl [0, 1, 2, 3, 4, 5, 6, 7, 8, 9] rfl⟩
      intro n0 H locs ls hI ih115
      refine Exists.elim hI (fun f113 hE90 => Exists.elim hE90 (fun w102 hE91 => Exists.elim hE91 (fun w103 hE92 => tn_16 hE92 (fun hn116 hT hR hk105k hk106k hk107k hk108k hk109k jf117 rw102 rw103 k104 hP hD hS hl => ?_))))
      clear hE92 hE91 hE90 hI
      refine tpk_72 hT y17 (fun g119 hf_o118 => ?_)
      have tf120 : mo_hd (mo_i (f113 (ρ h0 42)) = g119) := tfa_i hf_o118
      replace jf117 : mo_LC (mo_R g74) (mo_R g53) (mo_R g119) (w103.toInt) (w102.toInt) := by have q9 := jf117; first | (simp only [(mo_un tf120), mo_i1, mo_l1] at q9; exact q9) | (rw [(mo_un tf120)] at q9; exact q9)
      refine lv_iload hx hb dX12_findSet_72 (lv_at hl 0 rfl) ?_
      refine lv_iload hx hb dX12_findSet_74 (lv_at hl 5 rfl) ?_
      refine lv_icmp_ge (tgt := 126) hx hb dX12_findSet_76 (by decide) (fun c121 => ?_) (fun c121 => ?_)
      · have ic121 : w102.toInt ≥ w35.toInt := zi_ge rfl rfl c121
        have hGD := jf117.good (by (first | omega | (have u0 := mo_un jf51; omega))) hPM hMB
        have hLN := jf117.line (by (first | omega | (have u0 := mo_un jf51; omega))) hPM hMB (by (first | omega | (have u0 := mo_un jf51; omega))) hu2 (by (first | omega | (have u0 := mo_un jf51; omega)))
        refine lv_aload_n hx hb dX12_findSet_126 rfl (lv_at hl 6 rfl) ?_
        refine lv_iload_n hx hb dX12_findSet_127 rfl (lv_at hl 7 rfl) ?_
        refine lv_iload hx hb dX12_findSet_128 (lv_at hl 5 rfl) ?_
        refine lv_iload_n hx hb dX12_findSet_130 rfl (lv_at hl 9 rfl) ?_
        refine tpk_13 hT ht_h0 (fun o122_x0 o122_x1 o122_x7 o122_x9 o122_x10 o122_x11 o122_x12 o122_x13 o122_x14 o122_x15 o122_x16 o122_x17 o122_x18 o122_x19 o122_x20 o122_x22 o122_x25 o122_x28 o122_x29 o122_x32 o122_x33 o122_x34 o122_x35 o122_x36 o122_x37 o122_x38 o122_x47 o122_x48 hf_o122 ro122_0 ro122_1 ro122_2 ro122_3 ro122_4 ro122_5 ro122_6 ro122_7 ro122_8 ro122_9 ro122_10 ro122_11 ro122_12 ro122_13 => ?_)
        refine tpk_pos (tp_in hG ht_h0 (by decide)) hf_o122 (fun q123 eq123 => ?_)
        have hFc := tp_fr hD hS hA
        refine va_calll (va_runV (As := [.int v, .int w35, .int a]) (rest := []) ⟨hx, hb, hml, hown, hts⟩ (t_X12_sailRow l dC dI _ κ τ ν ρ L f113 hG hT h0 v w35 a x b ht_h0 (by first | decide | (first | omega | (have u0 := mo_un jf51; omega))) (by (first | omega | (have u0 := mo_un jf51; omega))) (by rw [hk105k, mo_i1]; exact hI) (by first | (simp only [hk105k, hf_o26, mo_i1]; (first | omega | (have u0 := mo_un jf51; omega))) | (simp only [hk105k, hf_o26, mo_i1]; trivial) | (simp only [hk105k, hf_o26, mo_i1]; done) | (first | omega | (have u0 := mo_un jf51; omega))) (by first | (simp only [(mo_un tf120), hk105k, mo_i1, mo_l1]; exact (show ∀ j, 0 ≤ j → j < w35.toInt → 0 ≤ (mo_R g119) j ∧ (mo_R g119) j < (mo_R g27) 10 from hLN)) | (rw [(mo_un tf120), hk105k]; exact (show ∀ j, 0 ≤ j → j < w35.toInt → 0 ≤ (mo_R g119) j ∧ (mo_R g119) j < (mo_R g27) 10 from hLN)))) (cwV 3 hts gX12_findSet_X12_sailRow rfl rfl rfl ⟨rfl, pd_X12_sailRow⟩ ⟨Nat.le_of_ble_eq_true rfl, Nat.le_of_ble_eq_true rfl⟩) ⟨pz_blind, va_recv hK hP (ci := 12) (q0 := q123) rfl eq123, pz_pre hP hK hD hN⟩ rfl rfl hl.1 rfl (lv_room (Nat.le_of_ble_eq_true rfl)) dX12_findSet_131 ⟨Nat.le_of_ble_eq_true rfl, Nat.le_of_ble_eq_true rfl⟩) hS (fun q _ h => hFc q h) hFc (fun r124 f126 t H1 locs ht hvm hw125 hB hz1 hk1 hS => ?_)
        refine tn_4 hw125 (fun hT hF127 hw125r hw125p => ?_); clear hw125
        have hR := hR.then hF127 (by decide)
        have hP := hB.1; rw [ht] at hP; have hD := tp_ad f126 hD; clear hB hFc hz1 hk1; subst ht; generalize t.heap = H at hP hS ⊢
        refine lv_lstore (lv' := [(10, .long r124), (9, .int w103), (8, .int w59), (7, .int w60), (5, .long w61), (4, .int w35), (0, .ref h0), (1, .int v), (2, .int u), (3, .int a)]) hx hb dX12_findSet_134 hl (by decide) rfl (fun ls hl => ?_)
        refine lv_lload hx hb dX12_findSet_136 (lv_at hl 0 rfl) ?_
        refine lv_lload hx hb dX12_findSet_138 (lv_at hl 4 rfl) ?_
        refine W.lcmp hx hb dX12_findSet_140 ?_
        refine lv_if_le (tgt := 149) hx hb dX12_findSet_141 (by decide) (fun c128 => ?_) (fun c128 => ?_)
        · have ic128 : r124.toInt ≤ w61.toInt := zl_le rfl rfl c128
          refine lv_iload hx hb dX12_findSet_149 (lv_at hl 3 rfl) ?_
          refine lv_istore (lv' := [(7, .int w60), (10, .long r124), (9, .int w103), (8, .int w59), (5, .long w61), (4, .int w35), (0, .ref h0), (1, .int v), (2, .int u), (3, .int a)]) hx hb dX12_findSet_151 hl (by decide) rfl (fun ls hl => ?_)
          refine lv_lload hx hb dX12_findSet_153 (lv_at hl 1 rfl) ?_
          refine lv_lload hx hb dX12_findSet_155 (lv_at hl 4 rfl) ?_
          refine W.lcmp hx hb dX12_findSet_157 ?_
          refine lv_if_le (tgt := 166) hx hb dX12_findSet_158 (by decide) (fun c129 => ?_) (fun c129 => ?_)
          · have ic129 : r124.toInt ≤ w61.toInt := zl_le rfl rfl c129
            refine lv_lload hx hb dX12_findSet_166 (lv_at hl 4 rfl) ?_
            refine lv_lstore (lv' := [(5, .long w61), (7, .int w60), (10, .long r124), (9, .int w103), (8, .int w59), (4, .int w35), (0, .ref h0), (1, .int v), (2, .int u), (3, .int a)]) hx hb dX12_findSet_168 hl (by decide) rfl (fun ls hl => ?_)
            refine lv_aload_n hx hb dX12_findSet_170 rfl (lv_at hl 6 rfl) ?_
            refine lv_iload hx hb dX12_findSet_171 (lv_at hl 5 rfl) ?_
            have hf_130 : f126 (ρ h0 2) = .inl (κ 0, 12967, .inl g27) := (hF127 _ (by rw [y1]; decide)).trans hk105k
            have hf_131 : f126 (ρ h0 46) = .inl (κ 0, 6, .inl g74) := (hF127 _ (by rw [y21]; decide)).trans hk107k
            have tf132 : mo_hd (mo_i (f126 (ρ h0 46)) = g74) := tfa_i hf_131
            refine tpk_13 hT ht_h0 (fun o133_x0 o133_x1 o133_x7 o133_x9 o133_x10 o133_x11 o133_x12 o133_x13 o133_x14 o133_x15 o133_x16 o133_x17 o133_x18 o133_x19 o133_x20 o133_x22 o133_x25 o133_x28 o133_x29 o133_x32 o133_x33 o133_x34 o133_x35 o133_x36 o133_x37 o133_x38 o133_x47 o133_x48 hf_o133 ro133_0 ro133_1 ro133_2 ro133_3 ro133_4 ro133_5 ro133_6 ro133_7 ro133_8 ro133_9 ro133_10 ro133_11 ro133_12 ro133_13 => ?_)
            refine tpk_pos (tp_in hG ht_h0 (by decide)) hf_o133 (fun q134 eq134 => ?_)
            have hFc := tp_fr hD hS hA
            refine va_calli (va_runV (As := [.int w35]) (rest := []) ⟨hx, hb, hml, hown, hts⟩ (t_X12_nextPlaces l dC dI _ κ τ ν ρ L f126 hG hT h0 w35 ht_h0 (by first | decide | (first | omega | (have u0 := mo_un jf51; omega))) (by first | (simp only [(mo_un tf132), mo_i1, mo_l1]; exact (show mo_PM (mo_R g74) w35.toInt from hPM)) | (rw [(mo_un tf132)]; exact (show mo_PM (mo_R g74) w35.toInt from hPM)))) (cwV 1 hts gX12_findSet_X12_nextPlaces rfl rfl rfl ⟨rfl, pd_X12_nextPlaces⟩ ⟨Nat.le_of_ble_eq_true rfl, Nat.le_of_ble_eq_true rfl⟩) ⟨pz_blind, va_recv hK hP (ci := 12) (q0 := q134) rfl eq134, pz_pre hP hK hD hN⟩ rfl rfl hl.1 rfl (lv_room (Nat.le_of_ble_eq_true rfl)) dX12_findSet_173 ⟨Nat.le_of_ble_eq_true rfl, Nat.le_of_ble_eq_true rfl⟩) hS (fun q _ h => hFc q h) hFc (fun r135 f137 t H1 locs ht hvm hw136 hB hz1 hk1 hS => ?_)
            refine tn_4 hw136 (fun hT hF138 hw136r hw136p => ?_); clear hw136
            have hR := hR.then hF138 (by decide)
            have hP := hB.1; rw [ht] at hP; have hD := tp_ad f137 hD; clear hB hFc hz1 hk1; subst ht; generalize t.heap = H at hP hS ⊢
            refine tpk_76 hT y21 (fun g140 hf_o139 => ?_)
            have tf141 : mo_hd (mo_i (f137 (ρ h0 46)) = g140) := tfa_i hf_o139
            have tk142 : mo_hd (mo_PM (mo_R g140) w35.toInt ∧ mo_VL (mo_R g74) w35.toInt.toNat ≤ mo_VL (mo_R g140) w35.toInt.toNat ∧ (r135.toInt ≠ 0 → mo_VL (mo_R g74) w35.toInt.toNat < mo_VL (mo_R g140) w35.toInt.toNat)) := by have q9 := hw136p; first | (simp only [(mo_un tf141), (mo_un tf132), mo_i1, mo_l1] at q9; exact q9) | (rw [(mo_un tf141), (mo_un tf132)] at q9; exact q9)
            clear hw136p
            have hPM := tk142.1
            have hPMc := hPM.bd (by (first | omega | (have u1 := mo_un tk142; first | omega | (have u0 := mo_un jf51; omega)))) (by (first | omega | (have u1 := mo_un tk142; first | omega | (have u0 := mo_un jf51; omega))))
            have hVm := tk142.2
            refine lv_istore (lv' := [(8, .int r135), (5, .long w61), (7, .int w60), (10, .long r124), (9, .int w103), (4, .int w35), (0, .ref h0), (1, .int v), (2, .int u), (3, .int a)]) hx hb dX12_findSet_176 hl (by decide) rfl (fun ls hl => ?_)
            refine lv_goto (tgt := 61) hx hb dX12_findSet_178 (by decide) ?_
            have hf_143 : f137 (ρ h0 2) = .inl (κ 0, 12967, .inl g27) := (hF138 _ (by rw [y1]; decide)).trans hf_130
            have hf_144 : f126 (ρ h0 45) = .inl (κ 0, 6, .inl g53) := (hF127 _ (by rw [y20]; decide)).trans hk106k
            have hf_145 : f137 (ρ h0 45) = .inl (κ 0, 6, .inl g53) := (hF138 _ (by rw [y20]; decide)).trans hf_144
            have hf_146 : f126 (ρ h0 43) = .inl (κ 1, 192, .inr (.inl g32)) := (hF127 _ (by rw [y18]; decide)).trans hk108k
            have hf_147 : f137 (ρ h0 43) = .inl (κ 1, 192, .inr (.inl g32)) := (hF138 _ (by rw [y18]; decide)).trans hf_146
            have hf_148 : f126 (ρ h0 44) = .inl (κ 0, 192, .inl g29) := (hF127 _ (by rw [y19]; decide)).trans hk109k
            have hf_149 : f137 (ρ h0 44) = .inl (κ 0, 192, .inl g29) := (hF138 _ (by rw [y19]; decide)).trans hf_148
            exact ih70 _ _ _ _ (by rw [hn71]; first | (simp only [(mo_un tf141), mo_i1, mo_l1]; exact (show (46656 - mo_VL (mo_R g140) w35.toInt.toNat).toNat + ((r135.toInt)).toNat < (46656 - mo_VL (mo_R g74) w35.toInt.toNat).toNat + ((w59.toInt)).toNat from by (first | omega | (have u1 := mo_un tk142; first | omega | (have u0 := mo_un jf51; omega))))) | (rw [(mo_un tf141)]; exact (show (46656 - mo_VL (mo_R g140) w35.toInt.toNat).toNat + ((r135.toInt)).toNat < (46656 - mo_VL (mo_R g74) w35.toInt.toNat).toNat + ((w59.toInt)).toNat from by (first | omega | (have u1 := mo_un tk142; first | omega | (have u0 := mo_un jf51; omega)))))) ⟨f137, r135, w60, w61, rfl, hT, hR, hf_143, hf_145, hf_147, hf_149, (by first | (simp only [(mo_un tf141), mo_i1, mo_l1]; exact (show mo_PM (mo_R g140) w35.toInt from hPM)) | (rw [(mo_un tf141)]; exact (show mo_PM (mo_R g140) w35.toInt from hPM))), (by (first | omega | (have u1 := mo_un tk142; first | omega | (have u0 := mo_un jf51; omega)))), (by first | exact (fun _ => hGD) | exact k62 | (intro q9; exfalso; (first | omega | (have u1 := mo_un tk142; first | omega | (have u0 := mo_un jf51; omega)))) | (intro q9; exact k62 (by (first | omega | (have u1 := mo_un tk142; first | omega | (have u0 := mo_un jf51; omega)))))), (by (first | omega | (have u1 := mo_un tk142; first | omega | (have u0 := mo_un jf51; omega)))), hP, hD, hS, lv_sub hl [0, 2, 1, 5, 6, 7, 8, 9] rfl⟩
          · have ic129 : r124.toInt > w61.toInt := zl_lef rfl rfl c129
            refine lv_lload hx hb dX12_findSet_161 (lv_at hl 1 rfl) ?_
            refine lv_goto (tgt := 168) hx hb dX12_findSet_163 (by decide) ?_
            refine lv_lstore (lv' := [(5, .long r124), (7, .int w60), (10, .long r124), (9, .int w103), (8, .int w59), (4, .int w35), (0, .ref h0), (1, .int v), (2, .int u), (3, .int a)]) hx hb dX12_findSet_168 hl (by decide) rfl (fun ls hl => ?_)
            refine lv_aload_n hx hb dX12_findSet_170 rfl (lv_at hl 6 rfl) ?_
            refine lv_iload hx hb dX12_findSet_171 (lv_at hl 5 rfl) ?_
            have hf_150 : f126 (ρ h0 2) = .inl (κ 0, 12967, .inl g27) := (hF127 _ (by rw [y1]; decide)).trans hk105k
            have hf_151 : f126 (ρ h0 46) = .inl (κ 0, 6, .inl g74) := (hF127 _ (by rw [y21]; decide)).trans hk107k
            have tf152 : mo_hd (mo_i (f126 (ρ h0 46)) = g74) := tfa_i hf_151
            refine tpk_13 hT ht_h0 (fun o153_x0 o153_x1 o153_x7 o153_x9 o153_x10 o153_x11 o153_x12 o153_x13 o153_x14 o153_x15 o153_x16 o153_x17 o153_x18 o153_x19 o153_x20 o153_x22 o153_x25 o153_x28 o153_x29 o153_x32 o153_x33 o153_x34 o153_x35 o153_x36 o153_x37 o153_x38 o153_x47 o153_x48 hf_o153 ro153_0 ro153_1 ro153_2 ro153_3 ro153_4 ro153_5 ro153_6 ro153_7 ro153_8 ro153_9 ro153_10 ro153_11 ro153_12 ro153_13 => ?_)
            refine tpk_pos (tp_in hG ht_h0 (by decide)) hf_o153 (fun q154 eq154 => ?_)
            have hFc := tp_fr hD hS hA
            refine va_calli (va_runV (As := [.int w35]) (rest := []) ⟨hx, hb, hml, hown, hts⟩ (t_X12_nextPlaces l dC dI _ κ τ ν ρ L f126 hG hT h0 w35 ht_h0 (by first | decide | (first | omega | (have u0 := mo_un jf51; omega))) (by first | (simp only [(mo_un tf152), mo_i1, mo_l1]; exact (show mo_PM (mo_R g74) w35.toInt from hPM)) | (rw [(mo_un tf152)]; exact (show mo_PM (mo_R g74) w35.toInt from hPM)))) (cwV 1 hts gX12_findSet_X12_nextPlaces rfl rfl rfl ⟨rfl, pd_X12_nextPlaces⟩ ⟨Nat.le_of_ble_eq_true rfl, Nat.le_of_ble_eq_true rfl⟩) ⟨pz_blind, va_recv hK hP (ci := 12) (q0 := q154) rfl eq154, pz_pre hP hK hD hN⟩ rfl rfl hl.1 rfl (lv_room (Nat.le_of_ble_eq_true rfl)) dX12_findSet_173 ⟨Nat.le_of_ble_eq_true rfl, Nat.le_of_ble_eq_true rfl⟩) hS (fun q _ h => hFc q h) hFc (fun r155 f157 t H1 locs ht hvm hw156 hB hz1 hk1 hS => ?_)
            refine tn_4 hw156 (fun hT hF158 hw156r hw156p => ?_); clear hw156
            have hR := hR.then hF158 (by decide)
            have hP := hB.1; rw [ht] at hP; have hD := tp_ad f157 hD; clear hB hFc hz1 hk1; subst ht; generalize t.heap = H at hP hS ⊢
            refine tpk_76 hT y21 (fun g160 hf_o159 => ?_)
            have tf161 : mo_hd (mo_i (f157 (ρ h0 46)) = g160) := tfa_i hf_o159
            have tk162 : mo_hd (mo_PM (mo_R g160) w35.toInt ∧ mo_VL (mo_R g74) w35.toInt.toNat ≤ mo_VL (mo_R g160) w35.toInt.toNat ∧ (r155.toInt ≠ 0 → mo_VL (mo_R g74) w35.toInt.toNat < mo_VL (mo_R g160) w35.toInt.toNat)) := by have q9 := hw156p; first | (simp only [(mo_un tf161), (mo_un tf152), mo_i1, mo_l1] at q9; exact q9) | (rw [(mo_un tf161), (mo_un tf152)] at q9; exact q9)
            clear hw156p
            have hPM := tk162.1
            have hPMc := hPM.bd (by (first | omega | (have u1 := mo_un tk162; first | omega | (have u0 := mo_un jf51; omega)))) (by (first | omega | (have u1 := mo_un tk162; first | omega | (have u0 := mo_un jf51; omega))))
            have hVm := tk162.2
            refine lv_istore (lv' := [(8, .int r155), (5, .long r124), (7, .int w60), (10, .long r124), (9, .int w103), (4, .int w35), (0, .ref h0), (1, .int v), (2, .int u), (3, .int a)]) hx hb dX12_findSet_176 hl (by decide) rfl (fun ls hl => ?_)
            refine lv_goto (tgt := 61) hx hb dX12_findSet_178 (by decide) ?_
            have hf_163 : f157 (ρ h0 2) = .inl (κ 0, 12967, .inl g27) := (hF158 _ (by rw [y1]; decide)).trans hf_150
            have hf_164 : f126 (ρ h0 45) = .inl (κ 0, 6, .inl g53) := (hF127 _ (by rw [y20]; decide)).trans hk106k
            have hf_165 : f157 (ρ h0 45) = .inl (κ 0, 6, .inl g53) := (hF158 _ (by rw [y20]; decide)).trans hf_164
            have hf_166 : f126 (ρ h0 43) = .inl (κ 1, 192, .inr (.inl g32)) := (hF127 _ (by rw [y18]; decide)).trans hk108k
            have hf_167 : f157 (ρ h0 43) = .inl (κ 1, 192, .inr (.inl g32)) := (hF158 _ (by rw [y18]; decide)).trans hf_166
            have hf_168 : f126 (ρ h0 44) = .inl (κ 0, 192, .inl g29) := (hF127 _ (by rw [y19]; decide)).trans hk109k
            have hf_169 : f157 (ρ h0 44) = .inl (κ 0, 192, .inl g29) := (hF158 _ (by rw [y19]; decide)).trans hf_168
            exact ih70 _ _ _ _ (by rw [hn71]; first | (simp only [(mo_un tf161), mo_i1, mo_l1]; exact (show (46656 - mo_VL (mo_R g160) w35.toInt.toNat).toNat + ((r155.toInt)).toNat < (46656 - mo_VL (mo_R g74) w35.toInt.toNat).toNat + ((w59.toInt)).toNat from by (first | omega | (have u1 := mo_un tk162; first | omega | (have u0 := mo_un jf51; omega))))) | (rw [(mo_un tf161)]; exact (show (46656 - mo_VL (mo_R g160) w35.toInt.toNat).toNat + ((r155.toInt)).toNat < (46656 - mo_VL (mo_R g74) w35.toInt.toNat).toNat + ((w59.toInt)).toNat from by (first | omega | (have u1 := mo_un tk162; first | omega | (have u0 := mo_un jf51; omega)))))) ⟨f157, r155, w60, r124, rfl, hT, hR, hf_163, hf_165, hf_167, hf_169, (by first | (simp only [(mo_un tf161), mo_i1, mo_l1]; exact (show mo_PM (mo_R g160) w35.toInt from hPM)) | (rw [(mo_un tf161)]; exact (show mo_PM (mo_R g160) w35.toInt from hPM))), (by (first | omega | (have u1 := mo_un tk162; first | omega | (have u0 := mo_un jf51; omega)))), (by first | exact (fun _ => hGD) | exact k62 | (intro q9; exfalso; (first | omega | (have u1 := mo_un tk162; first | omega | (have u0 := mo_un jf51; omega)))) | (intro q9; exact k62 (by (first | omega | (have u1 := mo_un tk162; first | omega | (have u0 := mo_un jf51; omega)))))), (by (first | omega | (have u1 := mo_un tk162; first | omega | (have u0 := mo_un jf51; omega)))), hP, hD, hS, lv_sub hl [0, 2, 1, 5, 6, 7, 8, 9] rfl⟩
        · have ic128 : r124.toInt > w61.toInt := zl_lef rfl rfl c128
          refine lv_iload hx hb dX12_findSet_144 (lv_at hl 1 rfl) ?_
          refine lv_goto (tgt := 151) hx hb dX12_findSet_146 (by decide) ?_
          refine lv_istore (lv' := [(7, .int w103), (10, .long r124), (9, .int w103), (8, .int w59), (5, .long w61), (4, .int w35), (0, .ref h0), (1, .int v), (2, .int u), (3, .int a)]) hx hb dX12_findSet_151 hl (by decide) rfl (fun ls hl => ?_)
          refine lv_lload hx hb dX12_findSet_153 (lv_at hl 1 rfl) ?_
          refine lv_lload hx hb dX12_findSet_155 (lv_at hl 4 rfl) ?_
          refine W.lcmp hx hb dX12_findSet_157 ?_
          refine lv_if_le (tgt := 166) hx hb dX12_findSet_158 (by decide) (fun c170 => ?_) (fun c170 => ?_)
          · have ic170 : r124.toInt ≤ w61.toInt := zl_le rfl rfl c170
            refine lv_lload hx hb dX12_findSet_166 (lv_at hl 4 rfl) ?_
            refine lv_lstore (lv' := [(5, .long w61), (7, .int w103), (10, .long r124), (9, .int w103), (8, .int w59), (4, .int w35), (0, .ref h0), (1, .int v), (2, .int u), (3, .int a)]) hx hb dX12_findSet_168 hl (by decide) rfl (fun ls hl => ?_)
            refine lv_aload_n hx hb dX12_findSet_170 rfl (lv_at hl 6 rfl) ?_
            refine lv_iload hx hb dX12_findSet_171 (lv_at hl 5 rfl) ?_
            have hf_171 : f126 (ρ h0 2) = .inl (κ 0, 12967, .inl g27) := (hF127 _ (by rw [y1]; decide)).trans hk105k
            have hf_172 : f126 (ρ h0 46) = .inl (κ 0, 6, .inl g74) := (hF127 _ (by rw [y21]; decide)).trans hk107k
            have tf173 : mo_hd (mo_i (f126 (ρ h0 46)) = g74) := tfa_i hf_172
            refine tpk_13 hT ht_h0 (fun o174_x0 o174_x1 o174_x7 o174_x9 o174_x10 o174_x11 o174_x12 o174_x13 o174_x14 o174_x15 o174_x16 o174_x17 o174_x18 o174_x19 o174_x20 o174_x22 o174_x25 o174_x28 o174_x29 o174_x32 o174_x33 o174_x34 o174_x35 o174_x36 o174_x37 o174_x38 o174_x47 o174_x48 hf_o174 ro174_0 ro174_1 ro174_2 ro174_3 ro174_4 ro174_5 ro174_6 ro174_7 ro174_8 ro174_9 ro174_10 ro174_11 ro174_12 ro174_13 => ?_)
            refine tpk_pos (tp_in hG ht_h0 (by decide)) hf_o174 (fun q175 eq175 => ?_)
            have hFc := tp_fr hD hS hA
            refine va_calli (va_runV (As := [.int w35]) (rest := []) ⟨hx, hb, hml, hown, hts⟩ (t_X12_nextPlaces l dC dI _ κ τ ν ρ L f126 hG hT h0 w35 ht_h0 (by first | decide | (first | omega | (have u0 := mo_un jf51; omega))) (by first | (simp only [(mo_un tf173), mo_i1, mo_l1]; exact (show mo_PM (mo_R g74) w35.toInt from hPM)) | (rw [(mo_un tf173)]; exact (show mo_PM (mo_R g74) w35.toInt from hPM)))) (cwV 1 hts gX12_findSet_X12_nextPlaces rfl rfl rfl ⟨rfl, pd_X12_nextPlaces⟩ ⟨Nat.le_of_ble_eq_true rfl, Nat.le_of_ble_eq_true rfl⟩) ⟨pz_blind, va_recv hK hP (ci := 12) (q0 := q175) rfl eq175, pz_pre hP hK hD hN⟩ rfl rfl hl.1 rfl (lv_room (Nat.le_of_ble_eq_true rfl)) dX12_findSet_173 ⟨Nat.le_of_ble_eq_true rfl, Nat.le_of_ble_eq_true rfl⟩) hS (fun q _ h => hFc q h) hFc (fun r176 f178 t H1 locs ht hvm hw177 hB hz1 hk1 hS => ?_)
            refine tn_4 hw177 (fun hT hF179 hw177r hw177p => ?_); clear hw177
            have hR := hR.then hF179 (by decide)
            have hP := hB.1; rw [ht] at hP; have hD := tp_ad f178 hD; clear hB hFc hz1 hk1; subst ht; generalize t.heap = H at hP hS ⊢
            refine tpk_76 hT y21 (fun g181 hf_o180 => ?_)
            have tf182 : mo_hd (mo_i (f178 (ρ h0 46)) = g181) := tfa_i hf_o180
            have tk183 : mo_hd (mo_PM (mo_R g181) w35.toInt ∧ mo_VL (mo_R g74) w35.toInt.toNat ≤ mo_VL (mo_R g181) w35.toInt.toNat ∧ (r176.toInt ≠ 0 → mo_VL (mo_R g74) w35.toInt.toNat < mo_VL (mo_R g181) w35.toInt.toNat)) := by have q9 := hw177p; first | (simp only [(mo_un tf182), (mo_un tf173), mo_i1, mo_l1] at q9; exact q9) | (rw [(mo_un tf182), (mo_un tf173)] at q9; exact q9)
            clear hw177p
            have hPM := tk183.1
            have hPMc := hPM.bd (by (first | omega | (have u1 := mo_un tk183; first | omega | (have u0 := mo_un jf51; omega)))) (by (first | omega | (have u1 := mo_un tk183; first | omega | (have u0 := mo_un jf51; omega))))
            have hVm := tk183.2
            refine lv_istore (lv' := [(8, .int r176), (5, .long w61), (7, .int w103), (10, .long r124), (9, .int w103), (4, .int w35), (0, .ref h0), (1, .int v), (2, .int u), (3, .int a)]) hx hb dX12_findSet_176 hl (by decide) rfl (fun ls hl => ?_)
            refine lv_goto (tgt := 61) hx hb dX12_findSet_178 (by decide) ?_
            have hf_184 : f178 (ρ h0 2) = .inl (κ 0, 12967, .inl g27) := (hF179 _ (by rw [y1]; decide)).trans hf_171
            have hf_185 : f126 (ρ h0 45) = .inl (κ 0, 6, .inl g53) := (hF127 _ (by rw [y20]; decide)).trans hk106k
            have hf_186 : f178 (ρ h0 45) = .inl (κ 0, 6, .inl g53) := (hF179 _ (by rw [y20]; decide)).trans hf_185
            have hf_187 : f126 (ρ h0 43) = .inl (κ 1, 192, .inr (.inl g32)) := (hF127 _ (by rw [y18]; decide)).trans hk108k
            have hf_188 : f178 (ρ h0 43) = .inl (κ 1, 192, .inr (.inl g32)) := (hF179 _ (by rw [y18]; decide)).trans hf_187
            have hf_189 : f126 (ρ h0 44) = .inl (κ 0, 192, .inl g29) := (hF127 _ (by rw [y19]; decide)).trans hk109k
            have hf_190 : f178 (ρ h0 44) = .inl (κ 0, 192, .inl g29) := (hF179 _ (by rw [y19]; decide)).trans hf_189
            exact ih70 _ _ _ _ (by rw [hn71]; first | (simp only [(mo_un tf182), mo_i1, mo_l1]; exact (show (46656 - mo_VL (mo_R g181) w35.toInt.toNat).toNat + ((r176.toInt)).toNat < (46656 - mo_VL (mo_R g74) w35.toInt.toNat).toNat + ((w59.toInt)).toNat from by (first | omega | (have u1 := mo_un tk183; first | omega | (have u0 := mo_un jf51; omega))))) | (rw [(mo_un tf182)]; exact (show (46656 - mo_VL (mo_R g181) w35.toInt.toNat).toNat + ((r176.toInt)).toNat < (46656 - mo_VL (mo_R g74) w35.toInt.toNat).toNat + ((w59.toInt)).toNat from by (first | omega | (have u1 := mo_un tk183; first | omega | (have u0 := mo_un jf51; omega)))))) ⟨f178, r176, w103, w61, rfl, hT, hR, hf_184, hf_186, hf_188, hf_190, (by first | (simp only [(mo_un tf182), mo_i1, mo_l1]; exact (show mo_PM (mo_R g181) w35.toInt from hPM)) | (rw [(mo_un tf182)]; exact (show mo_PM (mo_R g181) w35.toInt from hPM))), (by (first | omega | (have u1 := mo_un tk183; first | omega | (have u0 := mo_un jf51; omega)))), (by first | exact (fun _ => hGD) | exact k62 | (intro q9; exfalso; (first | omega | (have u1 := mo_un tk183; first | omega | (have u0 := mo_un jf51; omega)))) | (intro q9; exact k62 (by (first | omega | (have u1 := mo_un tk183; first | omega | (have u0 := mo_un jf51; omega)))))), (by (first | omega | (have u1 := mo_un tk183; first | omega | (have u0 := mo_un jf51; omega)))), hP, hD, hS, lv_sub hl [0, 2, 1, 5, 6, 7, 8, 9] rfl⟩
          · have ic170 : r124.toInt > w61.toInt := zl_lef rfl rfl c170
            refine lv_lload hx hb dX12_findSet_161 (lv_at hl 1 rfl) ?_
            refine lv_goto (tgt := 168) hx hb dX12_findSet_163 (by decide) ?_
            refine lv_lstore (lv' := [(5, .long r124), (7, .int w103), (10, .long r124), (9, .int w103), (8, .int w59), (4, .int w35), (0, .ref h0), (1, .int v), (2, .int u), (3, .int a)]) hx hb dX12_findSet_168 hl (by decide) rfl (fun ls hl => ?_)
            refine lv_aload_n hx hb dX12_findSet_170 rfl (lv_at hl 6 rfl) ?_
            refine lv_iload hx hb dX12_findSet_171 (lv_at hl 5 rfl) ?_
            have hf_191 : f126 (ρ h0 2) = .inl (κ 0, 12967, .inl g27) := (hF127 _ (by rw [y1]; decide)).trans hk105k
            have hf_192 : f126 (ρ h0 46) = .inl (κ 0, 6, .inl g74) := (hF127 _ (by rw [y21]; decide)).trans hk107k
            have tf193 : mo_hd (mo_i (f126 (ρ h0 46)) = g74) := tfa_i hf_192
            refine tpk_13 hT ht_h0 (fun o194_x0 o194_x1 o194_x7 o194_x9 o194_x10 o194_x11 o194_x12 o194_x13 o194_x14 o194_x15 o194_x16 o194_x17 o194_x18 o194_x19 o194_x20 o194_x22 o194_x25 o194_x28 o194_x29 o194_x32 o194_x33 o194_x34 o194_x35 o194_x36 o194_x37 o194_x38 o194_x47 o194_x48 hf_o194 ro194_0 ro194_1 ro194_2 ro194_3 ro194_4 ro194_5 ro194_6 ro194_7 ro194_8 ro194_9 ro194_10 ro194_11 ro194_12 ro194_13 => ?_)
            refine tpk_pos (tp_in hG ht_h0 (by decide)) hf_o194 (fun q195 eq195 => ?_)
            have hFc := tp_fr hD hS hA
            refine va_calli (va_runV (As := [.int w35]) (rest := []) ⟨hx, hb, hml, hown, hts⟩ (t_X12_nextPlaces l dC dI _ κ τ ν ρ L f126 hG hT h0 w35 ht_h0 (by first | decide | (first | omega | (have u0 := mo_un jf51; omega))) (by first | (simp only [(mo_un tf193), mo_i1, mo_l1]; exact (show mo_PM (mo_R g74) w35.toInt from hPM)) | (rw [(mo_un tf193)]; exact (show mo_PM (mo_R g74) w35.toInt from hPM)))) (cwV 1 hts gX12_findSet_X12_nextPlaces rfl rfl rfl ⟨rfl, pd_X12_nextPlaces⟩ ⟨Nat.le_of_ble_eq_true rfl, Nat.le_of_ble_eq_true rfl⟩) ⟨pz_blind, va_recv hK hP (ci := 12) (q0 := q195) rfl eq195, pz_pre hP hK hD hN⟩ rfl rfl hl.1 rfl (lv_room (Nat.le_of_ble_eq_true rfl)) dX12_findSet_173 ⟨Nat.le_of_ble_eq_true rfl, Nat.le_of_ble_eq_true rfl⟩) hS (fun q _ h => hFc q h) hFc (fun r196 f198 t H1 locs ht hvm hw197 hB hz1 hk1 hS => ?_)
            refine tn_4 hw197 (fun hT hF199 hw197r hw197p => ?_); clear hw197
            have hR := hR.then hF199 (by decide)
            have hP := hB.1; rw [ht] at hP; have hD := tp_ad f198 hD; clear hB hFc hz1 hk1; subst ht; generalize t.heap = H at hP hS ⊢
            refine tpk_76 hT y21 (fun g201 hf_o200 => ?_)
            have tf202 : mo_hd (mo_i (f198 (ρ h0 46)) = g201) := tfa_i hf_o200
            have tk203 : mo_hd (mo_PM (mo_R g201) w35.toInt ∧ mo_VL (mo_R g74) w35.toInt.toNat ≤ mo_VL (mo_R g201) w35.toInt.toNat ∧ (r196.toInt ≠ 0 → mo_VL (mo_R g74) w35.toInt.toNat < mo_VL (mo_R g201) w35.toInt.toNat)) := by have q9 := hw197p; first | (simp only [(mo_un tf202), (mo_un tf193), mo_i1, mo_l1] at q9; exact q9) | (rw [(mo_un tf202), (mo_un tf193)] at q9; exact q9)
            clear hw197p
            have hPM := tk203.1
            have hPMc := hPM.bd (by (first | omega | (have u1 := mo_un tk203; first | omega | (have u0 := mo_un jf51; omega)))) (by (first | omega | (have u1 := mo_un tk203; first | omega | (have u0 := mo_un jf51; omega))))
            have hVm := tk203.2
            refine lv_istore (lv' := [(8, .int r196), (5, .long r124), (7, .int w103), (10, .long r124), (9, .int w103), (4, .int w35), (0, .ref h0), (1, .int v), (2, .int u), (3, .int a)]) hx hb dX12_findSet_176 hl (by decide) rfl (fun ls hl => ?_)
            refine lv_goto (tgt := 61) hx hb dX12_findSet_178 (by decide) ?_
            have hf_204 : f198 (ρ h0 2) = .inl (κ 0, 12967, .inl g27) := (hF199 _ (by rw [y1]; decide)).trans hf_191
            have hf_205 : f126 (ρ h0 45) = .inl (κ 0, 6, .inl g53) := (hF127 _ (by rw [y20]; decide)).trans hk106k
            have hf_206 : f198 (ρ h0 45) = .inl (κ 0, 6, .inl g53) := (hF199 _ (by rw [y20]; decide)).trans hf_205
            have hf_207 : f126 (ρ h0 43) = .inl (κ 1, 192, .inr (.inl g32)) := (hF127 _ (by rw [y18]; decide)).trans hk108k
            have hf_208 : f198 (ρ h0 43) = .inl (κ 1, 192, .inr (.inl g32)) := (hF199 _ (by rw [y18]; decide)).trans hf_207
            have hf_209 : f126 (ρ h0 44) = .inl (κ 0, 192, .inl g29) := (hF127 _ (by rw [y19]; decide)).trans hk109k
            have hf_210 : f198 (ρ h0 44) = .inl (κ 0, 192, .inl g29) := (hF199 _ (by rw [y19]; decide)).trans hf_209
            exact ih70 _ _ _ _ (by rw [hn71]; first | (simp only [(mo_un tf202), mo_i1, mo_l1]; exact (show (46656 - mo_VL (mo_R g201) w35.toInt.toNat).toNat + ((r196.toInt)).toNat < (46656 - mo_VL (mo_R g74) w35.toInt.toNat).toNat + ((w59.toInt)).toNat from by (first | omega | (have u1 := mo_un tk203; first | omega | (have u0 := mo_un jf51; omega))))) | (rw [(mo_un tf202)]; exact (show (46656 - mo_VL (mo_R g201) w35.toInt.toNat).toNat + ((r196.toInt)).toNat < (46656 - mo_VL (mo_R g74) w35.toInt.toNat).toNat + ((w59.toInt)).toNat from by (first | omega | (have u1 := mo_un tk203; first | omega | (have u0 := mo_un jf51; omega)))))) ⟨f198, r196, w103, r124, rfl, hT, hR, hf_204, hf_206, hf_208, hf_210, (by first | (simp only [(mo_un tf202), mo_i1, mo_l1]; exact (show mo_PM (mo_R g201) w35.toInt from hPM)) | (rw [(mo_un tf202)]; exact (show mo_PM (mo_R g201) w35.toInt from hPM))), (by (first | omega | (have u1 := mo_un tk203; first | omega | (have u0 := mo_un jf51; omega)))), (by first | exact (fun _ => hGD) | exact k62 | (intro q9; exfalso; (first | omega | (have u1 := mo_un tk203; first | omega | (have u0 := mo_un jf51; omega)))) | (intro q9; exact k62 (by (first | omega | (have u1 := mo_un tk203; first | omega | (have u0 := mo_un jf51; omega)))))), (by (first | omega | (have u1 := mo_un tk203; first | omega | (have u0 := mo_un jf51; omega)))), hP, hD, hS, lv_sub hl [0, 2, 1, 5, 6, 7, 8, 9] rfl⟩
      · have ic121 : w102.toInt < w35.toInt := zi_gef rfl rfl c121
        have hPk := hPM.1 w102.toInt (by (first | omega | (have u0 := mo_un jf51; omega))) (by (first | omega | (have u0 := mo_un jf51; omega)))
        have hMk := hMB.2.2.1 w102.toInt (by (first | omega | (have u0 := mo_un jf51; omega))) (by (first | omega | (have u0 := mo_un jf51; omega)))
        refine lv_aload_n hx hb dX12_findSet_79 rfl (lv_at hl 6 rfl) ?_
        refine tpk_13 hT ht_h0 (fun o211_x0 o211_x1 o211_x7 o211_x9 o211_x10 o211_x11 o211_x12 o211_x13 o211_x14 o211_x15 o211_x16 o211_x17 o211_x18 o211_x19 o211_x20 o211_x22 o211_x25 o211_x28 o211_x29 o211_x32 o211_x33 o211_x34 o211_x35 o211_x36 o211_x37 o211_x38 o211_x47 o211_x48 hf_o211 ro211_0 ro211_1 ro211_2 ro211_3 ro211_4 ro211_5 ro211_6 ro211_7 ro211_8 ro211_9 ro211_10 ro211_11 ro211_12 ro211_13 => ?_)
        refine tpk_pos (tp_in hG ht_h0 (by decide)) hf_o211 (fun q212 eq212 => ?_)
        refine va_get (D := (dC, dI)) (ci := 12) (v := .ref (ρ h0 42)) (C := RX12) (T := TX12) (N := 53) hx hb hts hfX12 hown hK hP q212 eq212 rfl 42 (by decide) (hts (.fieldLink RX12 64 "ColdShipsModel" "line" "[I") wa_166) (fun _ h9 => h9) rfl dX12_findSet_80 ?_
        refine lv_aload_n hx hb dX12_findSet_83 rfl (lv_at hl 6 rfl) ?_
        refine va_get (D := (dC, dI)) (ci := 12) (v := .ref (ρ h0 46)) (C := RX12) (T := TX12) (N := 53) hx hb hts hfX12 hown hK hP q212 eq212 rfl 46 (by decide) (hts (.fieldLink RX12 76 "ColdShipsModel" "places" "[I") wa_170) (fun _ h9 => h9) rfl dX12_findSet_84 ?_
        refine lv_iload hx hb dX12_findSet_87 (lv_at hl 0 rfl) ?_
        refine tpk_pos (tp_in hG y21 (by decide)) hk107k (fun q213 eq213 => ?_)
        refine va_iald hx hb hK hP q213 0 eq213 rfl (vp_in_iff.mpr ⟨by (first | omega | (have u0 := mo_un jf51; omega)), by (first | omega | (have u0 := mo_un jf51; omega))⟩) dX12_findSet_89 ?_
        refine lv_topi (fun z214 ez214 => ?_)
        have jz214 : z214.toInt = mo_R g74 w102.toInt := mo_rd ez214 (by (first | omega | (have u0 := mo_un jf51; omega)))
        refine lv_aload_n hx hb dX12_findSet_90 rfl (lv_at hl 6 rfl) ?_
        refine va_get (D := (dC, dI)) (ci := 12) (v := .ref (ρ h0 45)) (C := RX12) (T := TX12) (N := 53) hx hb hts hfX12 hown hK hP q212 eq212 rfl 45 (by decide) (hts (.fieldLink RX12 73 "ColdShipsModel" "members" "[I") wa_169) (fun _ h9 => h9) rfl dX12_findSet_91 ?_
        refine lv_iload hx hb dX12_findSet_94 (lv_at hl 0 rfl) ?_
        refine tpk_pos (tp_in hG y20 (by decide)) hk106k (fun q215 eq215 => ?_)
        refine va_iald hx hb hK hP q215 0 eq215 rfl (vp_in_iff.mpr ⟨by (first | omega | (have u0 := mo_un jf51; omega)), by (first | omega | (have u0 := mo_un jf51; omega))⟩) dX12_findSet_96 ?_
        refine lv_topi (fun z216 ez216 => ?_)
        have jz216 : z216.toInt = mo_R g53 w102.toInt := mo_rd ez216 (by (first | omega | (have u0 := mo_un jf51; omega)))
        refine tpk_pos (tp_in hG y17 (by decide)) hf_o118 (fun q217 eq217 => ?_)
        refine va_iast hx hb hK hP hD hS q217 0 eq217 rfl (vp_in_iff.mpr ⟨by (first | omega | (have u0 := mo_un jf51; omega)), by (first | omega | (have u0 := mo_un jf51; omega))⟩) dX12_findSet_97 (tp_k (.inl (κ 0, 6, .inl (upd g119 z214.toNatClampNeg z216))) hD (tp_in hG y17 (by decide)) eq217 (fun f218 H locs hP hD hS g220 k219 => ?_))
        have hT := hT.up y17 g220 k219 tp_o72
        have hR := hR.up y17 (by decide) k219
        have hU222 : mo_U (mo_R g119) (mo_R (upd g119 z214.toNatClampNeg z216)) (z214.toInt) (z216.toInt) := mo_up (by (first | omega | (have u0 := mo_un jf51; omega))) (rfl : z216.toInt = _) (by (first | omega | (have u0 := mo_un jf51; omega)))
        generalize (upd g119 z214.toNatClampNeg z216) = g221 at g220 hU222
        refine lv_iload hx hb dX12_findSet_98 (lv_at hl 1 rfl) ?_
        refine lv_aload_n hx hb dX12_findSet_100 rfl (lv_at hl 6 rfl) ?_
        have hf_223 : f218 h0 = .inr (12, [.int o211_x0, .int o211_x1, .ref (ρ h0 2), .ref (ρ h0 3), .ref (ρ h0 4), .ref (ρ h0 5), .ref (ρ h0 6), .int o211_x7, .ref (ρ h0 8), .int o211_x9, .int o211_x10, .int o211_x11, .int o211_x12, .long o211_x13, .int o211_x14, .int o211_x15, .int o211_x16, .int o211_x17, .int o211_x18, .int o211_x19, .int o211_x20, .ref (ρ h0 21), .int o211_x22, .ref (ρ h0 23), .ref (ρ h0 24), .int o211_x25, .ref (ρ h0 26), .ref (ρ h0 27), .int o211_x28, .int o211_x29, .ref (ρ h0 30), .ref (ρ h0 31), .int o211_x32, .long o211_x33, .long o211_x34, .long o211_x35, .int o211_x36, .int o211_x37, .int o211_x38, .ref (ρ h0 39), .ref (ρ h0 40), .ref (ρ h0 41), .ref (ρ h0 42), .ref (ρ h0 43), .ref (ρ h0 44), .ref (ρ h0 45), .ref (ρ h0 46), .int o211_x47, .int o211_x48, .ref (ρ h0 49), .ref (ρ h0 50), .ref (ρ h0 51), .ref (ρ h0 52)]) := (k219 _ (tp_ne ht_h0 y17 (by decide))).trans hf_o211
        refine tpk_pos (tp_in hG ht_h0 (by decide)) hf_223 (fun q224 eq224 => ?_)
        refine va_get (D := (dC, dI)) (ci := 12) (v := .ref (ρ h0 46)) (C := RX12) (T := TX12) (N := 53) hx hb hts hfX12 hown hK hP q224 eq224 rfl 46 (by decide) (hts (.fieldLink RX12 76 "ColdShipsModel" "places" "[I") wa_170) (fun _ h9 => h9) rfl dX12_findSet_101 ?_
        refine lv_iload hx hb dX12_findSet_104 (lv_at hl 0 rfl) ?_
        have hf_225 : f218 (ρ h0 46) = .inl (κ 0, 6, .inl g74) := (k219 _ (tp_ne y21 y17 (by decide))).trans hk107k
        refine tpk_pos (tp_in hG y21 (by decide)) hf_225 (fun q226 eq226 => ?_)
        refine va_iald hx hb hK hP q226 0 eq226 rfl (vp_in_iff.mpr ⟨by (first | omega | (have u0 := mo_un jf51; omega)), by (first | omega | (have u0 := mo_un jf51; omega))⟩) dX12_findSet_106 ?_
        refine lv_topi (fun z227 ez227 => ?_)
        have jz227 : z227.toInt = mo_R g74 w102.toInt := mo_rd ez227 (by (first | omega | (have u0 := mo_un jf51; omega)))
        refine lv_iconst (v := 3) hx hb dX12_findSet_107 (by decide) ?_
        refine lv_aload_n hx hb dX12_findSet_108 rfl (lv_at hl 6 rfl) ?_
        refine va_get (D := (dC, dI)) (ci := 12) (v := .ref (ρ h0 45)) (C := RX12) (T := TX12) (N := 53) hx hb hts hfX12 hown hK hP q224 eq224 rfl 45 (by decide) (hts (.fieldLink RX12 73 "ColdShipsModel" "members" "[I") wa_169) (fun _ h9 => h9) rfl dX12_findSet_109 ?_
        refine lv_iload hx hb dX12_findSet_112 (lv_at hl 0 rfl) ?_
        have hf_228 : f218 (ρ h0 45) = .inl (κ 0, 6, .inl g53) := (k219 _ (tp_ne y20 y17 (by decide))).trans hk106k
        refine tpk_pos (tp_in hG y20 (by decide)) hf_228 (fun q229 eq229 => ?_)
        refine va_iald hx hb hK hP q229 0 eq229 rfl (vp_in_iff.mpr ⟨by (first | omega | (have u0 := mo_un jf51; omega)), by (first | omega | (have u0 := mo_un jf51; omega))⟩) dX12_findSet_114 ?_
        refine lv_topi (fun z230 ez230 => ?_)
        have jz230 : z230.toInt = mo_R g53 w102.toInt := mo_rd ez230 (by (first | omega | (have u0 := mo_un jf51; omega)))
        refine lv_imul hx hb dX12_findSet_115 ?_
        refine lv_topi (fun z231 ez231 => ?_)
        have iz231 : z231.toInt = 3 * z230.toInt := zi_mul ez231 rfl rfl (by (first | omega | (have u0 := mo_un jf51; omega))) (by (first | omega | (have u0 := mo_un jf51; omega)))
        refine lv_ishl hx hb dX12_findSet_116 ?_
        refine lv_topi (fun z232 ez232 => ?_)
        refine lv_ior hx hb dX12_findSet_117 ?_
        refine lv_topi (fun z233 ez233 => ?_)
        have tf234 : mo_hd (mo_i (f218 (ρ h0 46)) = g74) := tfa_i hf_225
        have tf235 : mo_hd (mo_i (f218 (ρ h0 45)) = g53) := tfa_i hf_228
        have hfree := jf117.free hMB (by (first | omega | (have u0 := mo_un jf51; omega))) (by (first | omega | (have u0 := mo_un jf51; omega)))
        have hcd := jf117.1
        have hcode : z233.toInt = w103.toInt + (mo_R g74) w102.toInt * mo_p8 ((mo_R g53) w102.toInt) := by rw [zb_cd (M := z230.toInt) ez232 ez233 (by (first | omega | (have u0 := mo_un jf51; omega))) (by (first | omega | (have u0 := mo_un jf51; omega))) (by (first | omega | (have u0 := mo_un jf51; omega))) (by (first | omega | (have u0 := mo_un jf51; omega))) (by (first | omega | (have u0 := mo_un jf51; omega))) (by (first | omega | (have u0 := mo_un jf51; omega))) (by (first | omega | (have u0 := mo_un jf51; omega))) (by rw [jz230]; exact hfree), jz227, jz230]
        have hcz := (mo_pl_add (x := w103.toInt) (p := (mo_R g74) w102.toInt) (m := (mo_R g53) w102.toInt) (c := 0) (by (first | omega | (have u0 := mo_un jf51; omega))) (by (first | omega | (have u0 := mo_un jf51; omega))) (by (first | omega | (have u0 := mo_un jf51; omega))) (by (first | omega | (have u0 := mo_un jf51; omega))) (by (first | omega | (have u0 := mo_un jf51; omega))) (by (first | omega | (have u0 := mo_un jf51; omega))) (by (first | omega | (have u0 := mo_un jf51; omega))) (by (first | omega | (have u0 := mo_un jf51; omega))) hfree).2.2
        rw [← hcode] at hcz
        refine lv_istore (lv' := [(9, .int z233), (10, .int w102), (8, .int w59), (7, .int w60), (5, .long w61), (4, .int w35), (0, .ref h0), (1, .int v), (2, .int u), (3, .int a)]) hx hb dX12_findSet_118 hl (by decide) rfl (fun ls hl => ?_)
        obtain ⟨z236, ez236⟩ : ∃ y : Int32, y = w102 + 1 := ⟨_, rfl⟩
        refine lv_iinc (v := z236) (lv' := [(10, .int z236), (9, .int z233), (8, .int w59), (7, .int w60), (5, .long w61), (4, .int w35), (0, .ref h0), (1, .int v), (2, .int u), (3, .int a)]) hx hb dX12_findSet_120 hl (k := 1) rfl (by rw [ez236]; rfl) (by decide) rfl (fun ls hl => ?_)
        have iz236 : z236.toInt = w102.toInt + 1 := zi_add ez236 rfl rfl (by (first | omega | (have u0 := mo_un jf51; omega))) (by (first | omega | (have u0 := mo_un jf51; omega)))
        refine lv_goto (tgt := 72) hx hb dX12_findSet_123 (by decide) ?_
        have tf237 : mo_hd (mo_i (f218 (ρ h0 42)) = g221) := tfa_i g220
        have hf_238 : f218 (ρ h0 2) = .inl (κ 0, 12967, .inl g27) := (k219 _ (tp_ne y1 y17 (by decide))).trans hk105k
        have hf_239 : f218 (ρ h0 43) = .inl (κ 1, 192, .inr (.inl g32)) := (k219 _ (tp_ne y18 y17 (by decide))).trans hk108k
        have hf_240 : f218 (ρ h0 44) = .inl (κ 0, 192, .inl g29) := (k219 _ (tp_ne y19 y17 (by decide))).trans hk109k
        exact ih115 _ _ _ _ (by rw [hn116]; (first | omega | (have u0 := mo_un jf51; omega))) ⟨f218, z236, z233, rfl, hT, hR, hf_238, hf_228, hf_225, hf_239, hf_240, (by first | (simp only [(mo_un tf237), mo_i1, mo_l1]; exact (show mo_LC (mo_R g74) (mo_R g53) (mo_R g221) (z233.toInt) (z236.toInt) from jf117.up hPM hMB (by (first | omega | (have u0 := mo_un jf51; omega))) (by (first | omega | (have u0 := mo_un jf51; omega))) hU222 (by (first | omega | (have u0 := mo_un jf51; omega))) (by (first | omega | (have u0 := mo_un jf51; omega))) hcode (by (first | omega | (have u0 := mo_un jf51; omega))))) | (rw [(mo_un tf237)]; exact (show mo_LC (mo_R g74) (mo_R g53) (mo_R g221) (z233.toInt) (z236.toInt) from jf117.up hPM hMB (by (first | omega | (have u0 := mo_un jf51; omega))) (by (first | omega | (have u0 := mo_un jf51; omega))) hU222 (by (first | omega | (have u0 := mo_un jf51; omega))) (by (first | omega | (have u0 := mo_un jf51; omega))) hcode (by (first | omega | (have u0 := mo_un jf51; omega)))))), (by (first | omega | (have u0 := mo_un jf51; omega))), (by (first | omega | (have u0 := mo_un jf51; omega))), (by (first | omega | (have u0 := mo_un jf51; omega))), hP, hD, hS, lv_sub hl [0, 1, 2, 3, 4, 5, 6, 7, 8, 9] rfl⟩
  · have ic58 : w34.toInt < 6 := zi_gef rfl rfl c58
    refine lv_iload_n hx hb dX12_findSet_13 rfl (lv_at hl 4 rfl) ?_
    refine lv_iload hx hb dX12_findSet_14 (lv_at hl 0 rfl) ?_
    refine lv_ishr hx hb dX12_findSet_16 ?_
    refine lv_topi (fun z241 ez241 => ?_)
    refine lv_iconst (v := 1) hx hb dX12_findSet_17 (by decide) ?_
    refine lv_iand hx hb dX12_findSet_18 ?_
    refine lv_topi (fun z242 ez242 => ?_)
    have iz242 : 0 ≤ z242.toInt ∧ z242.toInt ≤ 1 := zb_mask ez242 (by decide)
    refine lv_iconst (v := 1) hx hb dX12_findSet_19 (by decide) ?_
    have hbt := zb_bt ez241 ez242 (by (first | omega | (have u0 := mo_un jf51; omega))) (by (first | omega | (have u0 := mo_un jf51; omega))) (by (first | omega | (have u0 := mo_un jf51; omega))) (by (first | omega | (have u0 := mo_un jf51; omega)))
    refine lv_icmp_ne (tgt := 44) hx hb dX12_findSet_20 (by decide) (fun c243 => ?_) (fun c243 => ?_)
    · have ic243 : z242.toInt ≠ 1 := zi_ne rfl rfl c243
      replace ic243 : z242.toInt ≤ 0 := by (first | omega | (have u0 := mo_un jf51; omega))
      obtain ⟨z244, ez244⟩ : ∃ y : Int32, y = w34 + 1 := ⟨_, rfl⟩
      refine lv_iinc (v := z244) (lv' := [(5, .int z244), (4, .int w35), (0, .ref h0), (1, .int v), (2, .int u), (3, .int a)]) hx hb dX12_findSet_44 hl (k := 0) rfl (by rw [ez244]; rfl) (by decide) rfl (fun ls hl => ?_)
      have iz244 : z244.toInt = w34.toInt + 1 := zi_add ez244 rfl rfl (by (first | omega | (have u0 := mo_un jf51; omega))) (by (first | omega | (have u0 := mo_un jf51; omega)))
      refine lv_goto (tgt := 6) hx hb dX12_findSet_47 (by decide) ?_
      exact ih48 _ _ _ _ (by rw [hn49]; (first | omega | (have u0 := mo_un jf51; omega))) ⟨f46, z244, w35, rfl, hT, hR, hk37k, hk38k, hk39k, (by first | (simp only [(mo_un tf54), mo_i1, mo_l1]; exact (show mo_MB (mo_R g53) u.toInt (w35.toInt) (z244.toInt) from mo_MB.no jf50 (hbt.2 (by (first | omega | (have u0 := mo_un jf51; omega)))) (by (first | omega | (have u0 := mo_un jf51; omega))) _ (by (first | omega | (have u0 := mo_un jf51; omega))))) | (rw [(mo_un tf54)]; exact (show mo_MB (mo_R g53) u.toInt (w35.toInt) (z244.toInt) from mo_MB.no jf50 (hbt.2 (by (first | omega | (have u0 := mo_un jf51; omega)))) (by (first | omega | (have u0 := mo_un jf51; omega))) _ (by (first | omega | (have u0 := mo_un jf51; omega)))))), (by first | (simp only [(mo_un tf57), mo_i1, mo_l1]; exact (show ∀ i, 0 ≤ i → i < (w35.toInt) → (mo_R g56) i = i from (fun i i0 i1 => jf51 i i0 (by (first | omega | (have u0 := mo_un jf51; omega)))))) | (rw [(mo_un tf57)]; exact (show ∀ i, 0 ≤ i → i < (w35.toInt) → (mo_R g56) i = i from (fun i i0 i1 => jf51 i i0 (by (first | omega | (have u0 := mo_un jf51; omega))))))), (by (first | omega | (have u0 := mo_un jf51; omega))), (by (first | omega | (have u0 := mo_un jf51; omega))), (by (first | omega | (have u0 := mo_un jf51; omega))), hP, hD, hS, lv_sub hl [0, 1, 2, 3, 4, 5] rfl⟩
    · have ic243 : z242.toInt = 1 := zi_nef rfl rfl c243
      refine lv_aload_n hx hb dX12_findSet_23 rfl (lv_at hl 2 rfl) ?_
      refine tpk_13 hT ht_h0 (fun o245_x0 o245_x1 o245_x7 o245_x9 o245_x10 o245_x11 o245_x12 o245_x13 o245_x14 o245_x15 o245_x16 o245_x17 o245_x18 o245_x19 o245_x20 o245_x22 o245_x25 o245_x28 o245_x29 o245_x32 o245_x33 o245_x34 o245_x35 o245_x36 o245_x37 o245_x38 o245_x47 o245_x48 hf_o245 ro245_0 ro245_1 ro245_2 ro245_3 ro245_4 ro245_5 ro245_6 ro245_7 ro245_8 ro245_9 ro245_10 ro245_11 ro245_12 ro245_13 => ?_)
      refine tpk_pos (tp_in hG ht_h0 (by decide)) hf_o245 (fun q246 eq246 => ?_)
      refine va_get (D := (dC, dI)) (ci := 12) (v := .ref (ρ h0 45)) (C := RX12) (T := TX12) (N := 53) hx hb hts hfX12 hown hK hP q246 eq246 rfl 45 (by decide) (hts (.fieldLink RX12 73 "ColdShipsModel" "members" "[I") wa_169) (fun _ h9 => h9) rfl dX12_findSet_24 ?_
      refine lv_iload hx hb dX12_findSet_27 (lv_at hl 1 rfl) ?_
      refine lv_iload hx hb dX12_findSet_29 (lv_at hl 0 rfl) ?_
      refine tpk_pos (tp_in hG y20 (by decide)) hf_o52 (fun q247 eq247 => ?_)
      refine va_iast hx hb hK hP hD hS q247 0 eq247 rfl (vp_in_iff.mpr ⟨by (first | omega | (have u0 := mo_un jf51; omega)), by (first | omega | (have u0 := mo_un jf51; omega))⟩) dX12_findSet_31 (tp_k (.inl (κ 0, 6, .inl (upd g53 w35.toNatClampNeg w34))) hD (tp_in hG y20 (by decide)) eq247 (fun f248 H locs hP hD hS g250 k249 => ?_))
      have hT := hT.up y20 g250 k249 tp_o75
      have hR := hR.up y20 (by decide) k249
      have hU252 : mo_U (mo_R g53) (mo_R (upd g53 w35.toNatClampNeg w34)) (w35.toInt) (w34.toInt) := mo_up (by (first | omega | (have u0 := mo_un jf51; omega))) (rfl : w34.toInt = _) (by (first | omega | (have u0 := mo_un jf51; omega)))
      generalize (upd g53 w35.toNatClampNeg w34) = g251 at g250 hU252
      have hU252e := hU252.eq (by (first | omega | (have u0 := mo_un jf51; omega)))
      refine lv_aload_n hx hb dX12_findSet_32 rfl (lv_at hl 2 rfl) ?_
      have hf_253 : f248 h0 = .inr (12, [.int o245_x0, .int o245_x1, .ref (ρ h0 2), .ref (ρ h0 3), .ref (ρ h0 4), .ref (ρ h0 5), .ref (ρ h0 6), .int o245_x7, .ref (ρ h0 8), .int o245_x9, .int o245_x10, .int o245_x11, .int o245_x12, .long o245_x13, .int o245_x14, .int o245_x15, .int o245_x16, .int o245_x17, .int o245_x18, .int o245_x19, .int o245_x20, .ref (ρ h0 21), .int o245_x22, .ref (ρ h0 23), .ref (ρ h0 24), .int o245_x25, .ref (ρ h0 26), .ref (ρ h0 27), .int o245_x28, .int o245_x29, .ref (ρ h0 30), .ref (ρ h0 31), .int o245_x32, .long o245_x33, .long o245_x34, .long o245_x35, .int o245_x36, .int o245_x37, .int o245_x38, .ref (ρ h0 39), .ref (ρ h0 40), .ref (ρ h0 41), .ref (ρ h0 42), .ref (ρ h0 43), .ref (ρ h0 44), .ref (ρ h0 45), .ref (ρ h0 46), .int o245_x47, .int o245_x48, .ref (ρ h0 49), .ref (ρ h0 50), .ref (ρ h0 51), .ref (ρ h0 52)]) := (k249 _ (tp_ne ht_h0 y20 (by decide))).trans hf_o245
      refine tpk_pos (tp_in hG ht_h0 (by decide)) hf_253 (fun q254 eq254 => ?_)
      refine va_get (D := (dC, dI)) (ci := 12) (v := .ref (ρ h0 46)) (C := RX12) (T := TX12) (N := 53) hx hb hts hfX12 hown hK hP q254 eq254 rfl 46 (by decide) (hts (.fieldLink RX12 76 "ColdShipsModel" "places" "[I") wa_170) (fun _ h9 => h9) rfl dX12_findSet_33 ?_
      refine lv_iload hx hb dX12_findSet_36 (lv_at hl 1 rfl) ?_
      refine lv_iload hx hb dX12_findSet_38 (lv_at hl 1 rfl) ?_
      have hf_255 : f248 (ρ h0 46) = .inl (κ 0, 6, .inl g56) := (k249 _ (tp_ne y21 y20 (by decide))).trans hf_o55
      refine tpk_pos (tp_in hG y21 (by decide)) hf_255 (fun q256 eq256 => ?_)
      refine va_iast hx hb hK hP hD hS q256 0 eq256 rfl (vp_in_iff.mpr ⟨by (first | omega | (have u0 := mo_un jf51; omega)), by (first | omega | (have u0 := mo_un jf51; omega))⟩) dX12_findSet_40 (tp_k (.inl (κ 0, 6, .inl (upd g56 w35.toNatClampNeg w35))) hD (tp_in hG y21 (by decide)) eq256 (fun f257 H locs hP hD hS g259 k258 => ?_))
      have hT := hT.up y21 g259 k258 tp_o76
      have hR := hR.up y21 (by decide) k258
      have hU261 : mo_U (mo_R g56) (mo_R (upd g56 w35.toNatClampNeg w35)) (w35.toInt) (w35.toInt) := mo_up (by (first | omega | (have u0 := mo_un jf51; omega))) (rfl : w35.toInt = _) (by (first | omega | (have u0 := mo_un jf51; omega)))
      generalize (upd g56 w35.toNatClampNeg w35) = g260 at g259 hU261
      have hU261e := hU261.eq (by (first | omega | (have u0 := mo_un jf51; omega)))
      obtain ⟨z262, ez262⟩ : ∃ y : Int32, y = w35 + 1 := ⟨_, rfl⟩
      refine lv_iinc (v := z262) (lv' := [(4, .int z262), (5, .int w34), (0, .ref h0), (1, .int v), (2, .int u), (3, .int a)]) hx hb dX12_findSet_41 hl (k := 1) rfl (by rw [ez262]; rfl) (by decide) rfl (fun ls hl => ?_)
      have iz262 : z262.toInt = w35.toInt + 1 := zi_add ez262 rfl rfl (by (first | omega | (have u0 := mo_un jf51; omega))) (by (first | omega | (have u0 := mo_un jf51; omega)))
      obtain ⟨z263, ez263⟩ : ∃ y : Int32, y = w34 + 1 := ⟨_, rfl⟩
      refine lv_iinc (v := z263) (lv' := [(5, .int z263), (4, .int z262), (0, .ref h0), (1, .int v), (2, .int u), (3, .int a)]) hx hb dX12_findSet_44 hl (k := 1) rfl (by rw [ez263]; rfl) (by decide) rfl (fun ls hl => ?_)
      have iz263 : z263.toInt = w34.toInt + 1 := zi_add ez263 rfl rfl (by (first | omega | (have u0 := mo_un jf51; omega))) (by (first | omega | (have u0 := mo_un jf51; omega)))
      refine lv_goto (tgt := 6) hx hb dX12_findSet_47 (by decide) ?_
      have hf_264 : f257 (ρ h0 45) = .inl (κ 0, 6, .inl g251) := (k258 _ (tp_ne y20 y21 (by decide))).trans g250
      have tf265 : mo_hd (mo_i (f257 (ρ h0 45)) = g251) := tfa_i hf_264
      have tf266 : mo_hd (mo_i (f257 (ρ h0 46)) = g260) := tfa_i g259
      have hf_267 : f248 (ρ h0 2) = .inl (κ 0, 12967, .inl g27) := (k249 _ (tp_ne y1 y20 (by decide))).trans hk37k
      have hf_268 : f257 (ρ h0 2) = .inl (κ 0, 12967, .inl g27) := (k258 _ (tp_ne y1 y21 (by decide))).trans hf_267
      have hf_269 : f248 (ρ h0 43) = .inl (κ 1, 192, .inr (.inl g32)) := (k249 _ (tp_ne y18 y20 (by decide))).trans hk38k
      have hf_270 : f257 (ρ h0 43) = .inl (κ 1, 192, .inr (.inl g32)) := (k258 _ (tp_ne y18 y21 (by decide))).trans hf_269
      have hf_271 : f248 (ρ h0 44) = .inl (κ 0, 192, .inl g29) := (k249 _ (tp_ne y19 y20 (by decide))).trans hk39k
      have hf_272 : f257 (ρ h0 44) = .inl (κ 0, 192, .inl g29) := (k258 _ (tp_ne y19 y21 (by decide))).trans hf_271
      exact ih48 _ _ _ _ (by rw [hn49]; (first | omega | (have u0 := mo_un jf51; omega))) ⟨f257, z263, z262, rfl, hT, hR, hf_268, hf_270, hf_272, (by first | (simp only [(mo_un tf265), mo_i1, mo_l1]; exact (show mo_MB (mo_R g251) u.toInt (z262.toInt) (z263.toInt) from mo_MB.yes jf50 hU252 (by (first | omega | (have u0 := mo_un jf51; omega))) (by (first | omega | (have u0 := mo_un jf51; omega))) (hbt.1 (by (first | omega | (have u0 := mo_un jf51; omega)))) _ _ (by (first | omega | (have u0 := mo_un jf51; omega))) (by (first | omega | (have u0 := mo_un jf51; omega))))) | (rw [(mo_un tf265)]; exact (show mo_MB (mo_R g251) u.toInt (z262.toInt) (z263.toInt) from mo_MB.yes jf50 hU252 (by (first | omega | (have u0 := mo_un jf51; omega))) (by (first | omega | (have u0 := mo_un jf51; omega))) (hbt.1 (by (first | omega | (have u0 := mo_un jf51; omega)))) _ _ (by (first | omega | (have u0 := mo_un jf51; omega))) (by (first | omega | (have u0 := mo_un jf51; omega)))))), (by first | (simp only [(mo_un tf266), mo_i1, mo_l1]; exact (show ∀ i, 0 ≤ i → i < (z262.toInt) → (mo_R g260) i = i from (fun i i0 i1 => by rcases hU261.at i i0 with ⟨z0, a0⟩ | ⟨z0, a0⟩ <;> first | (rw [a0]; (first | omega | (have u0 := mo_un jf51; omega))) | (rw [a0]; exact jf51 i i0 (by (first | omega | (have u0 := mo_un jf51; omega))))))) | (rw [(mo_un tf266)]; exact (show ∀ i, 0 ≤ i → i < (z262.toInt) → (mo_R g260) i = i from (fun i i0 i1 => by rcases hU261.at i i0 with ⟨z0, a0⟩ | ⟨z0, a0⟩ <;> first | (rw [a0]; (first | omega | (have u0 := mo_un jf51; omega))) | (rw [a0]; exact jf51 i i0 (by (first | omega | (have u0 := mo_un jf51; omega)))))))), (by (first | omega | (have u0 := mo_un jf51; omega))), (by (first | omega | (have u0 := mo_un jf51; omega))), (by (first | omega | (have u0 := mo_un jf51; omega))), hP, hD, hS, lv_sub hl [0, 1, 2, 3, 4, 5] rfl⟩

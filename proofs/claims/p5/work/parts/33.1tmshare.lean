set_option maxHeartbeats 4000000 in
set_option maxRecDepth 100000 in
theorem t_X12_share (l : Launch) (dC : Nat → ClassId) (dI : Nat → Nat → Nat) (sz : Nat) (κ : Nat → ClassId) (τ ν : Nat → Nat) (ρ : Nat → Nat → Nat) (L : List Nat) (f : Nat → va_E) (hG : tp_G τ ν ρ L) (hT : tp_T (mo_O κ) κ τ ν ρ f) (h0 : Nat) (v : Int32) (u : Int32) (a : Int32) (ht_h0 : τ h0 = 13) (hr_u : 0 ≤ u.toInt ∧ u.toInt ≤ 6) (hr_a : 0 ≤ a.toInt ∧ a.toInt ≤ 3) (hv0 : 0 ≤ v.toInt) : Met l yX12_share wqX12_share ({ frames := 2, cells := 0, slots := 0, locals := 400 }) (va_Pc [.ref h0, .int v, .int u, .int a] (pz_B dC dI (tp_K κ) (va_pl L f) sz)) (va_Qi (fun (r : Int32) (f1 : Nat → va_E) => tp_T (mo_O κ) κ τ ν ρ f1 ∧ tp_F τ [81, 82] f f1 ∧ True ∧ mo_SBB (mo_R (mo_i (f1 (ρ h0 51)))) (mo_R (mo_i (f1 (ρ h0 52)))) u.toInt a.toInt (-1) ∧ (v.toInt + 1 = mo_pw a.toInt u.toInt.toNat → ∀ s9, 0 ≤ s9 → s9 < 3 → (mo_R (mo_i (f1 (ρ h0 52)))) s9 = 0)) (fun (f1 : Nat → va_E) (t : State) => pz_E dC dI (tp_K κ) (va_A (va_pl L f) sz) (va_pl L f1) t) (va_A (va_pl L f) sz)) 0 0 (va_A (va_pl L f) sz) := by
  refine Met.ofW (cc := cX12_share) (maxL := 7) (ret := some .int) (by decide) rfl ?_
  intro p e s m args below meth c s₁ B hml hv
  obtain ⟨rfl, hsz, hP, hK, hD0, hN⟩ := hv
  have hx := B.exec
  have hb := B.bytes
  have hr := B.returns
  have hts := fun (w : Cond) (h : w ∈ WALL) => atoms_spec (ws := wqX12_share) B.pre w (List.mem_cons_of_mem _ h)
  have hown : s.vm.findClass RX12 = some m.cls := findClass_of_methodNamed B.named
  have hlocks := B.notSynchronized
  subst hsz
  have hD := hD0.self (sz := s.heap.size)
  generalize hAe : va_A (va_pl L f) s.heap.size = A at hD ⊢
  have hA : ∀ q : Nat, s.heap.size ≤ q → A q := fun q h => by rw [← hAe]; exact Or.inr h
  have hS : va_S A s.heap s.heap [] := va_S.rf
  have hR : tp_F τ [81, 82] f f := tp_F.rf
  have hl := lv_entry ([.ref h0, .int v, .int u, .int a]) (n := 7) (Nat.le_of_ble_eq_true rfl)
  rw [lg_entry_eq]
  generalize (lg_sl ([.ref h0, .int v, .int u, .int a]) ++ List.replicate (7 - (lg_sl ([.ref h0, .int v, .int u, .int a])).length) Slot.unset).toArray = ls at hl ⊢
  have hl : lv_has ls 7 [(0, .ref h0), (1, .int v), (2, .int u), (3, .int a)] := hl
  refine lv_iconst (v := 0) hx hb dX12_share_0 (by decide) ?_
  refine lv_istore (lv' := [(4, .int 0), (0, .ref h0), (1, .int v), (2, .int u), (3, .int a)]) hx hb dX12_share_1 hl (by decide) rfl (fun ls hl => ?_)
  refine tgk_13 hG ht_h0 (fun y2 y3 y4 y5 y6 y7 y8 y9 y10 y11 y12 y13 y14 y15 y16 y17 y18 y19 y20 y21 y22 y23 y24 y25 y26 => ?_)
  refine tpk_82 hT y26 (fun g28 hf_o27 => ?_)
  have tf29 : mo_hd (mo_i (f (ρ h0 52)) = g28) := tfa_i hf_o27
  refine pz_loop (fun n0 H locs ls => ∃ f30 : Nat → va_E, ∃ w1 : Int32, n0 = (3 - (w1.toInt)).toNat ∧ tp_T (mo_O κ) κ τ ν ρ f30 ∧ tp_F τ [81, 82] f f30 ∧ ((∀ s9, 0 ≤ s9 → s9 < (w1.toInt) → (mo_R (mo_i (f30 (ρ h0 52)))) s9 = 0)) ∧ (0 ≤ w1.toInt ∧ w1.toInt ≤ 3) ∧ va_P (dC, dI) vwCl (va_pl L f30) H ∧ va_D A (va_pl L f30) ∧ va_S A s.heap H locs ∧ lv_has ls 7 [(4, .int w1), (0, .ref h0), (1, .int v), (2, .int u), (3, .int a)]) ?_ _ _ _ _ ⟨f, 0, rfl, hT, hR, (by first | (simp only [(mo_un tf29), mo_i1, mo_l1]; exact (show ∀ s9, 0 ≤ s9 → s9 < (0 : Int32).toInt → (mo_R g28) s9 = 0 from (fun s9 s0 s1 => absurd s1 (by have : (0 : Int32).toInt = 0 := rfl; omega)))) | (rw [(mo_un tf29)]; exact (show ∀ s9, 0 ≤ s9 → s9 < (0 : Int32).toInt → (mo_R g28) s9 = 0 from (fun s9 s0 s1 => absurd s1 (by have : (0 : Int32).toInt = 0 := rfl; omega))))), (by have : (0 : Int32).toInt = 0 := rfl; omega), hP, hD, hS, lv_sub hl [0, 1, 2, 3, 4] rfl⟩
  intro n0 H locs ls hI ih32
  refine Exists.elim hI (fun f30 hE90 => Exists.elim hE90 (fun w1 hE91 => tn_9 hE91 (fun hn33 hT hR jf34 rw1 hP hD hS hl => ?_)))
  clear hE91 hE90 hI
  refine tpk_82 hT y26 (fun g36 hf_o35 => ?_)
  have tf37 : mo_hd (mo_i (f30 (ρ h0 52)) = g36) := tfa_i hf_o35
  replace jf34 : mo_hd (∀ s9, 0 ≤ s9 → s9 < (w1.toInt) → (mo_R g36) s9 = 0) := by have q9 := jf34; first | (simp only [(mo_un tf37), mo_i1, mo_l1] at q9; exact q9) | (rw [(mo_un tf37)] at q9; exact q9)
  refine lv_iload hx hb dX12_share_3 (lv_at hl 0 rfl) ?_
  refine lv_iconst (v := 3) hx hb dX12_share_5 (by decide) ?_
  refine lv_icmp_ge (tgt := 23) hx hb dX12_share_6 (by decide) (fun c38 => ?_) (fun c38 => ?_)
  · have ic38 : w1.toInt ≥ 3 := zi_ge rfl rfl c38
    refine lv_iload_n hx hb dX12_share_23 rfl (lv_at hl 2 rfl) ?_
    refine lv_istore (lv' := [(4, .int v), (0, .ref h0), (1, .int v), (2, .int u), (3, .int a)]) hx hb dX12_share_24 hl (by decide) rfl (fun ls hl => ?_)
    refine lv_iconst (v := 0) hx hb dX12_share_26 (by decide) ?_
    refine lv_istore (lv' := [(5, .int 0), (4, .int v), (0, .ref h0), (1, .int v), (2, .int u), (3, .int a)]) hx hb dX12_share_27 hl (by decide) rfl (fun ls hl => ?_)
    refine lv_iload_n hx hb dX12_share_29 rfl (lv_at hl 4 rfl) ?_
    refine lv_iconst (v := 1) hx hb dX12_share_30 (by decide) ?_
    refine lv_isub hx hb dX12_share_31 ?_
    refine lv_topi (fun z39 ez39 => ?_)
    have iz39 : z39.toInt = u.toInt - 1 := zi_sub ez39 rfl rfl (by (first | omega | (have u0 := mo_un jf34; omega))) (by (first | omega | (have u0 := mo_un jf34; omega)))
    refine lv_istore (lv' := [(6, .int z39), (5, .int 0), (4, .int v), (0, .ref h0), (1, .int v), (2, .int u), (3, .int a)]) hx hb dX12_share_32 hl (by decide) rfl (fun ls hl => ?_)
    refine tpk_81 hT y25 (fun g45 hf_o44 => ?_)
    have tf46 : mo_hd (mo_i (f30 (ρ h0 51)) = g45) := tfa_i hf_o44
    refine pz_loop (fun n0 H locs ls => ∃ f47 : Nat → va_E, ∃ w40 : Int32, ∃ w41 : Int32, ∃ w42 : Int32, n0 = ((w40.toInt) + 1).toNat ∧ tp_T (mo_O κ) κ τ ν ρ f47 ∧ tp_F τ [81, 82] f f47 ∧ ((mo_SBB (mo_R (mo_i (f47 (ρ h0 51)))) (mo_R (mo_i (f47 (ρ h0 52)))) u.toInt a.toInt (w40.toInt))) ∧ (((v.toInt + 1 = mo_pw a.toInt u.toInt.toNat → (w42.toInt) + 1 = mo_pw a.toInt ((w40.toInt) + 1).toNat ∧ ∀ s9, 0 ≤ s9 → s9 < 3 → (mo_R (mo_i (f47 (ρ h0 52)))) s9 = 0))) ∧ ((-1) ≤ w40.toInt ∧ w40.toInt ≤ 5) ∧ (0 ≤ w42.toInt) ∧ ((w40.toInt) < u.toInt) ∧ va_P (dC, dI) vwCl (va_pl L f47) H ∧ va_D A (va_pl L f47) ∧ va_S A s.heap H locs ∧ lv_has ls 7 [(6, .int w40), (5, .int w41), (4, .int w42), (0, .ref h0), (1, .int v), (2, .int u), (3, .int a)]) ?_ _ _ _ _ ⟨f30, z39, 0, v, rfl, hT, hR, (by first | (simp only [(mo_un tf46), (mo_un tf37), mo_i1, mo_l1]; exact (show mo_SBB (mo_R g45) (mo_R g36) u.toInt a.toInt (z39.toInt) from mo_SBB.rf (by (first | omega | (have u0 := mo_un jf34; omega))) (fun s9 s0 s1 => jf34 s9 s0 (by (first | omega | (have u0 := mo_un jf34; omega)))))) | (rw [(mo_un tf46), (mo_un tf37)]; exact (show mo_SBB (mo_R g45) (mo_R g36) u.toInt a.toInt (z39.toInt) from mo_SBB.rf (by (first | omega | (have u0 := mo_un jf34; omega))) (fun s9 s0 s1 => jf34 s9 s0 (by (first | omega | (have u0 := mo_un jf34; omega))))))), (by first | (simp only [(mo_un tf37), mo_i1, mo_l1]; exact (show (v.toInt + 1 = mo_pw a.toInt u.toInt.toNat → (v.toInt) + 1 = mo_pw a.toInt ((z39.toInt) + 1).toNat ∧ ∀ s9, 0 ≤ s9 → s9 < 3 → (mo_R g36) s9 = 0) from (fun q9 => ⟨by rw [show (z39.toInt + 1).toNat = u.toInt.toNat by (first | omega | (have u0 := mo_un jf34; omega))]; exact q9, fun s9 s0 s1 => jf34 s9 s0 (by (first | omega | (have u0 := mo_un jf34; omega)))⟩))) | (rw [(mo_un tf37)]; exact (show (v.toInt + 1 = mo_pw a.toInt u.toInt.toNat → (v.toInt) + 1 = mo_pw a.toInt ((z39.toInt) + 1).toNat ∧ ∀ s9, 0 ≤ s9 → s9 < 3 → (mo_R g36) s9 = 0) from (fun q9 => ⟨by rw [show (z39.toInt + 1).toNat = u.toInt.toNat by (first | omega | (have u0 := mo_un jf34; omega))]; exact q9, fun s9 s0 s1 => jf34 s9 s0 (by (first | omega | (have u0 := mo_un jf34; omega)))⟩)))), (by have : (0 : Int32).toInt = 0 := rfl; (first | omega | (have u0 := mo_un jf34; omega))), (by have : (0 : Int32).toInt = 0 := rfl; (first | omega | (have u0 := mo_un jf34; omega))), (by have : (0 : Int32).toInt = 0 := rfl; (first | omega | (have u0 := mo_un jf34; omega))), hP, hD, hS, lv_sub hl [0, 1, 2, 3, 4, 5, 6] rfl⟩
    intro n0 H locs ls hI ih49
    refine Exists.elim hI (fun f47 hE90 => Exists.elim hE90 (fun w40 hE91 => Exists.elim hE91 (fun w41 hE92 => Exists.elim hE92 (fun w42 hE93 => tn_12 hE93 (fun hn50 hT hR jf51 jf52 rw40 rw42 k43 hP hD hS hl => ?_)))))
    clear hE93 hE92 hE91 hE90 hI
    refine tpk_81 hT y25 (fun g54 hf_o53 => ?_)
    have tf55 : mo_hd (mo_i (f47 (ρ h0 51)) = g54) := tfa_i hf_o53
    refine tpk_82 hT y26 (fun g57 hf_o56 => ?_)
    have tf58 : mo_hd (mo_i (f47 (ρ h0 52)) = g57) := tfa_i hf_o56
    replace jf51 : mo_SBB (mo_R g54) (mo_R g57) u.toInt a.toInt (w40.toInt) := by have q9 := jf51; first | (simp only [(mo_un tf55), (mo_un tf58), mo_i1, mo_l1] at q9; exact q9) | (rw [(mo_un tf55), (mo_un tf58)] at q9; exact q9)
    replace jf52 : mo_hd ((v.toInt + 1 = mo_pw a.toInt u.toInt.toNat → (w42.toInt) + 1 = mo_pw a.toInt ((w40.toInt) + 1).toNat ∧ ∀ s9, 0 ≤ s9 → s9 < 3 → (mo_R g57) s9 = 0)) := by have q9 := jf52; first | (simp only [(mo_un tf58), mo_i1, mo_l1] at q9; exact q9) | (rw [(mo_un tf58)] at q9; exact q9)
    refine lv_iload hx hb dX12_share_34 (lv_at hl 0 rfl) ?_
    refine lv_if_lt (tgt := 110) hx hb dX12_share_36 (by decide) (fun c59 => ?_) (fun c59 => ?_)
    · have ic59 : w40.toInt < 0 := zi_lt rfl rfl c59
      refine lv_iload hx hb dX12_share_110 (lv_at hl 1 rfl) ?_
      exact W.iret (v := w41) hx hb hr (fun t ht hW => ⟨⟨w41, f47, rfl, ⟨hT, hR, trivial, (by first | (simp only [(mo_un tf55), (mo_un tf58), mo_i1, mo_l1]; exact (show mo_SBB (mo_R g54) (mo_R g57) u.toInt a.toInt (-1) ∧ (v.toInt + 1 = mo_pw a.toInt u.toInt.toNat → ∀ s9, 0 ≤ s9 → s9 < 3 → (mo_R g57) s9 = 0) from ⟨by have q9 := jf51; rw [show w40.toInt = -1 by (first | omega | (have u1 := mo_un jf52; first | omega | (have u0 := mo_un jf34; omega)))] at q9; exact q9, fun q9 => (jf52 q9).2⟩)) | (rw [(mo_un tf55), (mo_un tf58)]; exact (show mo_SBB (mo_R g54) (mo_R g57) u.toInt a.toInt (-1) ∧ (v.toInt + 1 = mo_pw a.toInt u.toInt.toNat → ∀ s9, 0 ≤ s9 → s9 < 3 → (mo_R g57) s9 = 0) from ⟨by have q9 := jf51; rw [show w40.toInt = -1 by (first | omega | (have u1 := mo_un jf52; first | omega | (have u0 := mo_un jf34; omega)))] at q9; exact q9, fun q9 => (jf52 q9).2⟩)))⟩, by rw [ht]; exact hP, va_K.moved hW.alike hK, hD⟩, hS.F ht⟩) hS.2.2 dX12_share_112
    · have ic59 : w40.toInt ≥ 0 := zi_ltf rfl rfl c59
      have hmr := mo_modr (L := w42.toInt) (a := a.toInt) (by (first | omega | (have u1 := mo_un jf52; first | omega | (have u0 := mo_un jf34; omega))))
      refine lv_aload_n hx hb dX12_share_39 rfl (lv_at hl 3 rfl) ?_
      refine tpk_13 hT ht_h0 (fun o60_x0 o60_x1 o60_x7 o60_x9 o60_x10 o60_x11 o60_x12 o60_x13 o60_x14 o60_x15 o60_x16 o60_x17 o60_x18 o60_x19 o60_x20 o60_x22 o60_x25 o60_x28 o60_x29 o60_x32 o60_x33 o60_x34 o60_x35 o60_x36 o60_x37 o60_x38 o60_x47 o60_x48 hf_o60 ro60_0 ro60_1 ro60_2 ro60_3 ro60_4 ro60_5 ro60_6 ro60_7 ro60_8 ro60_9 ro60_10 ro60_11 ro60_12 ro60_13 => ?_)
      refine tpk_pos (tp_in hG ht_h0 (by decide)) hf_o60 (fun q61 eq61 => ?_)
      refine va_get (D := (dC, dI)) (ci := 12) (v := .ref (ρ h0 51)) (C := RX12) (T := TX12) (N := 53) hx hb hts hfX12 hown hK hP q61 eq61 rfl 51 (by decide) (hts (.fieldLink RX12 85 "ColdShipsModel" "chosen" "[I") wa_173) (fun _ h9 => h9) rfl dX12_share_40 ?_
      refine lv_iload hx hb dX12_share_43 (lv_at hl 0 rfl) ?_
      refine lv_iload hx hb dX12_share_45 (lv_at hl 2 rfl) ?_
      refine lv_iload_n hx hb dX12_share_47 rfl (lv_at hl 6 rfl) ?_
      refine lv_iconst (v := 1) hx hb dX12_share_48 (by decide) ?_
      refine lv_iadd hx hb dX12_share_49 ?_
      refine lv_topi (fun z62 ez62 => ?_)
      have iz62 : z62.toInt = a.toInt + 1 := zi_add ez62 rfl rfl (by (first | omega | (have u1 := mo_un jf52; first | omega | (have u0 := mo_un jf34; omega)))) (by (first | omega | (have u1 := mo_un jf52; first | omega | (have u0 := mo_un jf34; omega))))
      refine lv_irem hx hb dX12_share_50 (zi_nz (by (first | omega | (have u1 := mo_un jf52; first | omega | (have u0 := mo_un jf34; omega)))) rfl) ?_
      refine lv_topi (fun z63 ez63 => ?_)
      have iz63 : z63.toInt = w42.toInt % (a.toInt + 1) := by have q9 := zi_rem ez63 (rfl : w42.toInt = _) (rfl : z62.toInt = _) (by (first | omega | (have u1 := mo_un jf52; first | omega | (have u0 := mo_un jf34; omega)))) (by (first | omega | (have u1 := mo_un jf52; first | omega | (have u0 := mo_un jf34; omega)))); rw [show z62.toInt = a.toInt + 1 by (first | omega | (have u1 := mo_un jf52; first | omega | (have u0 := mo_un jf34; omega)))] at q9; exact q9
      refine tpk_pos (tp_in hG y25 (by decide)) hf_o53 (fun q64 eq64 => ?_)
      refine va_iast hx hb hK hP hD hS q64 0 eq64 rfl (vp_in_iff.mpr ⟨by (first | omega | (have u1 := mo_un jf52; first | omega | (have u0 := mo_un jf34; omega))), by (first | omega | (have u1 := mo_un jf52; first | omega | (have u0 := mo_un jf34; omega)))⟩) dX12_share_51 (tp_k (.inl (κ 0, 6, .inl (upd g54 w40.toNatClampNeg z63))) hD (tp_in hG y25 (by decide)) eq64 (fun f65 H locs hP hD hS g67 k66 => ?_))
      have hT := hT.up y25 g67 k66 tp_o81
      have hR := hR.up y25 (by decide) k66
      have hU69 : mo_U (mo_R g54) (mo_R (upd g54 w40.toNatClampNeg z63)) (w40.toInt) (z63.toInt) := mo_up (by (first | omega | (have u1 := mo_un jf52; first | omega | (have u0 := mo_un jf34; omega)))) (rfl : z63.toInt = _) (by (first | omega | (have u1 := mo_un jf52; first | omega | (have u0 := mo_un jf34; omega))))
      generalize (upd g54 w40.toNatClampNeg z63) = g68 at g67 hU69
      have hU69e := hU69.eq (by (first | omega | (have u1 := mo_un jf52; first | omega | (have u0 := mo_un jf34; omega))))
      refine lv_iload hx hb dX12_share_52 (lv_at hl 2 rfl) ?_
      refine lv_iload_n hx hb dX12_share_54 rfl (lv_at hl 6 rfl) ?_
      refine lv_iconst (v := 1) hx hb dX12_share_55 (by decide) ?_
      refine lv_iadd hx hb dX12_share_56 ?_
      refine lv_topi (fun z70 ez70 => ?_)
      have iz70 : z70.toInt = a.toInt + 1 := zi_add ez70 rfl rfl (by (first | omega | (have u1 := mo_un jf52; first | omega | (have u0 := mo_un jf34; omega)))) (by (first | omega | (have u1 := mo_un jf52; first | omega | (have u0 := mo_un jf34; omega))))
      refine lv_idiv hx hb dX12_share_57 (zi_nz (by (first | omega | (have u1 := mo_un jf52; first | omega | (have u0 := mo_un jf34; omega)))) rfl) ?_
      refine lv_topi (fun z71 ez71 => ?_)
      have iz71 : z71.toInt = w42.toInt / (a.toInt + 1) := by have q9 := zi_div ez71 (rfl : w42.toInt = _) (rfl : z70.toInt = _) (by (first | omega | (have u1 := mo_un jf52; first | omega | (have u0 := mo_un jf34; omega)))) (by (first | omega | (have u1 := mo_un jf52; first | omega | (have u0 := mo_un jf34; omega)))); rw [show z70.toInt = a.toInt + 1 by (first | omega | (have u1 := mo_un jf52; first | omega | (have u0 := mo_un jf34; omega)))] at q9; exact q9
      have kz71 : 0 ≤ z71.toInt ∧ z71.toInt ≤ w42.toInt := ⟨by rw [iz71]; exact Int.ediv_nonneg (by (first | omega | (have u1 := mo_un jf52; first | omega | (have u0 := mo_un jf34; omega)))) (by (first | omega | (have u1 := mo_un jf52; first | omega | (have u0 := mo_un jf34; omega)))), by rw [iz71]; exact Int.ediv_le_self _ (by (first | omega | (have u1 := mo_un jf52; first | omega | (have u0 := mo_un jf34; omega))))⟩
      refine lv_istore (lv' := [(4, .int z71), (6, .int w40), (5, .int w41), (0, .ref h0), (1, .int v), (2, .int u), (3, .int a)]) hx hb dX12_share_58 hl (by decide) rfl (fun ls hl => ?_)
      refine lv_aload_n hx hb dX12_share_60 rfl (lv_at hl 3 rfl) ?_
      have hf_72 : f65 h0 = .inr (12, [.int o60_x0, .int o60_x1, .ref (ρ h0 2), .ref (ρ h0 3), .ref (ρ h0 4), .ref (ρ h0 5), .ref (ρ h0 6), .int o60_x7, .ref (ρ h0 8), .int o60_x9, .int o60_x10, .int o60_x11, .int o60_x12, .long o60_x13, .int o60_x14, .int o60_x15, .int o60_x16, .int o60_x17, .int o60_x18, .int o60_x19, .int o60_x20, .ref (ρ h0 21), .int o60_x22, .ref (ρ h0 23), .ref (ρ h0 24), .int o60_x25, .ref (ρ h0 26), .ref (ρ h0 27), .int o60_x28, .int o60_x29, .ref (ρ h0 30), .ref (ρ h0 31), .int o60_x32, .long o60_x33, .long o60_x34, .long o60_x35, .int o60_x36, .int o60_x37, .int o60_x38, .ref (ρ h0 39), .ref (ρ h0 40), .ref (ρ h0 41), .ref (ρ h0 42), .ref (ρ h0 43), .ref (ρ h0 44), .ref (ρ h0 45), .ref (ρ h0 46), .int o60_x47, .int o60_x48, .ref (ρ h0 49), .ref (ρ h0 50), .ref (ρ h0 51), .ref (ρ h0 52)]) := (k66 _ (tp_ne ht_h0 y25 (by decide))).trans hf_o60
      refine tpk_pos (tp_in hG ht_h0 (by decide)) hf_72 (fun q73 eq73 => ?_)
      refine va_get (D := (dC, dI)) (ci := 12) (v := .ref (ρ h0 51)) (C := RX12) (T := TX12) (N := 53) hx hb hts hfX12 hown hK hP q73 eq73 rfl 51 (by decide) (hts (.fieldLink RX12 85 "ColdShipsModel" "chosen" "[I") wa_173) (fun _ h9 => h9) rfl dX12_share_61 ?_
      refine lv_iload hx hb dX12_share_64 (lv_at hl 1 rfl) ?_
      refine tpk_pos (tp_in hG y25 (by decide)) g67 (fun q74 eq74 => ?_)
      refine va_iald hx hb hK hP q74 0 eq74 rfl (vp_in_iff.mpr ⟨by (first | omega | (have u1 := mo_un jf52; first | omega | (have u0 := mo_un jf34; omega))), by (first | omega | (have u1 := mo_un jf52; first | omega | (have u0 := mo_un jf34; omega)))⟩) dX12_share_66 ?_
      refine lv_topi (fun z75 ez75 => ?_)
      have jz75 : z75.toInt = mo_R g68 w40.toInt := mo_rd ez75 (by (first | omega | (have u1 := mo_un jf52; first | omega | (have u0 := mo_un jf34; omega))))
      refine lv_iload_n hx hb dX12_share_67 rfl (lv_at hl 6 rfl) ?_
      refine lv_icmp_ge (tgt := 96) hx hb dX12_share_68 (by decide) (fun c76 => ?_) (fun c76 => ?_)
      · have ic76 : z75.toInt ≥ a.toInt := zi_ge rfl rfl c76
        refine lv_aload_n hx hb dX12_share_96 rfl (lv_at hl 3 rfl) ?_
        refine va_get (D := (dC, dI)) (ci := 12) (v := .ref (ρ h0 51)) (C := RX12) (T := TX12) (N := 53) hx hb hts hfX12 hown hK hP q73 eq73 rfl 51 (by decide) (hts (.fieldLink RX12 85 "ColdShipsModel" "chosen" "[I") wa_173) (fun _ h9 => h9) rfl dX12_share_97 ?_
        refine lv_iload hx hb dX12_share_100 (lv_at hl 1 rfl) ?_
        refine lv_iconst (v := (-1)) hx hb dX12_share_102 (by decide) ?_
        refine va_iast hx hb hK hP hD hS q74 0 eq74 rfl (vp_in_iff.mpr ⟨by (first | omega | (have u1 := mo_un jf52; first | omega | (have u0 := mo_un jf34; omega))), by (first | omega | (have u1 := mo_un jf52; first | omega | (have u0 := mo_un jf34; omega)))⟩) dX12_share_103 (tp_k (.inl (κ 0, 6, .inl (upd g68 w40.toNatClampNeg ((-1) : Int32)))) hD (tp_in hG y25 (by decide)) eq74 (fun f77 H locs hP hD hS g79 k78 => ?_))
        have hT := hT.up y25 g79 k78 tp_o81
        have hR := hR.up y25 (by decide) k78
        have hU81 : mo_U (mo_R g68) (mo_R (upd g68 w40.toNatClampNeg ((-1) : Int32))) (w40.toInt) ((-1)) := mo_up (by (first | omega | (have u1 := mo_un jf52; first | omega | (have u0 := mo_un jf34; omega)))) (show ((-1) : Int32).toInt = (-1) from rfl) (by (first | omega | (have u1 := mo_un jf52; first | omega | (have u0 := mo_un jf34; omega))))
        generalize (upd g68 w40.toNatClampNeg ((-1) : Int32)) = g80 at g79 hU81
        have hU81e := hU81.eq (by (first | omega | (have u1 := mo_un jf52; first | omega | (have u0 := mo_un jf34; omega))))
        obtain ⟨z82, ez82⟩ : ∃ y : Int32, y = w40 + (-1) := ⟨_, rfl⟩
        refine lv_iinc (v := z82) (lv' := [(6, .int z82), (4, .int z71), (5, .int w41), (0, .ref h0), (1, .int v), (2, .int u), (3, .int a)]) hx hb dX12_share_104 hl (k := 1) rfl (by rw [ez82]; rfl) (by decide) rfl (fun ls hl => ?_)
        have iz82 : z82.toInt = w40.toInt + (-1) := zi_add ez82 rfl rfl (by (first | omega | (have u1 := mo_un jf52; first | omega | (have u0 := mo_un jf34; omega)))) (by (first | omega | (have u1 := mo_un jf52; first | omega | (have u0 := mo_un jf34; omega))))
        refine lv_goto (tgt := 34) hx hb dX12_share_107 (by decide) ?_
        have tf83 : mo_hd (mo_i (f77 (ρ h0 51)) = g80) := tfa_i g79
        have hf_84 : f65 (ρ h0 52) = .inl (κ 0, 3, .inl g57) := (k66 _ (tp_ne y26 y25 (by decide))).trans hf_o56
        have hf_85 : f77 (ρ h0 52) = .inl (κ 0, 3, .inl g57) := (k78 _ (tp_ne y26 y25 (by decide))).trans hf_84
        have tf86 : mo_hd (mo_i (f77 (ρ h0 52)) = g57) := tfa_i hf_85
        exact ih49 _ _ _ _ (by rw [hn50]; (first | omega | (have u1 := mo_un jf52; first | omega | (have u0 := mo_un jf34; omega)))) ⟨f77, z82, w41, z71, rfl, hT, hR, (by first | (simp only [(mo_un tf83), (mo_un tf86), mo_i1, mo_l1]; exact (show mo_SBB (mo_R g80) (mo_R g57) u.toInt a.toInt (z82.toInt) from jf51.no (by (first | omega | (have u1 := mo_un jf52; first | omega | (have u0 := mo_un jf34; omega)))) (fun j j0 j1 => (hU81.ne j0 j1).trans (hU69.ne j0 j1)) (hU81.eq (by (first | omega | (have u1 := mo_un jf52; first | omega | (have u0 := mo_un jf34; omega))))) (by (first | omega | (have u1 := mo_un jf52; first | omega | (have u0 := mo_un jf34; omega)))))) | (rw [(mo_un tf83), (mo_un tf86)]; exact (show mo_SBB (mo_R g80) (mo_R g57) u.toInt a.toInt (z82.toInt) from jf51.no (by (first | omega | (have u1 := mo_un jf52; first | omega | (have u0 := mo_un jf34; omega)))) (fun j j0 j1 => (hU81.ne j0 j1).trans (hU69.ne j0 j1)) (hU81.eq (by (first | omega | (have u1 := mo_un jf52; first | omega | (have u0 := mo_un jf34; omega))))) (by (first | omega | (have u1 := mo_un jf52; first | omega | (have u0 := mo_un jf34; omega))))))), (by first | (simp only [(mo_un tf86), mo_i1, mo_l1]; exact (show (v.toInt + 1 = mo_pw a.toInt u.toInt.toNat → (z71.toInt) + 1 = mo_pw a.toInt ((z82.toInt) + 1).toNat ∧ ∀ s9, 0 ≤ s9 → s9 < 3 → (mo_R g57) s9 = 0) from (fun q9 => by obtain ⟨l1, l2⟩ := jf52 q9; have l3 : w42.toInt + 1 = (a.toInt + 1) * mo_pw a.toInt w40.toInt.toNat := (by rw [l1, show (w40.toInt + 1).toNat = w40.toInt.toNat + 1 by (first | omega | (have u1 := mo_un jf52; first | omega | (have u0 := mo_un jf34; omega)))] <;> rfl); have l4 := mo_last l3 (by (first | omega | (have u1 := mo_un jf52; first | omega | (have u0 := mo_un jf34; omega)))) (by (first | omega | (have u1 := mo_un jf52; first | omega | (have u0 := mo_un jf34; omega)))); refine ⟨by rw [show (z82.toInt + 1).toNat = w40.toInt.toNat by (first | omega | (have u1 := mo_un jf52; first | omega | (have u0 := mo_un jf34; omega)))]; (first | omega | (have u1 := mo_un jf52; first | omega | (have u0 := mo_un jf34; omega))), l2⟩))) | (rw [(mo_un tf86)]; exact (show (v.toInt + 1 = mo_pw a.toInt u.toInt.toNat → (z71.toInt) + 1 = mo_pw a.toInt ((z82.toInt) + 1).toNat ∧ ∀ s9, 0 ≤ s9 → s9 < 3 → (mo_R g57) s9 = 0) from (fun q9 => by obtain ⟨l1, l2⟩ := jf52 q9; have l3 : w42.toInt + 1 = (a.toInt + 1) * mo_pw a.toInt w40.toInt.toNat := (by rw [l1, show (w40.toInt + 1).toNat = w40.toInt.toNat + 1 by (first | omega | (have u1 := mo_un jf52; first | omega | (have u0 := mo_un jf34; omega)))] <;> rfl); have l4 := mo_last l3 (by (first | omega | (have u1 := mo_un jf52; first | omega | (have u0 := mo_un jf34; omega)))) (by (first | omega | (have u1 := mo_un jf52; first | omega | (have u0 := mo_un jf34; omega)))); refine ⟨by rw [show (z82.toInt + 1).toNat = w40.toInt.toNat by (first | omega | (have u1 := mo_un jf52; first | omega | (have u0 := mo_un jf34; omega)))]; (first | omega | (have u1 := mo_un jf52; first | omega | (have u0 := mo_un jf34; omega))), l2⟩)))), (by (first | omega | (have u1 := mo_un jf52; first | omega | (have u0 := mo_un jf34; omega)))), (by (first | omega | (have u1 := mo_un jf52; first | omega | (have u0 := mo_un jf34; omega)))), (by (first | omega | (have u1 := mo_un jf52; first | omega | (have u0 := mo_un jf34; omega)))), hP, hD, hS, lv_sub hl [0, 2, 1, 3, 4, 5, 6] rfl⟩
      · have ic76 : z75.toInt < a.toInt := zi_gef rfl rfl c76
        refine lv_aload_n hx hb dX12_share_71 rfl (lv_at hl 3 rfl) ?_
        refine va_get (D := (dC, dI)) (ci := 12) (v := .ref (ρ h0 52)) (C := RX12) (T := TX12) (N := 53) hx hb hts hfX12 hown hK hP q73 eq73 rfl 52 (by decide) (hts (.fieldLink RX12 88 "ColdShipsModel" "sets" "[I") wa_174) (fun _ h9 => h9) rfl dX12_share_72 ?_
        refine lv_aload_n hx hb dX12_share_75 rfl (lv_at hl 3 rfl) ?_
        refine va_get (D := (dC, dI)) (ci := 12) (v := .ref (ρ h0 51)) (C := RX12) (T := TX12) (N := 53) hx hb hts hfX12 hown hK hP q73 eq73 rfl 51 (by decide) (hts (.fieldLink RX12 85 "ColdShipsModel" "chosen" "[I") wa_173) (fun _ h9 => h9) rfl dX12_share_76 ?_
        refine lv_iload hx hb dX12_share_79 (lv_at hl 1 rfl) ?_
        refine va_iald hx hb hK hP q74 0 eq74 rfl (vp_in_iff.mpr ⟨by (first | omega | (have u1 := mo_un jf52; first | omega | (have u0 := mo_un jf34; omega))), by (first | omega | (have u1 := mo_un jf52; first | omega | (have u0 := mo_un jf34; omega)))⟩) dX12_share_81 ?_
        refine lv_topi (fun z87 ez87 => ?_)
        have jz87 : z87.toInt = mo_R g68 w40.toInt := mo_rd ez87 (by (first | omega | (have u1 := mo_un jf52; first | omega | (have u0 := mo_un jf34; omega))))
        refine lv_dup2_11 hx hb dX12_share_82 rfl rfl ?_
        have hf_88 : f65 (ρ h0 52) = .inl (κ 0, 3, .inl g57) := (k66 _ (tp_ne y26 y25 (by decide))).trans hf_o56
        refine tpk_pos (tp_in hG y26 (by decide)) hf_88 (fun q89 eq89 => ?_)
        refine va_iald hx hb hK hP q89 0 eq89 rfl (vp_in_iff.mpr ⟨by (first | omega | (have u1 := mo_un jf52; first | omega | (have u0 := mo_un jf34; omega))), by (first | omega | (have u1 := mo_un jf52; first | omega | (have u0 := mo_un jf34; omega)))⟩) dX12_share_83 ?_
        refine lv_topi (fun z90 ez90 => ?_)
        have jz90 : z90.toInt = mo_R g57 z87.toInt := mo_rd ez90 (by (first | omega | (have u1 := mo_un jf52; first | omega | (have u0 := mo_un jf34; omega))))
        have hsx := (jf51.2 z87.toInt (by (first | omega | (have u1 := mo_un jf52; first | omega | (have u0 := mo_un jf34; omega)))) (by (first | omega | (have u1 := mo_un jf52; first | omega | (have u0 := mo_un jf34; omega))))).1
        refine lv_iconst (v := 1) hx hb dX12_share_84 (by decide) ?_
        refine lv_iload hx hb dX12_share_85 (lv_at hl 1 rfl) ?_
        refine lv_ishl hx hb dX12_share_87 ?_
        refine lv_topi (fun z91 ez91 => ?_)
        have iz91 : 1 ≤ z91.toInt ∧ z91.toInt ≤ 32 := zb_shl5 ez91 rfl (by (first | omega | (have u1 := mo_un jf52; first | omega | (have u0 := mo_un jf34; omega)))) (by (first | omega | (have u1 := mo_un jf52; first | omega | (have u0 := mo_un jf34; omega))))
        refine lv_ior hx hb dX12_share_88 ?_
        refine lv_topi (fun z92 ez92 => ?_)
        have iz92 : 0 ≤ z92.toInt ∧ z92.toInt ≤ 63 := zb_or 6 ez92 (rfl : z90.toInt = _) (rfl : z91.toInt = _) (by (first | omega | (have u1 := mo_un jf52; first | omega | (have u0 := mo_un jf34; omega)))) (by (first | omega | (have u1 := mo_un jf52; first | omega | (have u0 := mo_un jf34; omega)))) (by (first | omega | (have u1 := mo_un jf52; first | omega | (have u0 := mo_un jf34; omega)))) (by (first | omega | (have u1 := mo_un jf52; first | omega | (have u0 := mo_un jf34; omega)))) (by decide)
        have hor := zb_orbit ez91 ez92 (by (first | omega | (have u1 := mo_un jf52; first | omega | (have u0 := mo_un jf34; omega)))) (by (first | omega | (have u1 := mo_un jf52; first | omega | (have u0 := mo_un jf34; omega)))) (by (first | omega | (have u1 := mo_un jf52; first | omega | (have u0 := mo_un jf34; omega)))) (by (first | omega | (have u1 := mo_un jf52; first | omega | (have u0 := mo_un jf34; omega))))
        refine va_iast hx hb hK hP hD hS q89 0 eq89 rfl (vp_in_iff.mpr ⟨by (first | omega | (have u1 := mo_un jf52; first | omega | (have u0 := mo_un jf34; omega))), by (first | omega | (have u1 := mo_un jf52; first | omega | (have u0 := mo_un jf34; omega)))⟩) dX12_share_89 (tp_k (.inl (κ 0, 3, .inl (upd g57 z87.toNatClampNeg z92))) hD (tp_in hG y26 (by decide)) eq89 (fun f93 H locs hP hD hS g95 k94 => ?_))
        have hT := hT.up y26 g95 k94 tp_o82
        have hR := hR.up y26 (by decide) k94
        have hU97 : mo_U (mo_R g57) (mo_R (upd g57 z87.toNatClampNeg z92)) (z87.toInt) (z92.toInt) := mo_up (by (first | omega | (have u1 := mo_un jf52; first | omega | (have u0 := mo_un jf34; omega)))) (rfl : z92.toInt = _) (by (first | omega | (have u1 := mo_un jf52; first | omega | (have u0 := mo_un jf34; omega))))
        generalize (upd g57 z87.toNatClampNeg z92) = g96 at g95 hU97
        have hU97e := hU97.eq (by (first | omega | (have u1 := mo_un jf52; first | omega | (have u0 := mo_un jf34; omega))))
        obtain ⟨z98, ez98⟩ : ∃ y : Int32, y = w41 + 1 := ⟨_, rfl⟩
        refine lv_iinc (v := z98) (lv' := [(5, .int z98), (4, .int z71), (6, .int w40), (0, .ref h0), (1, .int v), (2, .int u), (3, .int a)]) hx hb dX12_share_90 hl (k := 2) rfl (by rw [ez98]; rfl) (by decide) rfl (fun ls hl => ?_)
        refine lv_goto (tgt := 104) hx hb dX12_share_93 (by decide) ?_
        obtain ⟨z99, ez99⟩ : ∃ y : Int32, y = w40 + (-1) := ⟨_, rfl⟩
        refine lv_iinc (v := z99) (lv' := [(6, .int z99), (5, .int z98), (4, .int z71), (0, .ref h0), (1, .int v), (2, .int u), (3, .int a)]) hx hb dX12_share_104 hl (k := 2) rfl (by rw [ez99]; rfl) (by decide) rfl (fun ls hl => ?_)
        have iz99 : z99.toInt = w40.toInt + (-1) := zi_add ez99 rfl rfl (by (first | omega | (have u1 := mo_un jf52; first | omega | (have u0 := mo_un jf34; omega)))) (by (first | omega | (have u1 := mo_un jf52; first | omega | (have u0 := mo_un jf34; omega))))
        refine lv_goto (tgt := 34) hx hb dX12_share_107 (by decide) ?_
        have hf_100 : f93 (ρ h0 51) = .inl (κ 0, 6, .inl g68) := (k94 _ (tp_ne y25 y26 (by decide))).trans g67
        have tf101 : mo_hd (mo_i (f93 (ρ h0 51)) = g68) := tfa_i hf_100
        have tf102 : mo_hd (mo_i (f93 (ρ h0 52)) = g96) := tfa_i g95
        exact ih49 _ _ _ _ (by rw [hn50]; (first | omega | (have u1 := mo_un jf52; first | omega | (have u0 := mo_un jf34; omega)))) ⟨f93, z99, z98, z71, rfl, hT, hR, (by first | (simp only [(mo_un tf101), (mo_un tf102), mo_i1, mo_l1]; exact (show mo_SBB (mo_R g68) (mo_R g96) u.toInt a.toInt (z99.toInt) from jf51.yes (by (first | omega | (have u1 := mo_un jf52; first | omega | (have u0 := mo_un jf34; omega)))) (fun j j0 j1 => hU69.ne j0 j1) jz87.symm (by (first | omega | (have u1 := mo_un jf52; first | omega | (have u0 := mo_un jf34; omega)))) hU97 (by (first | omega | (have u1 := mo_un jf52; first | omega | (have u0 := mo_un jf34; omega)))) hor.1 (fun d d0 d1 => by rw [hor.2 d d0 d1, jz90]) (by (first | omega | (have u1 := mo_un jf52; first | omega | (have u0 := mo_un jf34; omega)))))) | (rw [(mo_un tf101), (mo_un tf102)]; exact (show mo_SBB (mo_R g68) (mo_R g96) u.toInt a.toInt (z99.toInt) from jf51.yes (by (first | omega | (have u1 := mo_un jf52; first | omega | (have u0 := mo_un jf34; omega)))) (fun j j0 j1 => hU69.ne j0 j1) jz87.symm (by (first | omega | (have u1 := mo_un jf52; first | omega | (have u0 := mo_un jf34; omega)))) hU97 (by (first | omega | (have u1 := mo_un jf52; first | omega | (have u0 := mo_un jf34; omega)))) hor.1 (fun d d0 d1 => by rw [hor.2 d d0 d1, jz90]) (by (first | omega | (have u1 := mo_un jf52; first | omega | (have u0 := mo_un jf34; omega))))))), (by first | (simp only [(mo_un tf102), mo_i1, mo_l1]; exact (show (v.toInt + 1 = mo_pw a.toInt u.toInt.toNat → (z71.toInt) + 1 = mo_pw a.toInt ((z99.toInt) + 1).toNat ∧ ∀ s9, 0 ≤ s9 → s9 < 3 → (mo_R g96) s9 = 0) from (fun q9 => by obtain ⟨l1, l2⟩ := jf52 q9; have l3 : w42.toInt + 1 = (a.toInt + 1) * mo_pw a.toInt w40.toInt.toNat := (by rw [l1, show (w40.toInt + 1).toNat = w40.toInt.toNat + 1 by (first | omega | (have u1 := mo_un jf52; first | omega | (have u0 := mo_un jf34; omega)))] <;> rfl); have l4 := mo_last l3 (by (first | omega | (have u1 := mo_un jf52; first | omega | (have u0 := mo_un jf34; omega)))) (by (first | omega | (have u1 := mo_un jf52; first | omega | (have u0 := mo_un jf34; omega)))); refine ⟨by rw [show (z99.toInt + 1).toNat = w40.toInt.toNat by (first | omega | (have u1 := mo_un jf52; first | omega | (have u0 := mo_un jf34; omega)))]; (first | omega | (have u1 := mo_un jf52; first | omega | (have u0 := mo_un jf34; omega))), (by exfalso; (first | omega | (have u1 := mo_un jf52; first | omega | (have u0 := mo_un jf34; omega))))⟩))) | (rw [(mo_un tf102)]; exact (show (v.toInt + 1 = mo_pw a.toInt u.toInt.toNat → (z71.toInt) + 1 = mo_pw a.toInt ((z99.toInt) + 1).toNat ∧ ∀ s9, 0 ≤ s9 → s9 < 3 → (mo_R g96) s9 = 0) from (fun q9 => by obtain ⟨l1, l2⟩ := jf52 q9; have l3 : w42.toInt + 1 = (a.toInt + 1) * mo_pw a.toInt w40.toInt.toNat := (by rw [l1, show (w40.toInt + 1).toNat = w40.toInt.toNat + 1 by (first | omega | (have u1 := mo_un jf52; first | omega | (have u0 := mo_un jf34; omega)))] <;> rfl); have l4 := mo_last l3 (by (first | omega | (have u1 := mo_un jf52; first | omega | (have u0 := mo_un jf34; omega)))) (by (first | omega | (have u1 := mo_un jf52; first | omega | (have u0 := mo_un jf34; omega)))); refine ⟨by rw [show (z99.toInt + 1).toNat = w40.toInt.toNat by (first | omega | (have u1 := mo_un jf52; first | omega | (have u0 := mo_un jf34; omega)))]; (first | omega | (have u1 := mo_un jf52; first | omega | (have u0 := mo_un jf34; omega))), (by exfalso; (first | omega | (have u1 := mo_un jf52; first | omega | (have u0 := mo_un jf34; omega))))⟩)))), (by (first | omega | (have u1 := mo_un jf52; first | omega | (have u0 := mo_un jf34; omega)))), (by (first | omega | (have u1 := mo_un jf52; first | omega | (have u0 := mo_un jf34; omega)))), (by (first | omega | (have u1 := mo_un jf52; first | omega | (have u0 := mo_un jf34; omega)))), hP, hD, hS, lv_sub hl [0, 1, 2, 3, 4, 5, 6] rfl⟩
  · have ic38 : w1.toInt < 3 := zi_gef rfl rfl c38
    refine lv_aload_n hx hb dX12_share_9 rfl (lv_at hl 1 rfl) ?_
    refine tpk_13 hT ht_h0 (fun o103_x0 o103_x1 o103_x7 o103_x9 o103_x10 o103_x11 o103_x12 o103_x13 o103_x14 o103_x15 o103_x16 o103_x17 o103_x18 o103_x19 o103_x20 o103_x22 o103_x25 o103_x28 o103_x29 o103_x32 o103_x33 o103_x34 o103_x35 o103_x36 o103_x37 o103_x38 o103_x47 o103_x48 hf_o103 ro103_0 ro103_1 ro103_2 ro103_3 ro103_4 ro103_5 ro103_6 ro103_7 ro103_8 ro103_9 ro103_10 ro103_11 ro103_12 ro103_13 => ?_)
    refine tpk_pos (tp_in hG ht_h0 (by decide)) hf_o103 (fun q104 eq104 => ?_)
    refine va_get (D := (dC, dI)) (ci := 12) (v := .ref (ρ h0 52)) (C := RX12) (T := TX12) (N := 53) hx hb hts hfX12 hown hK hP q104 eq104 rfl 52 (by decide) (hts (.fieldLink RX12 88 "ColdShipsModel" "sets" "[I") wa_174) (fun _ h9 => h9) rfl dX12_share_10 ?_
    refine lv_iload hx hb dX12_share_13 (lv_at hl 0 rfl) ?_
    refine lv_iconst (v := 0) hx hb dX12_share_15 (by decide) ?_
    refine tpk_pos (tp_in hG y26 (by decide)) hf_o35 (fun q105 eq105 => ?_)
    refine va_iast hx hb hK hP hD hS q105 0 eq105 rfl (vp_in_iff.mpr ⟨by (first | omega | (have u0 := mo_un jf34; omega)), by (first | omega | (have u0 := mo_un jf34; omega))⟩) dX12_share_16 (tp_k (.inl (κ 0, 3, .inl (upd g36 w1.toNatClampNeg (0 : Int32)))) hD (tp_in hG y26 (by decide)) eq105 (fun f106 H locs hP hD hS g108 k107 => ?_))
    have hT := hT.up y26 g108 k107 tp_o82
    have hR := hR.up y26 (by decide) k107
    have hU110 : mo_U (mo_R g36) (mo_R (upd g36 w1.toNatClampNeg (0 : Int32))) (w1.toInt) (0) := mo_up (by (first | omega | (have u0 := mo_un jf34; omega))) (show (0 : Int32).toInt = 0 from rfl) (by (first | omega | (have u0 := mo_un jf34; omega)))
    generalize (upd g36 w1.toNatClampNeg (0 : Int32)) = g109 at g108 hU110
    have hU110e := hU110.eq (by (first | omega | (have u0 := mo_un jf34; omega)))
    obtain ⟨z111, ez111⟩ : ∃ y : Int32, y = w1 + 1 := ⟨_, rfl⟩
    refine lv_iinc (v := z111) (lv' := [(4, .int z111), (0, .ref h0), (1, .int v), (2, .int u), (3, .int a)]) hx hb dX12_share_17 hl (k := 0) rfl (by rw [ez111]; rfl) (by decide) rfl (fun ls hl => ?_)
    have iz111 : z111.toInt = w1.toInt + 1 := zi_add ez111 rfl rfl (by (first | omega | (have u0 := mo_un jf34; omega))) (by (first | omega | (have u0 := mo_un jf34; omega)))
    refine lv_goto (tgt := 3) hx hb dX12_share_20 (by decide) ?_
    have tf112 : mo_hd (mo_i (f106 (ρ h0 52)) = g109) := tfa_i g108
    exact ih32 _ _ _ _ (by rw [hn33]; (first | omega | (have u0 := mo_un jf34; omega))) ⟨f106, z111, rfl, hT, hR, (by first | (simp only [(mo_un tf112), mo_i1, mo_l1]; exact (show ∀ s9, 0 ≤ s9 → s9 < (z111.toInt) → (mo_R g109) s9 = 0 from (fun s9 s0 s1 => by rcases hU110.at s9 s0 with ⟨z0, a0⟩ | ⟨z0, a0⟩ <;> first | exact a0 | (rw [a0]; exact jf34 s9 s0 (by (first | omega | (have u0 := mo_un jf34; omega))))))) | (rw [(mo_un tf112)]; exact (show ∀ s9, 0 ≤ s9 → s9 < (z111.toInt) → (mo_R g109) s9 = 0 from (fun s9 s0 s1 => by rcases hU110.at s9 s0 with ⟨z0, a0⟩ | ⟨z0, a0⟩ <;> first | exact a0 | (rw [a0]; exact jf34 s9 s0 (by (first | omega | (have u0 := mo_un jf34; omega)))))))), (by (first | omega | (have u0 := mo_un jf34; omega))), hP, hD, hS, lv_sub hl [0, 1, 2, 3, 4] rfl⟩
set_option maxHeartbeats 4000000 in
set_option maxRecDepth 100000 in
theorem t_X12_judge (l : Launch) (dC : Nat → ClassId) (dI : Nat → Nat → Nat) (sz : Nat) (κ : Nat → ClassId) (τ ν : Nat → Nat) (ρ : Nat → Nat → Nat) (L : List Nat) (f : Nat → va_E) (hG : tp_G τ ν ρ L) (hT : tp_T (mo_O κ) κ τ ν ρ f) (h0 : Nat) (v : Int32) (u : Int32) (a : Int32) (a4 : Int32) (a5 : Int32) (ht_h0 : τ h0 = 13) (hJ : mo_RI (-1) 0 (mo_R (mo_i (f (ρ h0 2))))) : Met l yX12_judge wqX12_judge ({ frames := 8, cells := 0, slots := 0, locals := 2800 }) (va_Pc [.ref h0, .int v, .int u, .int a, .int a4, .int a5] (pz_B dC dI (tp_K κ) (va_pl L f) sz)) (va_Ql (fun (r : Int64) (f1 : Nat → va_E) => tp_T (mo_O κ) κ τ ν ρ f1 ∧ tp_F τ [13, 69, 70, 71, 72] f f1 ∧ True ∧ True) (fun (f1 : Nat → va_E) (t : State) => pz_E dC dI (tp_K κ) (va_A (va_pl L f) sz) (va_pl L f1) t) (va_A (va_pl L f) sz)) 0 0 (va_A (va_pl L f) sz) := by
  refine Met.ofW (cc := cX12_judge) (maxL := 9) (ret := some .long) (by decide) rfl ?_
  intro p e s m args below meth c s₁ B hml hv
  obtain ⟨rfl, hsz, hP, hK, hD0, hN⟩ := hv
  have hx := B.exec
  have hb := B.bytes
  have hr := B.returns
  have hts := fun (w : Cond) (h : w ∈ WALL) => atoms_spec (ws := wqX12_judge) B.pre w (List.mem_cons_of_mem _ h)
  have hown : s.vm.findClass RX12 = some m.cls := findClass_of_methodNamed B.named
  have hlocks := B.notSynchronized
  subst hsz
  have hD := hD0.self (sz := s.heap.size)
  generalize hAe : va_A (va_pl L f) s.heap.size = A at hD ⊢
  have hA : ∀ q : Nat, s.heap.size ≤ q → A q := fun q h => by rw [← hAe]; exact Or.inr h
  have hS : va_S A s.heap s.heap [] := va_S.rf
  have hR : tp_F τ [13, 69, 70, 71, 72] f f := tp_F.rf
  have hl := lv_entry ([.ref h0, .int v, .int u, .int a, .int a4, .int a5]) (n := 9) (Nat.le_of_ble_eq_true rfl)
  rw [lg_entry_eq]
  generalize (lg_sl ([.ref h0, .int v, .int u, .int a, .int a4, .int a5]) ++ List.replicate (9 - (lg_sl ([.ref h0, .int v, .int u, .int a, .int a4, .int a5])).length) Slot.unset).toArray = ls at hl ⊢
  have hl : lv_has ls 9 [(0, .ref h0), (1, .int v), (2, .int u), (3, .int a), (4, .int a4), (5, .int a5)] := hl
  refine tgk_13 hG ht_h0 (fun y1 y2 y3 y4 y5 y6 y7 y8 y9 y10 y11 y12 y13 y14 y15 y16 y17 y18 y19 y20 y21 y22 y23 y24 y25 => ?_)
  refine tpk_32 hT y1 (fun g27 hf_o26 => ?_)
  have hI : mo_RI (-1) 0 (mo_R g27) := by have q9 := hJ; rw [hf_o26, mo_i1] at q9; exact q9
  refine lv_aload_n hx hb dX12_judge_0 rfl (lv_at hl 0 rfl) ?_
  refine lv_iconst (v := 0) hx hb dX12_judge_1 (by decide) ?_
  refine tpk_13 hT ht_h0 (fun o28_x0 o28_x1 o28_x7 o28_x9 o28_x10 o28_x11 o28_x12 o28_x13 o28_x14 o28_x15 o28_x16 o28_x17 o28_x18 o28_x19 o28_x20 o28_x22 o28_x25 o28_x28 o28_x29 o28_x32 o28_x33 o28_x34 o28_x35 o28_x36 o28_x37 o28_x38 o28_x47 o28_x48 hf_o28 ro28_0 ro28_1 ro28_2 ro28_3 ro28_4 ro28_5 ro28_6 ro28_7 ro28_8 ro28_9 ro28_10 ro28_11 ro28_12 ro28_13 => ?_)
  refine tpk_pos (tp_in hG ht_h0 (by decide)) hf_o28 (fun q29 eq29 => ?_)
  refine va_put (D := (dC, dI)) (ci := 12) (v := .int 0) (ty := .int) (C := RX12) (T := TX12) (N := 53) hx hb hts hfX12 tyX12 tyX12_ok nmX12 hown hK hP hD hS q29 eq29 rfl 0 (by decide) (hts (.fieldLink RX12 91 "ColdShipsModel" "thrown" "I") wa_209) (fun _ h9 => h9) rfl (tyX12_ok 0 (by decide)) rfl rfl (Nat.le_of_ble_eq_true rfl) dX12_judge_2 (tp_k (.inr (12, [.int 0, .int o28_x1, .ref (ρ h0 2), .ref (ρ h0 3), .ref (ρ h0 4), .ref (ρ h0 5), .ref (ρ h0 6), .int o28_x7, .ref (ρ h0 8), .int o28_x9, .int o28_x10, .int o28_x11, .int o28_x12, .long o28_x13, .int o28_x14, .int o28_x15, .int o28_x16, .int o28_x17, .int o28_x18, .int o28_x19, .int o28_x20, .ref (ρ h0 21), .int o28_x22, .ref (ρ h0 23), .ref (ρ h0 24), .int o28_x25, .ref (ρ h0 26), .ref (ρ h0 27), .int o28_x28, .int o28_x29, .ref (ρ h0 30), .ref (ρ h0 31), .int o28_x32, .long o28_x33, .long o28_x34, .long o28_x35, .int o28_x36, .int o28_x37, .int o28_x38, .ref (ρ h0 39), .ref (ρ h0 40), .ref (ρ h0 41), .ref (ρ h0 42), .ref (ρ h0 43), .ref (ρ h0 44), .ref (ρ h0 45), .ref (ρ h0 46), .int o28_x47, .int o28_x48, .ref (ρ h0 49), .ref (ρ h0 50), .ref (ρ h0 51), .ref (ρ h0 52)])) hD (tp_in hG ht_h0 (by decide)) eq29 (fun f30 H locs hP hD hS g32 k31 => ?_))
  have hT := hT.up ht_h0 g32 k31 ⟨_, _, _, _, _, _, _, _, _, _, _, _, _, _, _, _, _, _, _, _, _, _, _, _, _, _, _, _, rfl, ro28_0, ro28_1, ro28_2, ro28_3, ro28_4, ro28_5, ro28_6, ro28_7, ro28_8, ro28_9, ro28_10, ro28_11, ro28_12, ro28_13⟩
  have hR := hR.up ht_h0 (by decide) k31
  refine lv_aload_n hx hb dX12_judge_5 rfl (lv_at hl 0 rfl) ?_
  refine lv_iload_n hx hb dX12_judge_6 rfl (lv_at hl 1 rfl) ?_
  have hf_33 : f30 (ρ h0 2) = .inl (κ 0, 12967, .inl g27) := (k31 _ (tp_ne y1 ht_h0 (by decide))).trans hf_o26
  refine tpk_pos (tp_in hG ht_h0 (by decide)) g32 (fun q34 eq34 => ?_)
  refine pz_calli (va_runV (As := [.int v]) (rest := []) ⟨hx, hb, hml, hown, hts⟩ (t_X12_isShip l dC dI _ κ τ ν ρ L f30 hG hT h0 v (-1) 0 ht_h0 (by omega) (by rw [hf_33, mo_i1]; exact hI)) (cwV 1 hts gX12_judge_X12_isShip rfl rfl rfl ⟨rfl, pd_X12_isShip⟩ ⟨Nat.le_of_ble_eq_true rfl, Nat.le_of_ble_eq_true rfl⟩) ⟨pz_blind, va_recv hK hP (ci := 12) (q0 := q34) rfl eq34, pz_pre hP hK hD hN⟩ rfl rfl hl.1 rfl (lv_room (Nat.le_of_ble_eq_true rfl)) dX12_judge_7 ⟨Nat.le_of_ble_eq_true rfl, Nat.le_of_ble_eq_true rfl⟩) (fun r35 hw36 => ?_)
  obtain ⟨hw36r, hw36p⟩ := hw36
  have := hI.k1
  rw [hf_33, mo_i1] at hw36p
  refine lv_if_eq (tgt := 21) hx hb dX12_judge_10 (by decide) (fun c37 => ?_) (fun c37 => ?_)
  · have ic37 : r35.toInt = 0 := zi_eq rfl rfl c37
    refine lv_ldc2 (own := RX12) (v := (-2000000000000000)) hx hb hown (hts (.constantLong RX12 466 (-2000000000000000)) wa_1189) dX12_judge_21 ?_
    exact W.lret (v := (-2000000000000000)) hx hb hr (fun t ht hW => ⟨⟨(-2000000000000000), f30, rfl, ⟨hT, hR, trivial, trivial⟩, by rw [ht]; exact hP, va_K.moved hW.alike hK, hD⟩, hS.F ht⟩) hS.2.2 dX12_judge_24
  · have ic37 : r35.toInt ≠ 0 := zi_eqf rfl rfl c37
    replace ic37 : 1 ≤ r35.toInt := by omega
    have p38 : 0 ≤ v.toInt ∧ v.toInt < mo_R g27 1 := (tp_cond.yes hw36p) (by omega)
    refine lv_iload hx hb dX12_judge_13 (lv_at hl 5 rfl) ?_
    refine pz_calli (va_runS (As := [.int a5]) (rest := []) ⟨hx, hb, hml, hown, hts⟩ (t_X12_isHour l dC dI _ a5 (a5.toInt) rfl) (va_cwS 1 hts gX12_judge_X12_isHour rfl rfl rfl pd_X12_isHour ⟨Nat.le_of_ble_eq_true rfl, Nat.le_of_ble_eq_true rfl⟩) ⟨pz_blind, pz_pre pz_P0 (hK.sub (tys' := []) [] rfl) (pz_D0 (A := fun _ => True)) hN⟩ rfl rfl hl.1 rfl (lv_room (Nat.le_of_ble_eq_true rfl)) dX12_judge_15 ⟨Nat.le_of_ble_eq_true rfl, Nat.le_of_ble_eq_true rfl⟩) (fun r39 hw40 => ?_)
    obtain ⟨hw40r, hw40p⟩ := hw40
    refine lv_if_ne (tgt := 25) hx hb dX12_judge_18 (by decide) (fun c41 => ?_) (fun c41 => ?_)
    · have ic41 : r39.toInt ≠ 0 := zi_ne rfl rfl c41
      replace ic41 : 1 ≤ r39.toInt := by omega
      have p42 : 0 ≤ (a5.toInt) ∧ (a5.toInt) ≤ 2399 := (tp_cond.yes hw40p) (by omega)
      refine lv_aload_n hx hb dX12_judge_25 rfl (lv_at hl 0 rfl) ?_
      refine va_get (D := (dC, dI)) (ci := 12) (v := .ref (ρ h0 42)) (C := RX12) (T := TX12) (N := 53) hx hb hts hfX12 hown hK hP q34 eq34 rfl 42 (by decide) (hts (.fieldLink RX12 64 "ColdShipsModel" "line" "[I") wa_166) (fun _ h9 => h9) rfl dX12_judge_26 ?_
      refine lv_iconst (v := 0) hx hb dX12_judge_29 (by decide) ?_
      refine lv_iload_n hx hb dX12_judge_30 rfl (lv_at hl 2 rfl) ?_
      refine tpk_72 hT y17 (fun g44 hf_o43 => ?_)
      refine tpk_pos (tp_in hG y17 (by decide)) hf_o43 (fun q45 eq45 => ?_)
      refine va_iast hx hb hK hP hD hS q45 0 eq45 rfl (vp_in_iff.mpr ⟨by decide, by decide⟩) dX12_judge_31 (tp_k (.inl (κ 0, 6, .inl (upd g44 (0 : Int32).toNatClampNeg u))) hD (tp_in hG y17 (by decide)) eq45 (fun f46 H locs hP hD hS g48 k47 => ?_))
      have hT := hT.up y17 g48 k47 tp_o72
      have hR := hR.up y17 (by decide) k47
      have hU50 : mo_U (mo_R g44) (mo_R (upd g44 (0 : Int32).toNatClampNeg u)) (0) (u.toInt) := mo_up (show (0 : Int32).toInt = 0 from by decide) (rfl : u.toInt = _) (by omega)
      generalize (upd g44 (0 : Int32).toNatClampNeg u) = g49 at g48 hU50
      have hU50e := hU50.eq (by omega)
      refine lv_aload_n hx hb dX12_judge_32 rfl (lv_at hl 0 rfl) ?_
      have hf_51 : f46 h0 = .inr (12, [.int 0, .int o28_x1, .ref (ρ h0 2), .ref (ρ h0 3), .ref (ρ h0 4), .ref (ρ h0 5), .ref (ρ h0 6), .int o28_x7, .ref (ρ h0 8), .int o28_x9, .int o28_x10, .int o28_x11, .int o28_x12, .long o28_x13, .int o28_x14, .int o28_x15, .int o28_x16, .int o28_x17, .int o28_x18, .int o28_x19, .int o28_x20, .ref (ρ h0 21), .int o28_x22, .ref (ρ h0 23), .ref (ρ h0 24), .int o28_x25, .ref (ρ h0 26), .ref (ρ h0 27), .int o28_x28, .int o28_x29, .ref (ρ h0 30), .ref (ρ h0 31), .int o28_x32, .long o28_x33, .long o28_x34, .long o28_x35, .int o28_x36, .int o28_x37, .int o28_x38, .ref (ρ h0 39), .ref (ρ h0 40), .ref (ρ h0 41), .ref (ρ h0 42), .ref (ρ h0 43), .ref (ρ h0 44), .ref (ρ h0 45), .ref (ρ h0 46), .int o28_x47, .int o28_x48, .ref (ρ h0 49), .ref (ρ h0 50), .ref (ρ h0 51), .ref (ρ h0 52)]) := (k47 _ (tp_ne ht_h0 y17 (by decide))).trans g32
      refine tpk_pos (tp_in hG ht_h0 (by decide)) hf_51 (fun q52 eq52 => ?_)
      refine va_get (D := (dC, dI)) (ci := 12) (v := .ref (ρ h0 42)) (C := RX12) (T := TX12) (N := 53) hx hb hts hfX12 hown hK hP q52 eq52 rfl 42 (by decide) (hts (.fieldLink RX12 64 "ColdShipsModel" "line" "[I") wa_166) (fun _ h9 => h9) rfl dX12_judge_33 ?_
      refine lv_iconst (v := 1) hx hb dX12_judge_36 (by decide) ?_
      refine lv_iload_n hx hb dX12_judge_37 rfl (lv_at hl 3 rfl) ?_
      refine tpk_pos (tp_in hG y17 (by decide)) g48 (fun q53 eq53 => ?_)
      refine va_iast hx hb hK hP hD hS q53 0 eq53 rfl (vp_in_iff.mpr ⟨by decide, by decide⟩) dX12_judge_38 (tp_k (.inl (κ 0, 6, .inl (upd g49 (1 : Int32).toNatClampNeg a))) hD (tp_in hG y17 (by decide)) eq53 (fun f54 H locs hP hD hS g56 k55 => ?_))
      have hT := hT.up y17 g56 k55 tp_o72
      have hR := hR.up y17 (by decide) k55
      have hU58 : mo_U (mo_R g49) (mo_R (upd g49 (1 : Int32).toNatClampNeg a)) (1) (a.toInt) := mo_up (show (1 : Int32).toInt = 1 from by decide) (rfl : a.toInt = _) (by omega)
      generalize (upd g49 (1 : Int32).toNatClampNeg a) = g57 at g56 hU58
      have hU58e := hU58.eq (by omega)
      refine lv_aload_n hx hb dX12_judge_39 rfl (lv_at hl 0 rfl) ?_
      have hf_59 : f54 h0 = .inr (12, [.int 0, .int o28_x1, .ref (ρ h0 2), .ref (ρ h0 3), .ref (ρ h0 4), .ref (ρ h0 5), .ref (ρ h0 6), .int o28_x7, .ref (ρ h0 8), .int o28_x9, .int o28_x10, .int o28_x11, .int o28_x12, .long o28_x13, .int o28_x14, .int o28_x15, .int o28_x16, .int o28_x17, .int o28_x18, .int o28_x19, .int o28_x20, .ref (ρ h0 21), .int o28_x22, .ref (ρ h0 23), .ref (ρ h0 24), .int o28_x25, .ref (ρ h0 26), .ref (ρ h0 27), .int o28_x28, .int o28_x29, .ref (ρ h0 30), .ref (ρ h0 31), .int o28_x32, .long o28_x33, .long o28_x34, .long o28_x35, .int o28_x36, .int o28_x37, .int o28_x38, .ref (ρ h0 39), .ref (ρ h0 40), .ref (ρ h0 41), .ref (ρ h0 42), .ref (ρ h0 43), .ref (ρ h0 44), .ref (ρ h0 45), .ref (ρ h0 46), .int o28_x47, .int o28_x48, .ref (ρ h0 49), .ref (ρ h0 50), .ref (ρ h0 51), .ref (ρ h0 52)]) := (k55 _ (tp_ne ht_h0 y17 (by decide))).trans hf_51
      refine tpk_pos (tp_in hG ht_h0 (by decide)) hf_59 (fun q60 eq60 => ?_)
      refine va_get (D := (dC, dI)) (ci := 12) (v := .ref (ρ h0 42)) (C := RX12) (T := TX12) (N := 53) hx hb hts hfX12 hown hK hP q60 eq60 rfl 42 (by decide) (hts (.fieldLink RX12 64 "ColdShipsModel" "line" "[I") wa_166) (fun _ h9 => h9) rfl dX12_judge_40 ?_
      refine lv_iconst (v := 2) hx hb dX12_judge_43 (by decide) ?_
      refine lv_iload hx hb dX12_judge_44 (lv_at hl 4 rfl) ?_
      refine tpk_pos (tp_in hG y17 (by decide)) g56 (fun q61 eq61 => ?_)
      refine va_iast hx hb hK hP hD hS q61 0 eq61 rfl (vp_in_iff.mpr ⟨by decide, by decide⟩) dX12_judge_46 (tp_k (.inl (κ 0, 6, .inl (upd g57 (2 : Int32).toNatClampNeg a4))) hD (tp_in hG y17 (by decide)) eq61 (fun f62 H locs hP hD hS g64 k63 => ?_))
      have hT := hT.up y17 g64 k63 tp_o72
      have hR := hR.up y17 (by decide) k63
      have hU66 : mo_U (mo_R g57) (mo_R (upd g57 (2 : Int32).toNatClampNeg a4)) (2) (a4.toInt) := mo_up (show (2 : Int32).toInt = 2 from by decide) (rfl : a4.toInt = _) (by omega)
      generalize (upd g57 (2 : Int32).toNatClampNeg a4) = g65 at g64 hU66
      have hU66e := hU66.eq (by omega)
      refine lv_iload_n hx hb dX12_judge_47 rfl (lv_at hl 2 rfl) ?_
      refine lv_iconst (v := (-1)) hx hb dX12_judge_48 (by decide) ?_
      refine tp_join 76 (fun H locs ls stk => ∃ w67 : Int32, stk = [.int w67] ∧ (0 ≤ w67.toInt ∧ w67.toInt ≤ 3) ∧ va_P (dC, dI) vwCl (va_pl L f62) H ∧ va_D A (va_pl L f62) ∧ va_S A s.heap H locs ∧ lv_has ls 9 [(0, .ref h0), (1, .int v), (2, .int u), (3, .int a), (4, .int a4), (5, .int a5)]) ?_ (fun hj68 => ?_)
      · intro H locs ls stk hI
        refine Exists.elim hI (fun w67 hE90 => tn_6 hE90 (fun e90 rw67 hP hD hS hl => ?_))
        clear hE90 hI; subst e90
        refine lv_istore (lv' := [(6, .int w67), (0, .ref h0), (1, .int v), (2, .int u), (3, .int a), (4, .int a4), (5, .int a5)]) hx hb dX12_judge_76 hl (by decide) rfl (fun ls hl => ?_)
        refine lv_iconst (v := 0) hx hb dX12_judge_78 (by decide) ?_
        refine lv_istore (lv' := [(7, .int 0), (6, .int w67), (0, .ref h0), (1, .int v), (2, .int u), (3, .int a), (4, .int a4), (5, .int a5)]) hx hb dX12_judge_79 hl (by decide) rfl (fun ls hl => ?_)
        have hf_69 : f46 (ρ h0 2) = .inl (κ 0, 12967, .inl g27) := (k47 _ (tp_ne y1 y17 (by decide))).trans hf_33
        have hf_70 : f54 (ρ h0 2) = .inl (κ 0, 12967, .inl g27) := (k55 _ (tp_ne y1 y17 (by decide))).trans hf_69
        have hf_71 : f62 (ρ h0 2) = .inl (κ 0, 12967, .inl g27) := (k63 _ (tp_ne y1 y17 (by decide))).trans hf_70
        have tf72 : mo_hd (mo_i (f62 (ρ h0 42)) = g65) := tfa_i g64
        refine pz_loop (fun n0 H locs ls => ∃ w73 : Int32, n0 = (3 - (w73.toInt)).toNat ∧ (0 ≤ w73.toInt ∧ w73.toInt ≤ 3) ∧ (∀ j, 0 ≤ j → j < (w73.toInt) → 0 ≤ (mo_R g65) j ∧ (mo_R g65) j < mo_R g27 10) ∧ va_P (dC, dI) vwCl (va_pl L f62) H ∧ va_D A (va_pl L f62) ∧ va_S A s.heap H locs ∧ lv_has ls 9 [(7, .int w73), (6, .int w67), (0, .ref h0), (1, .int v), (2, .int u), (3, .int a), (4, .int a4), (5, .int a5)]) ?_ _ _ _ _ ⟨0, rfl, (by have : (0 : Int32).toInt = 0 := rfl; omega), (fun j j0 j1 => absurd j1 (by have : (0 : Int32).toInt = 0 := rfl; omega)), hP, hD, hS, lv_sub hl [0, 1, 2, 3, 4, 5, 6, 7] rfl⟩
        intro n0 H locs ls hI ih75
        refine Exists.elim hI (fun w73 hE90 => tn_7 hE90 (fun hn76 rw73 k74 hP hD hS hl => ?_))
        clear hE90 hI
        refine lv_iload hx hb dX12_judge_81 (lv_at hl 0 rfl) ?_
        refine lv_iload hx hb dX12_judge_83 (lv_at hl 1 rfl) ?_
        refine lv_icmp_ge (tgt := 160) hx hb dX12_judge_85 (by decide) (fun c77 => ?_) (fun c77 => ?_)
        · have ic77 : w73.toInt ≥ w67.toInt := zi_ge rfl rfl c77
          refine lv_aload_n hx hb dX12_judge_160 rfl (lv_at hl 2 rfl) ?_
          refine lv_iload_n hx hb dX12_judge_161 rfl (lv_at hl 3 rfl) ?_
          refine lv_iload hx hb dX12_judge_162 (lv_at hl 1 rfl) ?_
          refine lv_iload hx hb dX12_judge_164 (lv_at hl 7 rfl) ?_
          have hf_78 : f62 h0 = .inr (12, [.int 0, .int o28_x1, .ref (ρ h0 2), .ref (ρ h0 3), .ref (ρ h0 4), .ref (ρ h0 5), .ref (ρ h0 6), .int o28_x7, .ref (ρ h0 8), .int o28_x9, .int o28_x10, .int o28_x11, .int o28_x12, .long o28_x13, .int o28_x14, .int o28_x15, .int o28_x16, .int o28_x17, .int o28_x18, .int o28_x19, .int o28_x20, .ref (ρ h0 21), .int o28_x22, .ref (ρ h0 23), .ref (ρ h0 24), .int o28_x25, .ref (ρ h0 26), .ref (ρ h0 27), .int o28_x28, .int o28_x29, .ref (ρ h0 30), .ref (ρ h0 31), .int o28_x32, .long o28_x33, .long o28_x34, .long o28_x35, .int o28_x36, .int o28_x37, .int o28_x38, .ref (ρ h0 39), .ref (ρ h0 40), .ref (ρ h0 41), .ref (ρ h0 42), .ref (ρ h0 43), .ref (ρ h0 44), .ref (ρ h0 45), .ref (ρ h0 46), .int o28_x47, .int o28_x48, .ref (ρ h0 49), .ref (ρ h0 50), .ref (ρ h0 51), .ref (ρ h0 52)]) := (k63 _ (tp_ne ht_h0 y17 (by decide))).trans hf_59
          refine tpk_pos (tp_in hG ht_h0 (by decide)) hf_78 (fun q79 eq79 => ?_)
          have hFc := tp_fr hD hS hA
          refine va_calll (va_runV (As := [.int v, .int w67, .int a5]) (rest := []) ⟨hx, hb, hml, hown, hts⟩ (t_X12_sailRow l dC dI _ κ τ ν ρ L f62 hG hT h0 v w67 a5 (-1) 0 ht_h0 (by first | decide | omega) (by omega) (by rw [hf_71, mo_i1]; exact hI) (by first | (simp only [hf_71, hf_o26, mo_i1]; omega) | (simp only [hf_71, hf_o26, mo_i1]; trivial) | (simp only [hf_71, hf_o26, mo_i1]; done) | omega) (by first | (simp only [(mo_un tf72), hf_71, mo_i1, mo_l1]; exact (show ∀ j, 0 ≤ j → j < w67.toInt → 0 ≤ (mo_R g65) j ∧ (mo_R g65) j < (mo_R g27) 10 from (fun j j0 j1 => k74 j j0 (by omega)))) | (rw [(mo_un tf72), hf_71]; exact (show ∀ j, 0 ≤ j → j < w67.toInt → 0 ≤ (mo_R g65) j ∧ (mo_R g65) j < (mo_R g27) 10 from (fun j j0 j1 => k74 j j0 (by omega)))))) (cwV 3 hts gX12_judge_X12_sailRow rfl rfl rfl ⟨rfl, pd_X12_sailRow⟩ ⟨Nat.le_of_ble_eq_true rfl, Nat.le_of_ble_eq_true rfl⟩) ⟨pz_blind, va_recv hK hP (ci := 12) (q0 := q79) rfl eq79, pz_pre hP hK hD hN⟩ rfl rfl hl.1 rfl (lv_room (Nat.le_of_ble_eq_true rfl)) dX12_judge_166 ⟨Nat.le_of_ble_eq_true rfl, Nat.le_of_ble_eq_true rfl⟩) hS (fun q _ h => hFc q h) hFc (fun r80 f82 t H1 locs ht hvm hw81 hB hz1 hk1 hS => ?_)
          refine tn_4 hw81 (fun hT hF83 hw81r hw81p => ?_); clear hw81
          have hR := hR.then hF83 (by decide)
          have hP := hB.1; rw [ht] at hP; have hD := tp_ad f82 hD; clear hB hFc hz1 hk1; subst ht; generalize t.heap = H at hP hS ⊢
          exact W.lret (v := r80) hx hb hr (fun t ht hW => ⟨⟨r80, f82, rfl, ⟨hT, hR, trivial, trivial⟩, by rw [ht]; exact hP, va_K.moved hW.alike hK, hD⟩, hS.F ht⟩) hS.2.2 dX12_judge_169
        · have ic77 : w73.toInt < w67.toInt := zi_gef rfl rfl c77
          refine lv_iconst (v := 0) hx hb dX12_judge_88 (by decide) ?_
          refine lv_istore (lv' := [(8, .int 0), (7, .int w73), (6, .int w67), (0, .ref h0), (1, .int v), (2, .int u), (3, .int a), (4, .int a4), (5, .int a5)]) hx hb dX12_judge_89 hl (by decide) rfl (fun ls hl => ?_)
          refine pz_loop (fun n0 H locs ls => ∃ w84 : Int32, n0 = (3 - (w84.toInt)).toNat ∧ (0 ≤ w84.toInt ∧ w84.toInt ≤ 3) ∧ va_P (dC, dI) vwCl (va_pl L f62) H ∧ va_D A (va_pl L f62) ∧ va_S A s.heap H locs ∧ lv_has ls 9 [(8, .int w84), (7, .int w73), (6, .int w67), (0, .ref h0), (1, .int v), (2, .int u), (3, .int a), (4, .int a4), (5, .int a5)]) ?_ _ _ _ _ ⟨0, rfl, (by have : (0 : Int32).toInt = 0 := rfl; omega), hP, hD, hS, lv_sub hl [0, 1, 2, 3, 4, 5, 6, 7, 8] rfl⟩
          intro n0 H locs ls hI ih85
          refine Exists.elim hI (fun w84 hE90 => tn_6 hE90 (fun hn86 rw84 hP hD hS hl => ?_))
          clear hE90 hI
          refine lv_iload hx hb dX12_judge_91 (lv_at hl 0 rfl) ?_
          refine lv_iload hx hb dX12_judge_93 (lv_at hl 1 rfl) ?_
          refine lv_icmp_ge (tgt := 125) hx hb dX12_judge_95 (by decide) (fun c87 => ?_) (fun c87 => ?_)
          · have ic87 : w84.toInt ≥ w73.toInt := zi_ge rfl rfl c87
            refine lv_aload_n hx hb dX12_judge_125 rfl (lv_at hl 3 rfl) ?_
            have hf_88 : f62 h0 = .inr (12, [.int 0, .int o28_x1, .ref (ρ h0 2), .ref (ρ h0 3), .ref (ρ h0 4), .ref (ρ h0 5), .ref (ρ h0 6), .int o28_x7, .ref (ρ h0 8), .int o28_x9, .int o28_x10, .int o28_x11, .int o28_x12, .long o28_x13, .int o28_x14, .int o28_x15, .int o28_x16, .int o28_x17, .int o28_x18, .int o28_x19, .int o28_x20, .ref (ρ h0 21), .int o28_x22, .ref (ρ h0 23), .ref (ρ h0 24), .int o28_x25, .ref (ρ h0 26), .ref (ρ h0 27), .int o28_x28, .int o28_x29, .ref (ρ h0 30), .ref (ρ h0 31), .int o28_x32, .long o28_x33, .long o28_x34, .long o28_x35, .int o28_x36, .int o28_x37, .int o28_x38, .ref (ρ h0 39), .ref (ρ h0 40), .ref (ρ h0 41), .ref (ρ h0 42), .ref (ρ h0 43), .ref (ρ h0 44), .ref (ρ h0 45), .ref (ρ h0 46), .int o28_x47, .int o28_x48, .ref (ρ h0 49), .ref (ρ h0 50), .ref (ρ h0 51), .ref (ρ h0 52)]) := (k63 _ (tp_ne ht_h0 y17 (by decide))).trans hf_59
            refine tpk_pos (tp_in hG ht_h0 (by decide)) hf_88 (fun q89 eq89 => ?_)
            refine va_get (D := (dC, dI)) (ci := 12) (v := .ref (ρ h0 42)) (C := RX12) (T := TX12) (N := 53) hx hb hts hfX12 hown hK hP q89 eq89 rfl 42 (by decide) (hts (.fieldLink RX12 64 "ColdShipsModel" "line" "[I") wa_166) (fun _ h9 => h9) rfl dX12_judge_126 ?_
            refine lv_iload hx hb dX12_judge_129 (lv_at hl 1 rfl) ?_
            refine tpk_pos (tp_in hG y17 (by decide)) g64 (fun q90 eq90 => ?_)
            refine va_iald hx hb hK hP q90 0 eq90 rfl (vp_in_iff.mpr ⟨by omega, by omega⟩) dX12_judge_131 ?_
            refine lv_topi (fun z91 ez91 => ?_)
            have jz91 : z91.toInt = mo_R g65 w73.toInt := mo_rd ez91 (by omega)
            refine lv_i2l hx hb dX12_judge_132 rfl ?_
            refine lv_lconst (v := 0) hx hb dX12_judge_133 (by decide) ?_
            refine lv_aload_n hx hb dX12_judge_134 rfl (lv_at hl 3 rfl) ?_
            refine va_get (D := (dC, dI)) (ci := 12) (v := .ref (ρ h0 2)) (C := RX12) (T := TX12) (N := 53) hx hb hts hfX12 hown hK hP q89 eq89 rfl 2 (by decide) (hts (.fieldLink RX12 7 "ColdShipsModel" "row" "[I") wa_148) (fun _ h9 => h9) rfl dX12_judge_135 ?_
            refine lv_bipush (v := 10) hx hb dX12_judge_138 (by decide) ?_
            refine tpk_pos (tp_in hG y1 (by decide)) hf_71 (fun q92 eq92 => ?_)
            refine va_iald hx hb hK hP q92 0 eq92 rfl (vp_in_iff.mpr ⟨by decide, by decide⟩) dX12_judge_140 ?_
            refine lv_topi (fun z93 ez93 => ?_)
            have jz93 : z93.toInt = mo_R g27 (10) := mo_rd ez93 (show (10 : Int32).toInt = (10) from by decide)
            have kz93 := hI.k10
            refine lv_i2l hx hb dX12_judge_141 rfl ?_
            refine lv_lconst (v := 1) hx hb dX12_judge_142 (by decide) ?_
            refine lv_lsub hx hb dX12_judge_143 ?_
            refine lv_topl (fun z94 ez94 => ?_)
            have iz94 : z94.toInt = z93.toInt - 1 := zl_sub ez94 (Int32.toInt_toInt64 z93) rfl (by omega) (by omega)
            refine pz_calli (va_runS (As := [.long z91.toInt64, .long 0, .long z94]) (rest := []) ⟨hx, hb, hml, hown, hts⟩ (t_X12_in l dC dI _ z91.toInt64 (0) z94 (z91.toInt) (0) (z94.toInt) (Int32.toInt_toInt64 z91) rfl rfl) (va_cwS 3 hts gX12_judge_X12_in rfl rfl rfl pd_X12_in ⟨Nat.le_of_ble_eq_true rfl, Nat.le_of_ble_eq_true rfl⟩) ⟨pz_blind, pz_pre pz_P0 (hK.sub (tys' := []) [] rfl) (pz_D0 (A := fun _ => True)) hN⟩ rfl rfl hl.1 rfl (lv_room (Nat.le_of_ble_eq_true rfl)) dX12_judge_144 ⟨Nat.le_of_ble_eq_true rfl, Nat.le_of_ble_eq_true rfl⟩) (fun r95 hw96 => ?_)
            obtain ⟨hw96r, hw96p⟩ := hw96
            refine lv_if_ne (tgt := 154) hx hb dX12_judge_147 (by decide) (fun c97 => ?_) (fun c97 => ?_)
            · have ic97 : r95.toInt ≠ 0 := zi_ne rfl rfl c97
              replace ic97 : 1 ≤ r95.toInt := by omega
              have p98 : (0) ≤ (z91.toInt) ∧ (z91.toInt) ≤ (z94.toInt) := (tp_cond.yes hw96p) (by omega)
              obtain ⟨z99, ez99⟩ : ∃ y : Int32, y = w73 + 1 := ⟨_, rfl⟩
              refine lv_iinc (v := z99) (lv' := [(7, .int z99), (8, .int w84), (6, .int w67), (0, .ref h0), (1, .int v), (2, .int u), (3, .int a), (4, .int a4), (5, .int a5)]) hx hb dX12_judge_154 hl (k := 1) rfl (by rw [ez99]; rfl) (by decide) rfl (fun ls hl => ?_)
              have iz99 : z99.toInt = w73.toInt + 1 := zi_add ez99 rfl rfl (by omega) (by omega)
              refine lv_goto (tgt := 81) hx hb dX12_judge_157 (by decide) ?_
              exact ih75 _ _ _ _ (by rw [hn76]; omega) ⟨z99, rfl, (by omega), (fun j j0 j1 => by rcases (show j < w73.toInt ∨ j = w73.toInt by omega) with q9 | rfl; (exact k74 j j0 q9); omega), hP, hD, hS, lv_sub hl [0, 2, 3, 4, 5, 6, 7, 8] rfl⟩
            · have ic97 : r95.toInt = 0 := zi_nef rfl rfl c97
              refine lv_ldc2 (own := RX12) (v := (-2000000000000000)) hx hb hown (hts (.constantLong RX12 466 (-2000000000000000)) wa_1189) dX12_judge_150 ?_
              exact W.lret (v := (-2000000000000000)) hx hb hr (fun t ht hW => ⟨⟨(-2000000000000000), f62, rfl, ⟨hT, hR, trivial, trivial⟩, by rw [ht]; exact hP, va_K.moved hW.alike hK, hD⟩, hS.F ht⟩) hS.2.2 dX12_judge_153
          · have ic87 : w84.toInt < w73.toInt := zi_gef rfl rfl c87
            refine lv_aload_n hx hb dX12_judge_98 rfl (lv_at hl 3 rfl) ?_
            have hf_100 : f62 h0 = .inr (12, [.int 0, .int o28_x1, .ref (ρ h0 2), .ref (ρ h0 3), .ref (ρ h0 4), .ref (ρ h0 5), .ref (ρ h0 6), .int o28_x7, .ref (ρ h0 8), .int o28_x9, .int o28_x10, .int o28_x11, .int o28_x12, .long o28_x13, .int o28_x14, .int o28_x15, .int o28_x16, .int o28_x17, .int o28_x18, .int o28_x19, .int o28_x20, .ref (ρ h0 21), .int o28_x22, .ref (ρ h0 23), .ref (ρ h0 24), .int o28_x25, .ref (ρ h0 26), .ref (ρ h0 27), .int o28_x28, .int o28_x29, .ref (ρ h0 30), .ref (ρ h0 31), .int o28_x32, .long o28_x33, .long o28_x34, .long o28_x35, .int o28_x36, .int o28_x37, .int o28_x38, .ref (ρ h0 39), .ref (ρ h0 40), .ref (ρ h0 41), .ref (ρ h0 42), .ref (ρ h0 43), .ref (ρ h0 44), .ref (ρ h0 45), .ref (ρ h0 46), .int o28_x47, .int o28_x48, .ref (ρ h0 49), .ref (ρ h0 50), .ref (ρ h0 51), .ref (ρ h0 52)]) := (k63 _ (tp_ne ht_h0 y17 (by decide))).trans hf_59
            refine tpk_pos (tp_in hG ht_h0 (by decide)) hf_100 (fun q101 eq101 => ?_)
            refine va_get (D := (dC, dI)) (ci := 12) (v := .ref (ρ h0 42)) (C := RX12) (T := TX12) (N := 53) hx hb hts hfX12 hown hK hP q101 eq101 rfl 42 (by decide) (hts (.fieldLink RX12 64 "ColdShipsModel" "line" "[I") wa_166) (fun _ h9 => h9) rfl dX12_judge_99 ?_
            refine lv_iload hx hb dX12_judge_102 (lv_at hl 1 rfl) ?_
            refine tpk_pos (tp_in hG y17 (by decide)) g64 (fun q102 eq102 => ?_)
            refine va_iald hx hb hK hP q102 0 eq102 rfl (vp_in_iff.mpr ⟨by omega, by omega⟩) dX12_judge_104 ?_
            refine lv_topi (fun z103 ez103 => ?_)
            have jz103 : z103.toInt = mo_R g65 w73.toInt := mo_rd ez103 (by omega)
            refine lv_aload_n hx hb dX12_judge_105 rfl (lv_at hl 3 rfl) ?_
            refine va_get (D := (dC, dI)) (ci := 12) (v := .ref (ρ h0 42)) (C := RX12) (T := TX12) (N := 53) hx hb hts hfX12 hown hK hP q101 eq101 rfl 42 (by decide) (hts (.fieldLink RX12 64 "ColdShipsModel" "line" "[I") wa_166) (fun _ h9 => h9) rfl dX12_judge_106 ?_
            refine lv_iload hx hb dX12_judge_109 (lv_at hl 0 rfl) ?_
            refine va_iald hx hb hK hP q102 0 eq102 rfl (vp_in_iff.mpr ⟨by omega, by omega⟩) dX12_judge_111 ?_
            refine lv_topi (fun z104 ez104 => ?_)
            have jz104 : z104.toInt = mo_R g65 w84.toInt := mo_rd ez104 (by omega)
            refine lv_icmp_ne (tgt := 119) hx hb dX12_judge_112 (by decide) (fun c105 => ?_) (fun c105 => ?_)
            · have ic105 : z103.toInt ≠ z104.toInt := zi_ne rfl rfl c105
              obtain ⟨z106, ez106⟩ : ∃ y : Int32, y = w84 + 1 := ⟨_, rfl⟩
              refine lv_iinc (v := z106) (lv' := [(8, .int z106), (7, .int w73), (6, .int w67), (0, .ref h0), (1, .int v), (2, .int u), (3, .int a), (4, .int a4), (5, .int a5)]) hx hb dX12_judge_119 hl (k := 0) rfl (by rw [ez106]; rfl) (by decide) rfl (fun ls hl => ?_)
              have iz106 : z106.toInt = w84.toInt + 1 := zi_add ez106 rfl rfl (by omega) (by omega)
              refine lv_goto (tgt := 91) hx hb dX12_judge_122 (by decide) ?_
              exact ih85 _ _ _ _ (by rw [hn86]; omega) ⟨z106, rfl, (by omega), hP, hD, hS, lv_sub hl [0, 1, 2, 3, 4, 5, 6, 7, 8] rfl⟩
            · have ic105 : z103.toInt = z104.toInt := zi_nef rfl rfl c105
              refine lv_ldc2 (own := RX12) (v := (-2000000000000000)) hx hb hown (hts (.constantLong RX12 466 (-2000000000000000)) wa_1189) dX12_judge_115 ?_
              exact W.lret (v := (-2000000000000000)) hx hb hr (fun t ht hW => ⟨⟨(-2000000000000000), f62, rfl, ⟨hT, hR, trivial, trivial⟩, by rw [ht]; exact hP, va_K.moved hW.alike hK, hD⟩, hS.F ht⟩) hS.2.2 dX12_judge_118
      · refine lv_icmp_ne (tgt := 56) hx hb dX12_judge_49 (by decide) (fun c107 => ?_) (fun c107 => ?_)
        · have ic107 : u.toInt ≠ (-1) := zi_ne rfl rfl c107
          refine lv_iload_n hx hb dX12_judge_56 rfl (lv_at hl 3 rfl) ?_
          refine lv_iconst (v := (-1)) hx hb dX12_judge_57 (by decide) ?_
          refine lv_icmp_ne (tgt := 65) hx hb dX12_judge_58 (by decide) (fun c108 => ?_) (fun c108 => ?_)
          · have ic108 : a.toInt ≠ (-1) := zi_ne rfl rfl c108
            refine lv_iload hx hb dX12_judge_65 (lv_at hl 4 rfl) ?_
            refine lv_iconst (v := (-1)) hx hb dX12_judge_67 (by decide) ?_
            refine lv_icmp_ne (tgt := 75) hx hb dX12_judge_68 (by decide) (fun c109 => ?_) (fun c109 => ?_)
            · have ic109 : a4.toInt ≠ (-1) := zi_ne rfl rfl c109
              refine lv_iconst (v := 3) hx hb dX12_judge_75 (by decide) ?_
              exact hj68 _ _ _ _ ⟨3, rfl, (by have : (3 : Int32).toInt = 3 := rfl; omega), hP, hD, hS, lv_sub hl [0, 1, 2, 3, 4, 5] rfl⟩
            · have ic109 : a4.toInt = (-1) := zi_nef rfl rfl c109
              refine lv_iconst (v := 2) hx hb dX12_judge_71 (by decide) ?_
              refine lv_goto (tgt := 76) hx hb dX12_judge_72 (by decide) ?_
              exact hj68 _ _ _ _ ⟨2, rfl, (by have : (2 : Int32).toInt = 2 := rfl; omega), hP, hD, hS, lv_sub hl [0, 1, 2, 3, 4, 5] rfl⟩
          · have ic108 : a.toInt = (-1) := zi_nef rfl rfl c108
            refine lv_iconst (v := 1) hx hb dX12_judge_61 (by decide) ?_
            refine lv_goto (tgt := 76) hx hb dX12_judge_62 (by decide) ?_
            exact hj68 _ _ _ _ ⟨1, rfl, (by have : (1 : Int32).toInt = 1 := rfl; omega), hP, hD, hS, lv_sub hl [0, 1, 2, 3, 4, 5] rfl⟩
        · have ic107 : u.toInt = (-1) := zi_nef rfl rfl c107
          refine lv_iconst (v := 0) hx hb dX12_judge_52 (by decide) ?_
          refine lv_goto (tgt := 76) hx hb dX12_judge_53 (by decide) ?_
          exact hj68 _ _ _ _ ⟨0, rfl, (by have : (0 : Int32).toInt = 0 := rfl; omega), hP, hD, hS, lv_sub hl [0, 1, 2, 3, 4, 5] rfl⟩
    · have ic41 : r39.toInt = 0 := zi_nef rfl rfl c41
      refine lv_ldc2 (own := RX12) (v := (-2000000000000000)) hx hb hown (hts (.constantLong RX12 466 (-2000000000000000)) wa_1189) dX12_judge_21 ?_
      exact W.lret (v := (-2000000000000000)) hx hb hr (fun t ht hW => ⟨⟨(-2000000000000000), f30, rfl, ⟨hT, hR, trivial, trivial⟩, by rw [ht]; exact hP, va_K.moved hW.alike hK, hD⟩, hS.F ht⟩) hS.2.2 dX12_judge_24

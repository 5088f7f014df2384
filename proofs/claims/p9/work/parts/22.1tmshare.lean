section
set_option maxHeartbeats 4000000 in
set_option maxRecDepth 100000 in
theorem t_X12_share (l : Launch) (dC : Nat → ClassId) (dI : Nat → Nat → Nat) (sz : Nat) (κ : Nat → ClassId) (Θ : Nat → Option Int) (τ ν : Nat → Nat) (ρ : Nat → Nat → Nat) (L : List Nat) (f : Nat → va_E) (hG : tp_G τ ν ρ L) (hT : tp_T (mo_O κ Θ) κ τ ν ρ f) (h0 : Nat) (v : Int32) (u : Int32) (a : Int32) (ht_h0 : τ h0 = 13) (hr_u : 0 ≤ u.toInt ∧ u.toInt ≤ 6) (hr_a : 0 ≤ a.toInt ∧ a.toInt ≤ 3) (hv0 : 0 ≤ v.toInt) : Met l yX12_share wqX12_share ({ frames := 2, cells := 0, slots := 0, locals := 400 }) (va_Pc [.ref h0, .int v, .int u, .int a] (pz_B dC dI (tp_K κ) (va_pl L f) sz)) (va_Qi (fun (r : Int32) (f1 : Nat → va_E) => tp_T (mo_O κ Θ) κ τ ν ρ f1 ∧ tp_F τ [81, 82] f f1 ∧ True ∧ mo_SBB (mo_R (mo_i (f1 (ρ h0 51)))) (mo_R (mo_i (f1 (ρ h0 52)))) u.toInt a.toInt (-1) ∧ (v.toInt + 1 = mo_pw a.toInt u.toInt.toNat → ∀ s9, 0 ≤ s9 → s9 < 3 → (mo_R (mo_i (f1 (ρ h0 52)))) s9 = 0)) (fun (f1 : Nat → va_E) (t : State) => pz_E dC dI (tp_K κ) (va_A (va_pl L f) sz) (va_pl L f1) t) (va_A (va_pl L f) sz)) 0 0 (va_A (va_pl L f) sz) := by
  refine Met.ofW (cc := cX12_share) (maxL := 7) (ret := some .int) (by decide) rfl ?_
  intro p e s m args below meth c s₁ B hml hv
  obtain ⟨rfl, hsz, hP, hK, hD0, hN⟩ := hv
  have hx := B.exec
  have hb := B.bytes
  have hr := B.returns
  have hts := fun (w : Cond) (h : w ∈ WALL) => atoms_spec (ws := wqX12_share) B.pre w (List.mem_cons_of_mem _ h)
  have hown : s.vm.findClass RX12 = some m.cls := findClass_of_methodNamed B.named
  have hlocks := B.notSynchronized
  subst hsz
  have hD := hD0.self (sz := s.heap.size)
  generalize hAe : va_A (va_pl L f) s.heap.size = A at hD ⊢
  have hA : ∀ q : Nat, s.heap.size ≤ q → A q := fun q h => by rw [← hAe]; exact Or.inr h
  have hS : va_S A s.heap s.heap [] := va_S.rf
  have hR : tp_F τ [81, 82] f f := tp_F.rf
  have hl := lv_entry ([.ref h0, .int v, .int u, .int a]) (n := 7) (Nat.le_of_ble_eq_true rfl)
  rw [lg_entry_eq]
  generalize (lg_sl ([.ref h0, .int v, .int u, .int a]) ++ List.replicate (7 - (lg_sl ([.ref h0, .int v, .int u, .int a])).length) Slot.unset).toArray = ls at hl ⊢
  have hl : lv_has ls 7 [(0, .ref h0), (1, .int v), (2, .int u), (3, .int a)] := hl
  refine lv_iconst (v := 0) hx hb dX12_share_0 (by decide) ?_
  refine lv_istore (lv' := [(4, .int 0), (0, .ref h0), (1, .int v), (2, .int u), (3, .int a)]) hx hb dX12_share_1 hl (by decide) rfl (fun ls hl => ?_)
  refine tgk_13 hG ht_h0 (fun y2 y3 y4 y5 y6 y7 y8 y9 y10 y11 y12 y13 y14 y15 y16 y17 y18 y19 y20 y21 y22 y23 y24 y25 y26 => ?_)
  refine tpk_82 hT y26 (fun g28 hf_o27 => ?_)
  have tf29 : mo_hd (mo_i (f (ρ h0 52)) = g28) := tfa_i hf_o27
  refine pz_loop (fun n0 H locs ls => ∃ f30 : Nat → va_E, ∃ w1 : Int32, n0 = (3 - (w1.toInt)).toNat ∧ tp_T (mo_O κ Θ) κ τ ν ρ f30 ∧ tp_F τ [81, 82] f f30 ∧ ((∀ s9, 0 ≤ s9 → s9 < (w1.toInt) → (mo_R (mo_i (f30 (ρ h0 52)))) s9 = 0)) ∧ (0 ≤ w1.toInt ∧ w1.toInt ≤ 3) ∧ va_P (dC, dI) vwCl (va_pl L f30) H ∧ va_D A (va_pl L f30) ∧ va_S A s.heap H locs ∧ lv_has ls 7 [(4, .int w1), (0, .ref h0), (1, .int v), (2, .int u), (3, .int a)]) ?_ _ _ _ _ ⟨f, 0, rfl, hT, hR, (by first | (simp only [(mo_un tf29), mo_i1, mo_l1]; exact (show ∀ s9, 0 ≤ s9 → s9 < (0 : Int32).toInt → (mo_R g28) s9 = 0 from (fun s9 s0 s1 => absurd s1 (by have : (0 : Int32).toInt = 0 := rfl; omega)))) | (rw [(mo_un tf29)]; exact (show ∀ s9, 0 ≤ s9 → s9 < (0 : Int32).toInt → (mo_R g28) s9 = 0 from (fun s9 s0 s1 => absurd s1 (by have : (0 : Int32).toInt = 0 := rfl; omega))))), (by have : (0 : Int32).toInt = 0 := rfl; omega), hP, hD, hS, lv_sub hl [0, 1, 2, 3, 4] rfl⟩
  intro n0 H locs ls hI ih32
  refine Exists.elim hI (fun f30 hE90 => Exists.elim hE90 (fun w1 hE91 => tn_9 hE91 (fun hn33 hT hR jf34 rw1 hP hD hS hl => ?_)))
  clear hE91 hE90 hI
  refine tpk_82 hT y26 (fun g36 hf_o35 => ?_)
  have tf37 : mo_hd (mo_i (f30 (ρ h0 52)) = g36) := tfa_i hf_o35
  replace jf34 : mo_hd (∀ s9, 0 ≤ s9 → s9 < (w1.toInt) → (mo_R g36) s9 = 0) := by have q9 := jf34; first | (simp only [(mo_un tf37), mo_i1, mo_l1] at q9; exact q9) | (rw [(mo_un tf37)] at q9; exact q9)
  refine lv_iload hx hb dX12_share_3 (lv_at hl 0 rfl) ?_
  refine lv_iconst (v := 3) hx hb dX12_share_5 (by decide) ?_
  refine lv_icmp_ge (tgt := 23) hx hb dX12_share_6 (by decide) (fun c38 => ?_) (fun c38 => ?_)
  · have ic38 : w1.toInt ≥ 3 := zi_ge rfl rfl c38
    refine lv_iload_n hx hb dX12_share_23 rfl (lv_at hl 2 rfl) ?_
    refine lv_istore (lv' := [(4, .int v), (0, .ref h0), (1, .int v), (2, .int u), (3, .int a)]) hx hb dX12_share_24 hl (by decide) rfl (fun ls hl => ?_)
    refine lv_iconst (v := 0) hx hb dX12_share_26 (by decide) ?_
    refine lv_istore (lv' := [(5, .int 0), (4, .int v), (0, .ref h0), (1, .int v), (2, .int u), (3, .int a)]) hx hb dX12_share_27 hl (by decide) rfl (fun ls hl => ?_)
    refine lv_iload_n hx hb dX12_share_29 rfl (lv_at hl 4 rfl) ?_
    refine lv_iconst (v := 1) hx hb dX12_share_30 (by decide) ?_
    refine lv_isub hx hb dX12_share_31 ?_
    refine lv_topi (fun z39 ez39 => ?_)
    have iz39 : z39.toInt = u.toInt - 1 := zi_sub ez39 rfl rfl (by (first | omega | (have u0 := mo_un jf34; omega))) (by (first | omega | (have u0 := mo_un jf34; omega)))
    refine lv_istore (lv' := [(6, .int z39), (5, .int 0), (4, .int v), (0, .ref h0), (1, .int v), (2, .int u), (3, .int a)]) hx hb dX12_share_32 hl (by decide) rfl (fun ls hl => ?_)
    refine tpk_81 hT y25 (fun g45 hf_o44 => ?_)
    have tf46 : mo_hd (mo_i (f30 (ρ h0 51)) = g45) := tfa_i hf_o44
    refine pz_loop (fun n0 H locs ls => ∃ f47 : Nat → va_E, ∃ w40 : Int32, ∃ w41 : Int32, ∃ w42 : Int32, n0 = ((w40.toInt) + 1).toNat ∧ tp_T (mo_O κ Θ) κ τ ν ρ f47 ∧ tp_F τ [81, 82] f f47 ∧ ((mo_SBB (mo_R (mo_i (f47 (ρ h0 51)))) (mo_R (mo_i (f47 (ρ h0 52)))) u.toInt a.toInt (w40.toInt))) ∧ (((v.toInt + 1 = mo_pw a.toInt u.toInt.toNat → (w42.toInt) + 1 = mo_pw a.toInt ((w40.toInt) + 1).toNat ∧ ∀ s9, 0 ≤ s9 → s9 < 3 → (mo_R (mo_i (f47 (ρ h0 52)))) s9 = 0))) ∧ ((-1) ≤ w40.toInt ∧ w40.toInt ≤ 5) ∧ (0 ≤ w42.toInt) ∧ ((w40.toInt) < u.toInt) ∧ va_P (dC, dI) vwCl (va_pl L f47) H ∧ va_D A (va_pl L f47) ∧ va_S A s.heap H locs ∧ lv_has ls 7 [(6, .int w40), (5, .int w41), (4, .int w42), (0, .ref h0), (1, .int v), (2, .int u), (3, .int a)]) ?_ _ _ _ _ ⟨f30, z39, 0, v, rfl, hT, hR, (by first | (simp only [(mo_un tf46), (mo_un tf37), mo_i1, mo_l1]; exact (show mo_SBB (mo_R g45) (mo_R g36) u.toInt a.toInt (z39.toInt) from mo_SBB.rf (by (first | omega | (have u0 := mo_un jf34; omega))) (fun s9 s0 s1 => jf34 s9 s0 (by (first | omega | (have u0 := mo_un jf34; omega)))))) | (rw [(mo_un tf46), (mo_un tf37)]; exact (show mo_SBB (mo_R g45) (mo_R g36) u.toInt a.toInt (z39.toInt) from mo_SBB.rf (by (first | omega | (have u0 := mo_un jf34; omega))) (fun s9 s0 s1 => jf34 s9 s0 (by (first | omega | (have u0 := mo_un jf34; omega))))))), (by first | (simp only [(mo_un tf37), mo_i1, mo_l1]; exact (show (v.toInt + 1 = mo_pw a.toInt u.toInt.toNat → (v.toInt) + 1 = mo_pw a.toInt ((z39.toInt) + 1).toNat ∧ ∀ s9, 0 ≤ s9 → s9 < 3 → (mo_R g36) s9 = 0) from (fun q9 => ⟨by rw [show (z39.toInt + 1).toNat = u.toInt.toNat by (first | omega | (have u0 := mo_un jf34; omega))]; exact q9, fun s9 s0 s1 => jf34 s9 s0 (by (first | omega | (have u0 := mo_un jf34; omega)))⟩))) | (rw [(mo_un tf37)]; exact (show (v.toInt + 1 = mo_pw a.toInt u.toInt.toNat → (v.toInt) + 1 = mo_pw a.toInt ((z39.toInt) + 1).toNat ∧ ∀ s9, 0 ≤ s9 → s9 < 3 → (mo_R g36) s9 = 0) from (fun q9 => ⟨by rw [show (z39.toInt + 1).toNat = u.toInt.toNat by (first | omega | (have u0 := mo_un jf34; omega))]; exact q9, fun s9 s0 s1 => jf34 s9 s0 (by (first | omega | (have u0 := mo_un jf34; omega)))⟩)))), (by have : (0 : Int32).toInt = 0 := rfl; (first | omega | (have u0 := mo_un jf34; omega))), (by have : (0 : Int32).toInt = 0 := rfl; (first | omega | (have u0 := mo_un jf34; omega))), (by have : (0 : Int32).toInt = 0 := rfl; (first | omega | (have u0 := mo_un jf34; omega))), hP, hD, hS, lv_sub hl [0, 1, 2, 3, 4, 5, 6] rfl⟩
    intro n0 H locs ls hI ih49
    refine Exists.elim hI (fun f47 hE90 => Exists.elim hE90 (fun w40 hE91 => Exists.elim hE91 (fun w41 hE92 => Exists.elim hE92 (fun w42 hE93 => tn_12 hE93 (fun hn50 hT hR jf51 jf52 rw40 rw42 k43 hP hD hS hl => ?_)))))
    clear hE93 hE92 hE91 hE90 hI
    refine tpk_81 hT y25 (fun g54 hf_o53 => ?_)
    have tf55 : mo_hd (mo_i (f47 (ρ h0 51)) = g54) := tfa_i hf_o53
    refine tpk_82 hT y26 (fun g57 hf_o56 => ?_)
    have tf58 : mo_hd (mo_i (f47 (ρ h0 52)) = g57) := tfa_i hf_o56
    replace jf51 : mo_SBB (mo_R g54) (mo_R g57) u.toInt a.toInt (w40.toInt) := by have q9 := jf51; first | (simp only [(mo_un tf55), (mo_un tf58), mo_i1, mo_l1] at q9; exact q9) | (rw [(mo_un tf55), (mo_un tf58)] at q9; exact q9)
    replace jf52 : mo_hd ((v.toInt + 1 = mo_pw a.toInt u.toInt.toNat → (w42.toInt) + 1 = mo_pw a.toInt ((w40.toInt) + 1).toNat ∧ ∀ s9, 0 ≤ s9 → s9 < 3 → (mo_R g57) s9 = 0)) := by have q9 := jf52; first | (simp only [(mo_un tf58), mo_i1, mo_l1] at q9; exact q9) | (rw [(mo_un tf58)] at q9; exact q9)
    refine lv_iload hx hb dX12_share_34 (lv_at hl 0 rfl) ?_
    refine lv_if_lt (tgt := 110) hx hb dX12_share_36 (by decide) (fun c59 => ?_) (fun c59 => ?_)
    · have ic59 : w40.toInt < 0 := zi_lt rfl rfl c59
      refine lv_iload hx hb dX12_share_110 (lv_at hl 1 rfl) ?_
      exact W.iret (v := w41) hx hb hr (fun t ht hW => ⟨⟨w41, f47, rfl, ⟨hT, hR, trivial, (by first | (simp only [(mo_un tf55), (mo_un tf58), mo_i1, mo_l1]; exact (show mo_SBB (mo_R g54) (mo_R g57) u.toInt a.toInt (-1) ∧ (v.toInt + 1 = mo_pw a.toInt u.toInt.toNat → ∀ s9, 0 ≤ s9 → s9 < 3 → (mo_R g57) s9 = 0) from ⟨by have q9 := jf51; rw [show w40.toInt = -1 by (first | omega | (have u1 := mo_un jf52; first | omega | (have u0 := mo_un jf34; omega)))] at q9; exact q9, fun q9 => (jf52 q9).2⟩)) | (rw [(mo_un tf55), (mo_un tf58)]; exact (show mo_SBB (mo_R g54) (mo_R g57) u.toInt a.toInt (-1) ∧ (v.toInt + 1 = mo_pw a.toInt u.toInt.toNat → ∀ s9, 0 ≤ s9 → s9 < 3 → (mo_R g57) s9 = 0) from ⟨by have q9 := jf51; rw [show w40.toInt = -1 by (first | omega | (have u1 := mo_un jf52; first | omega | (have u0 := mo_un jf34; omega)))] at q9; exact q9, fun q9 => (jf52 q9).2⟩)))⟩, by rw [ht]; exact hP, va_K.moved hW.alike hK, hD⟩, hS.F ht⟩) hS.2.2 dX12_share_112
    · have ic59 : w40.toInt ≥ 0 := zi_ltf rfl rfl c59
      have hmr := mo_modr (L := w42.toInt) (a := a.toInt) (by (first | omega | (have u1 := mo_un jf52; first | omega | (have u0 := mo_un jf34; omega))))
      refine lv_aload_n hx hb dX12_share_39 rfl (lv_at hl 3 rfl) ?_
      refine tpk_13 hT ht_h0 (fun o60_x0 o60_x1 o60_x7 o60_x9 o60_x10 o60_x11 o60_x12 o60_x13 o60_x14 o60_x15 o60_x16 o60_x17 o60_x18 o60_x19 o60_x20 o60_x22 o60_x25 o60_x28 o60_x29 o60_x32 o60_x33 o60_x34 o60_x35 o60_x36 o60_x37 o60_x38 o60_x47 o60_x48 hf_o60 ro60_0 ro60_1 ro60_2 ro60_3 ro60_4 ro60_5 ro60_6 ro60_7 ro60_8 ro60_9 ro60_10 ro60_11 ro60_12 ro60_13 ro60_14 => ?_)
      refine tpk_pos (tp_in hG ht_h0 (by decide)) hf_o60 (fun q61 eq61 => ?_)
      refine va_get (D := (dC, dI)) (ci := 12) (v := .ref (ρ h0 51)) (C := RX12) (T := TX12) (N := 53) hx hb hts hfX12 hown hK hP q61 eq61 rfl 51 (by decide) (hts (.fieldLink RX12 85 "ColdShipsModel" "chosen" "[I") wa_173) (fun _ h9 => h9) rfl dX12_share_40 ?_
      refine lv_iload hx hb dX12_share_43 (lv_at hl 0 rfl) ?_
      refine lv_iload hx hb dX12_share_45 (lv_at hl 2 rfl) ?_
      refine lv_iload_n hx hb dX12_share_47 rfl (lv_at hl 6 rfl) ?_
      refine lv_iconst (v := 1) hx hb dX12_share_48 (by decide) ?_
      refine lv_iadd hx hb dX12_share_49 ?_
      refine lv_topi (fun z62 ez62 => ?_)
      have iz62 : z62.toInt = a.toInt + 1 := zi_add ez62 rfl rfl (by (first | omega | (have u1 := mo_un jf52; first | omega | (have u0 := mo_un jf34; omega)))) (by (first | omega | (have u1 := mo_un jf52; first | omega | (have u0 := mo_un jf34; omega))))
      refine lv_irem hx hb dX12_share_50 (zi_nz (by (first | omega | (have u1 := mo_un jf52; first | omega | (have u0 := mo_un jf34; omega)))) rfl) ?_
      refine lv_topi (fun z63 ez63 => ?_)
      have iz63 : z63.toInt = w42.toInt % (a.toInt + 1) := by have q9 := zi_rem ez63 (rfl : w42.toInt = _) (rfl : z62.toInt = _) (by (first | omega | (have u1 := mo_un jf52; first | omega | (have u0 := mo_un jf34; omega)))) (by (first | omega | (have u1 := mo_un jf52; first | omega | (have u0 := mo_un jf34; omega)))); rw [show z62.toInt = a.toInt + 1 by (first | omega | (have u1 := mo_un jf52; first | omega | (have u0 := mo_un jf34; omega)))] at q9; exact q9
      refine tpk_pos (tp_in hG y25 (by decide)) hf_o53 (fun q64 eq64 => ?_)
      refine va_iast hx hb hK hP hD hS q64 0 eq64 rfl (vp_in_iff.mpr ⟨by (first | omega | (have u1 := mo_un jf52; first | omega | (have u0 := mo_un jf34; omega))), by (first | omega | (have u1 := mo_un jf52; first | omega | (have u0 := mo_un jf34; omega)))⟩) dX12_share_51 (tp_k (.inl (κ 0, 6, .inl (upd g54 w40.toNatClampNeg z63))) hD (tp_in hG y25 (by decide)) eq64 (fun f65 H locs hP hD hS g67 k66 => ?_))
      have hT := hT.up y25 g67 k66 tp_o81
      have hR := hR.up y25 (by decide) k66
      have hU69 : mo_U (mo_R g54) (mo_R (upd g54 w40.toNatClampNeg z63)) (w40.toInt) (z63.toInt) := mo_up (by (first | omega | (have u1 := mo_un jf52; first | omega | (have u0 := mo_un jf34; omega)))) (rfl : z63.toInt = _) (by (first | omega | (have u1 := mo_un jf52; first | omega | (have u0 := mo_un jf34; omega))))
      generalize (upd g54 w40.toNatClampNeg z63) = g68 at g67 hU69
      have hU69e := hU69.eq (by (first | omega | (have u1 := mo_un jf52; first | omega | (have u0 := mo_un jf34; omega))))
      refine lv_iload hx hb dX12_share_52 (lv_at hl 2 rfl) ?_
      refine lv_iload_n hx hb dX12_share_54 rfl (lv_at hl 6 rfl) ?_
      refine lv_iconst (v := 1) hx hb dX12_share_55 (by decide) ?_
      refine lv_iadd hx hb dX12_share_56 ?_
      refine lv_topi (fun z70 ez70 => ?_)
      have iz70 : z70.toInt = a.toInt + 1 := zi_add ez70 rfl rfl (by (first | omega | (have u1 := mo_un jf52; first | omega | (have u0 := mo_un jf34; omega)))) (by (first | omega | (have u1 := mo_un jf52; first | omega | (have u0 := mo_un jf34; omega))))
      refine lv_idiv hx hb dX12_share_57 (zi_nz (by (first | omega | (have u1 := mo_un jf52; first | omega | (have u0 := mo_un jf34; omega)))) rfl) ?_
      refine lv_topi (fun z71 ez71 => ?_)
      have iz71 : z71.toInt = w42.toInt / (a.toInt + 1) := by have q9 := zi_div ez71 (rfl : w42.toInt = _) (rfl : z70.toInt = _) (by (first | omega | (have u1 := mo_un jf52; first | omega | (have u0 := mo_un jf34; omega)))) (by (first | omega | (have u1 := mo_un jf52; first | omega | (have u0 := mo_un jf34; omega)))); rw [show z70.toInt = a.toInt + 1 by (first | omega | (have u1 := mo_un jf52; first | omega | (have u0 := mo_un jf34; omega)))] at q9; exact q9
      have kz71 : 0 ≤ z71.toInt ∧ z71.toInt ≤ w42.toInt := ⟨by rw [iz71]; exact Int.ediv_nonneg (by (first | omega | (have u1 := mo_un jf52; first | omega | (have u0 := mo_un jf34; omega)))) (by (first | omega | (have u1 := mo_un jf52; first | omega | (have u0 := mo_un jf34; omega)))), by rw [iz71]; exact Int.ediv_le_self _ (by (first | omega | (have u1 := mo_un jf52; first | omega | (have u0 := mo_un jf34; omega))))⟩
      refine lv_istore (lv' := [(4, .int z71), (6, .int w40), (5, .int w41), (0, .ref h0), (1, .int v), (2, .int u), (3, .int a)]) hx hb dX12_share_58 hl (by decide) rfl (fun ls hl => ?_)
      refine lv_aload_n hx hb dX12_share_60 rfl (lv_at hl 3 rfl) ?_
      have hf_72 : f65 h0 = .inr (12, [.int o60_x0, .int o60_x1, .ref (ρ h0 2), .ref (ρ h0 3), .ref (ρ h0 4), .ref (ρ h0 5), .ref (ρ h0 6), .int o60_x7, .ref (ρ h0 8), .int o60_x9, .int o60_x10, .int o60_x11, .int o60_x12, .long o60_x13, .int o60_x14, .int o60_x15, .int o60_x16, .int o60_x17, .int o60_x18, .int o60_x19, .int o60_x20, .ref (ρ h0 21), .int o60_x22, .ref (ρ h0 23), .ref (ρ h0 24), .int o60_x25, .ref (ρ h0 26), .ref (ρ h0 27), .int o60_x28, .int o60_x29, .ref (ρ h0 30), .ref (ρ h0 31), .int o60_x32, .long o60_x33, .long o60_x34, .long o60_x35, .int o60_x36, .int o60_x37, .int o60_x38, .ref (ρ h0 39), .ref (ρ h0 40), .ref (ρ h0 41), .ref (ρ h0 42), .ref (ρ h0 43), .ref (ρ h0 44), .ref (ρ h0 45), .ref (ρ h0 46), .int o60_x47, .int o60_x48, .ref (ρ h0 49), .ref (ρ h0 50), .ref (ρ h0 51), .ref (ρ h0 52)]) := (k66 _ (tp_ne ht_h0 y25 (by decide))).trans hf_o60
      refine tpk_pos (tp_in hG ht_h0 (by decide)) hf_72 (fun q73 eq73 => ?_)
      refine va_get (D := (dC, dI)) (ci := 12) (v := .ref (ρ h0 51)) (C := RX12) (T := TX12) (N := 53) hx hb hts hfX12 hown hK hP q73 eq73 rfl 51 (by decide) (hts (.fieldLink RX12 85 "ColdShipsModel" "chosen" "[I") wa_173) (fun _ h9 => h9) rfl dX12_share_61 ?_
      refine lv_iload hx hb dX12_share_64 (lv_at hl 1 rfl) ?_
      refine tpk_pos (tp_in hG y25 (by decide)) g67 (fun q74 eq74 => ?_)
      refine va_iald hx hb hK hP q74 0 eq74 rfl (vp_in_iff.mpr ⟨by (first | omega | (have u1 := mo_un jf52; first | omega | (have u0 := mo_un jf34; omega))), by (first | omega | (have u1 := mo_un jf52; first | omega | (have u0 := mo_un jf34; omega)))⟩) dX12_share_66 ?_
      refine lv_topi (fun z75 ez75 => ?_)
      have jz75 : z75.toInt = mo_R g68 w40.toInt := mo_rd ez75 (by (first | omega | (have u1 := mo_un jf52; first | omega | (have u0 := mo_un jf34; omega))))
      refine lv_iload_n hx hb dX12_share_67 rfl (lv_at hl 6 rfl) ?_
      refine lv_icmp_ge (tgt := 96) hx hb dX12_share_68 (by decide) (fun c76 => ?_) (fun c76 => ?_)
      · have ic76 : z75.toInt ≥ a.toInt := zi_ge rfl rfl c76
        refine lv_aload_n hx hb dX12_share_96 rfl (lv_at hl 3 rfl) ?_
        refine va_get (D := (dC, dI)) (ci := 12) (v := .ref (ρ h0 51)) (C := RX12) (T := TX12) (N := 53) hx hb hts hfX12 hown hK hP q73 eq73 rfl 51 (by decide) (hts (.fieldLink RX12 85 "ColdShipsModel" "chosen" "[I") wa_173) (fun _ h9 => h9) rfl dX12_share_97 ?_
        refine lv_iload hx hb dX12_share_100 (lv_at hl 1 rfl) ?_
        refine lv_iconst (v := (-1)) hx hb dX12_share_102 (by decide) ?_
        refine va_iast hx hb hK hP hD hS q74 0 eq74 rfl (vp_in_iff.mpr ⟨by (first | omega | (have u1 := mo_un jf52; first | omega | (have u0 := mo_un jf34; omega))), by (first | omega | (have u1 := mo_un jf52; first | omega | (have u0 := mo_un jf34; omega)))⟩) dX12_share_103 (tp_k (.inl (κ 0, 6, .inl (upd g68 w40.toNatClampNeg ((-1) : Int32)))) hD (tp_in hG y25 (by decide)) eq74 (fun f77 H locs hP hD hS g79 k78 => ?_))
        have hT := hT.up y25 g79 k78 tp_o81
        have hR := hR.up y25 (by decide) k78
        have hU81 : mo_U (mo_R g68) (mo_R (upd g68 w40.toNatClampNeg ((-1) : Int32))) (w40.toInt) ((-1)) := mo_up (by (first | omega | (have u1 := mo_un jf52; first | omega | (have u0 := mo_un jf34; omega)))) (show ((-1) : Int32).toInt = (-1) from rfl) (by (first | omega | (have u1 := mo_un jf52; first | omega | (have u0 := mo_un jf34; omega))))
        generalize (upd g68 w40.toNatClampNeg ((-1) : Int32)) = g80 at g79 hU81
        have hU81e := hU81.eq (by (first | omega | (have u1 := mo_un jf52; first | omega | (have u0 := mo_un jf34; omega))))
        obtain ⟨z82, ez82⟩ : ∃ y : Int32, y = w40 + (-1) := ⟨_, rfl⟩
        refine lv_iinc (v := z82) (lv' := [(6, .int z82), (4, .int z71), (5, .int w41), (0, .ref h0), (1, .int v), (2, .int u), (3, .int a)]) hx hb dX12_share_104 hl (k := 1) rfl (by rw [ez82]; rfl) (by decide) rfl (fun ls hl => ?_)
        have iz82 : z82.toInt = w40.toInt + (-1) := zi_add ez82 rfl rfl (by (first | omega | (have u1 := mo_un jf52; first | omega | (have u0 := mo_un jf34; omega)))) (by (first | omega | (have u1 := mo_un jf52; first | omega | (have u0 := mo_un jf34; omega))))
        refine lv_goto (tgt := 34) hx hb dX12_share_107 (by decide) ?_
        have tf83 : mo_hd (mo_i (f77 (ρ h0 51)) = g80) := tfa_i g79
        have hf_84 : f65 (ρ h0 52) = .inl (κ 0, 3, .inl g57) := (k66 _ (tp_ne y26 y25 (by decide))).trans hf_o56
        have hf_85 : f77 (ρ h0 52) = .inl (κ 0, 3, .inl g57) := (k78 _ (tp_ne y26 y25 (by decide))).trans hf_84
        have tf86 : mo_hd (mo_i (f77 (ρ h0 52)) = g57) := tfa_i hf_85
        exact ih49 _ _ _ _ (by rw [hn50]; (first | omega | (have u1 := mo_un jf52; first | omega | (have u0 := mo_un jf34; omega)))) ⟨f77, z82, w41, z71, rfl, hT, hR, (by first | (simp only [(mo_un tf83), (mo_un tf86), mo_i1, mo_l1]; exact (show mo_SBB (mo_R g80) (mo_R g57) u.toInt a.toInt (z82.toInt) from jf51.no (by (first | omega | (have u1 := mo_un jf52; first | omega | (have u0 := mo_un jf34; omega)))) (fun j j0 j1 => (hU81.ne j0 j1).trans (hU69.ne j0 j1)) (hU81.eq (by (first | omega | (have u1 := mo_un jf52; first | omega | (have u0 := mo_un jf34; omega))))) (by (first | omega | (have u1 := mo_un jf52; first | omega | (have u0 := mo_un jf34; omega)))))) | (rw [(mo_un tf83), (mo_un tf86)]; exact (show mo_SBB (mo_R g80) (mo_R g57) u.toInt a.toInt (z82.toInt) from jf51.no (by (first | omega | (have u1 := mo_un jf52; first | omega | (have u0 := mo_un jf34; omega)))) (fun j j0 j1 => (hU81.ne j0 j1).trans (hU69.ne j0 j1)) (hU81.eq (by (first | omega | (have u1 := mo_un jf52; first | omega | (have u0 := mo_un jf34; omega))))) (by (first | omega | (have u1 := mo_un jf52; first | omega | (have u0 := mo_un jf34; omega))))))), (by first | (simp only [(mo_un tf86), mo_i1, mo_l1]; exact (show (v.toInt + 1 = mo_pw a.toInt u.toInt.toNat → (z71.toInt) + 1 = mo_pw a.toInt ((z82.toInt) + 1).toNat ∧ ∀ s9, 0 ≤ s9 → s9 < 3 → (mo_R g57) s9 = 0) from (fun q9 => by obtain ⟨l1, l2⟩ := jf52 q9; have l3 : w42.toInt + 1 = (a.toInt + 1) * mo_pw a.toInt w40.toInt.toNat := (by rw [l1, show (w40.toInt + 1).toNat = w40.toInt.toNat + 1 by (first | omega | (have u1 := mo_un jf52; first | omega | (have u0 := mo_un jf34; omega)))] <;> rfl); have l4 := mo_last l3 (by (first | omega | (have u1 := mo_un jf52; first | omega | (have u0 := mo_un jf34; omega)))) (by (first | omega | (have u1 := mo_un jf52; first | omega | (have u0 := mo_un jf34; omega)))); refine ⟨by rw [show (z82.toInt + 1).toNat = w40.toInt.toNat by (first | omega | (have u1 := mo_un jf52; first | omega | (have u0 := mo_un jf34; omega)))]; (first | omega | (have u1 := mo_un jf52; first | omega | (have u0 := mo_un jf34; omega))), l2⟩))) | (rw [(mo_un tf86)]; exact (show (v.toInt + 1 = mo_pw a.toInt u.toInt.toNat → (z71.toInt) + 1 = mo_pw a.toInt ((z82.toInt) + 1).toNat ∧ ∀ s9, 0 ≤ s9 → s9 < 3 → (mo_R g57) s9 = 0) from (fun q9 => by obtain ⟨l1, l2⟩ := jf52 q9; have l3 : w42.toInt + 1 = (a.toInt + 1) * mo_pw a.toInt w40.toInt.toNat := (by rw [l1, show (w40.toInt + 1).toNat = w40.toInt.toNat + 1 by (first | omega | (have u1 := mo_un jf52; first | omega | (have u0 := mo_un jf34; omega)))] <;> rfl); have l4 := mo_last l3 (by (first | omega | (have u1 := mo_un jf52; first | omega | (have u0 := mo_un jf34; omega)))) (by (first | omega | (have u1 := mo_un jf52; first | omega | (have u0 := mo_un jf34; omega)))); refine ⟨by rw [show (z82.toInt + 1).toNat = w40.toInt.toNat by (first | omega | (have u1 := mo_un jf52; first | omega | (have u0 := mo_un jf34; omega)))]; (first | omega | (have u1 := mo_un jf52; first | omega | (have u0 := mo_un jf34; omega))), l2⟩)))), (by (first | omega | (have u1 := mo_un jf52; first | omega | (have u0 := mo_un jf34; omega)))), (by (first | omega | (have u1 := mo_un jf52; first | omega | (have u0 := mo_un jf34; omega)))), (by (first | omega | (have u1 := mo_un jf52; first | omega | (have u0 := mo_un jf34; omega)))), hP, hD, hS, lv_sub hl [0, 2, 1, 3, 4, 5, 6] rfl⟩
      · have ic76 : z75.toInt < a.toInt := zi_gef rfl rfl c76
        refine lv_aload_n hx hb dX12_share_71 rfl (lv_at hl 3 rfl) ?_
        refine va_get (D := (dC, dI)) (ci := 12) (v := .ref (ρ h0 52)) (C := RX12) (T := TX12) (N := 53) hx hb hts hfX12 hown hK hP q73 eq73 rfl 52 (by decide) (hts (.fieldLink RX12 88 "ColdShipsModel" "sets" "[I") wa_174) (fun _ h9 => h9) rfl dX12_share_72 ?_
        refine lv_aload_n hx hb dX12_share_75 rfl (lv_at hl 3 rfl) ?_
        refine va_get (D := (dC, dI)) (ci := 12) (v := .ref (ρ h0 51)) (C := RX12) (T := TX12) (N := 53) hx hb hts hfX12 hown hK hP q73 eq73 rfl 51 (by decide) (hts (.fieldLink RX12 85 "ColdShipsModel" "chosen" "[I") wa_173) (fun _ h9 => h9) rfl dX12_share_76 ?_
        refine lv_iload hx hb dX12_share_79 (lv_at hl 1 rfl) ?_
        refine va_iald hx hb hK hP q74 0 eq74 rfl (vp_in_iff.mpr ⟨by (first | omega | (have u1 := mo_un jf52; first | omega | (have u0 := mo_un jf34; omega))), by (first | omega | (have u1 := mo_un jf52; first | omega | (have u0 := mo_un jf34; omega)))⟩) dX12_share_81 ?_
        refine lv_topi (fun z87 ez87 => ?_)
        have jz87 : z87.toInt = mo_R g68 w40.toInt := mo_rd ez87 (by (first | omega | (have u1 := mo_un jf52; first | omega | (have u0 := mo_un jf34; omega))))
        refine lv_dup2_11 hx hb dX12_share_82 rfl rfl ?_
        have hf_88 : f65 (ρ h0 52) = .inl (κ 0, 3, .inl g57) := (k66 _ (tp_ne y26 y25 (by decide))).trans hf_o56
        refine tpk_pos (tp_in hG y26 (by decide)) hf_88 (fun q89 eq89 => ?_)
        refine va_iald hx hb hK hP q89 0 eq89 rfl (vp_in_iff.mpr ⟨by (first | omega | (have u1 := mo_un jf52; first | omega | (have u0 := mo_un jf34; omega))), by (first | omega | (have u1 := mo_un jf52; first | omega | (have u0 := mo_un jf34; omega)))⟩) dX12_share_83 ?_
        refine lv_topi (fun z90 ez90 => ?_)
        have jz90 : z90.toInt = mo_R g57 z87.toInt := mo_rd ez90 (by (first | omega | (have u1 := mo_un jf52; first | omega | (have u0 := mo_un jf34; omega))))
        have hsx := (jf51.2 z87.toInt (by (first | omega | (have u1 := mo_un jf52; first | omega | (have u0 := mo_un jf34; omega)))) (by (first | omega | (have u1 := mo_un jf52; first | omega | (have u0 := mo_un jf34; omega))))).1
        refine lv_iconst (v := 1) hx hb dX12_share_84 (by decide) ?_
        refine lv_iload hx hb dX12_share_85 (lv_at hl 1 rfl) ?_
        refine lv_ishl hx hb dX12_share_87 ?_
        refine lv_topi (fun z91 ez91 => ?_)
        have iz91 : 1 ≤ z91.toInt ∧ z91.toInt ≤ 32 := zb_shl5 ez91 rfl (by (first | omega | (have u1 := mo_un jf52; first | omega | (have u0 := mo_un jf34; omega)))) (by (first | omega | (have u1 := mo_un jf52; first | omega | (have u0 := mo_un jf34; omega))))
        refine lv_ior hx hb dX12_share_88 ?_
        refine lv_topi (fun z92 ez92 => ?_)
        have iz92 : 0 ≤ z92.toInt ∧ z92.toInt ≤ 63 := zb_or 6 ez92 (rfl : z90.toInt = _) (rfl : z91.toInt = _) (by (first | omega | (have u1 := mo_un jf52; first | omega | (have u0 := mo_un jf34; omega)))) (by (first | omega | (have u1 := mo_un jf52; first | omega | (have u0 := mo_un jf34; omega)))) (by (first | omega | (have u1 := mo_un jf52; first | omega | (have u0 := mo_un jf34; omega)))) (by (first | omega | (have u1 := mo_un jf52; first | omega | (have u0 := mo_un jf34; omega)))) (by decide)
        have hor := zb_orbit ez91 ez92 (by (first | omega | (have u1 := mo_un jf52; first | omega | (have u0 := mo_un jf34; omega)))) (by (first | omega | (have u1 := mo_un jf52; first | omega | (have u0 := mo_un jf34; omega)))) (by (first | omega | (have u1 := mo_un jf52; first | omega | (have u0 := mo_un jf34; omega)))) (by (first | omega | (have u1 := mo_un jf52; first | omega | (have u0 := mo_un jf34; omega))))
        refine va_iast hx hb hK hP hD hS q89 0 eq89 rfl (vp_in_iff.mpr ⟨by (first | omega | (have u1 := mo_un jf52; first | omega | (have u0 := mo_un jf34; omega))), by (first | omega | (have u1 := mo_un jf52; first | omega | (have u0 := mo_un jf34; omega)))⟩) dX12_share_89 (tp_k (.inl (κ 0, 3, .inl (upd g57 z87.toNatClampNeg z92))) hD (tp_in hG y26 (by decide)) eq89 (fun f93 H locs hP hD hS g95 k94 => ?_))
        have hT := hT.up y26 g95 k94 tp_o82
        have hR := hR.up y26 (by decide) k94
        have hU97 : mo_U (mo_R g57) (mo_R (upd g57 z87.toNatClampNeg z92)) (z87.toInt) (z92.toInt) := mo_up (by (first | omega | (have u1 := mo_un jf52; first | omega | (have u0 := mo_un jf34; omega)))) (rfl : z92.toInt = _) (by (first | omega | (have u1 := mo_un jf52; first | omega | (have u0 := mo_un jf34; omega))))
        generalize (upd g57 z87.toNatClampNeg z92) = g96 at g95 hU97
        have hU97e := hU97.eq (by (first | omega | (have u1 := mo_un jf52; first | omega | (have u0 := mo_un jf34; omega))))
        obtain ⟨z98, ez98⟩ : ∃ y : Int32, y = w41 + 1 := ⟨_, rfl⟩
        refine lv_iinc (v := z98) (lv' := [(5, .int z98), (4, .int z71), (6, .int w40), (0, .ref h0), (1, .int v), (2, .int u), (3, .int a)]) hx hb dX12_share_90 hl (k := 2) rfl (by rw [ez98]; rfl) (by decide) rfl (fun ls hl => ?_)
        refine lv_goto (tgt := 104) hx hb dX12_share_93 (by decide) ?_
        obtain ⟨z99, ez99⟩ : ∃ y : Int32, y = w40 + (-1) := ⟨_, rfl⟩
        refine lv_iinc (v := z99) (lv' := [(6, .int z99), (5, .int z98), (4, .int z71), (0, .ref h0), (1, .int v), (2, .int u), (3, .int a)]) hx hb dX12_share_104 hl (k := 2) rfl (by rw [ez99]; rfl) (by decide) rfl (fun ls hl => ?_)
        have iz99 : z99.toInt = w40.toInt + (-1) := zi_add ez99 rfl rfl (by (first | omega | (have u1 := mo_un jf52; first | omega | (have u0 := mo_un jf34; omega)))) (by (first | omega | (have u1 := mo_un jf52; first | omega | (have u0 := mo_un jf34; omega))))
        refine lv_goto (tgt := 34) hx hb dX12_share_107 (by decide) ?_
        have hf_100 : f93 (ρ h0 51) = .inl (κ 0, 6, .inl g68) := (k94 _ (tp_ne y25 y26 (by decide))).trans g67
        have tf101 : mo_hd (mo_i (f93 (ρ h0 51)) = g68) := tfa_i hf_100
        have tf102 : mo_hd (mo_i (f93 (ρ h0 52)) = g96) := tfa_i g95
        exact ih49 _ _ _ _ (by rw [hn50]; (first | omega | (have u1 := mo_un jf52; first | omega | (have u0 := mo_un jf34; omega)))) ⟨f93, z99, z98, z71, rfl, hT, hR, (by first | (simp only [(mo_un tf101), (mo_un tf102), mo_i1, mo_l1]; exact (show mo_SBB (mo_R g68) (mo_R g96) u.toInt a.toInt (z99.toInt) from jf51.yes (by (first | omega | (have u1 := mo_un jf52; first | omega | (have u0 := mo_un jf34; omega)))) (fun j j0 j1 => hU69.ne j0 j1) jz87.symm (by (first | omega | (have u1 := mo_un jf52; first | omega | (have u0 := mo_un jf34; omega)))) hU97 (by (first | omega | (have u1 := mo_un jf52; first | omega | (have u0 := mo_un jf34; omega)))) hor.1 (fun d d0 d1 => by rw [hor.2 d d0 d1, jz90]) (by (first | omega | (have u1 := mo_un jf52; first | omega | (have u0 := mo_un jf34; omega)))))) | (rw [(mo_un tf101), (mo_un tf102)]; exact (show mo_SBB (mo_R g68) (mo_R g96) u.toInt a.toInt (z99.toInt) from jf51.yes (by (first | omega | (have u1 := mo_un jf52; first | omega | (have u0 := mo_un jf34; omega)))) (fun j j0 j1 => hU69.ne j0 j1) jz87.symm (by (first | omega | (have u1 := mo_un jf52; first | omega | (have u0 := mo_un jf34; omega)))) hU97 (by (first | omega | (have u1 := mo_un jf52; first | omega | (have u0 := mo_un jf34; omega)))) hor.1 (fun d d0 d1 => by rw [hor.2 d d0 d1, jz90]) (by (first | omega | (have u1 := mo_un jf52; first | omega | (have u0 := mo_un jf34; omega))))))), (by first | (simp only [(mo_un tf102), mo_i1, mo_l1]; exact (show (v.toInt + 1 = mo_pw a.toInt u.toInt.toNat → (z71.toInt) + 1 = mo_pw a.toInt ((z99.toInt) + 1).toNat ∧ ∀ s9, 0 ≤ s9 → s9 < 3 → (mo_R g96) s9 = 0) from (fun q9 => by obtain ⟨l1, l2⟩ := jf52 q9; have l3 : w42.toInt + 1 = (a.toInt + 1) * mo_pw a.toInt w40.toInt.toNat := (by rw [l1, show (w40.toInt + 1).toNat = w40.toInt.toNat + 1 by (first | omega | (have u1 := mo_un jf52; first | omega | (have u0 := mo_un jf34; omega)))] <;> rfl); have l4 := mo_last l3 (by (first | omega | (have u1 := mo_un jf52; first | omega | (have u0 := mo_un jf34; omega)))) (by (first | omega | (have u1 := mo_un jf52; first | omega | (have u0 := mo_un jf34; omega)))); refine ⟨by rw [show (z99.toInt + 1).toNat = w40.toInt.toNat by (first | omega | (have u1 := mo_un jf52; first | omega | (have u0 := mo_un jf34; omega)))]; (first | omega | (have u1 := mo_un jf52; first | omega | (have u0 := mo_un jf34; omega))), (by exfalso; (first | omega | (have u1 := mo_un jf52; first | omega | (have u0 := mo_un jf34; omega))))⟩))) | (rw [(mo_un tf102)]; exact (show (v.toInt + 1 = mo_pw a.toInt u.toInt.toNat → (z71.toInt) + 1 = mo_pw a.toInt ((z99.toInt) + 1).toNat ∧ ∀ s9, 0 ≤ s9 → s9 < 3 → (mo_R g96) s9 = 0) from (fun q9 => by obtain ⟨l1, l2⟩ := jf52 q9; have l3 : w42.toInt + 1 = (a.toInt + 1) * mo_pw a.toInt w40.toInt.toNat := (by rw [l1, show (w40.toInt + 1).toNat = w40.toInt.toNat + 1 by (first | omega | (have u1 := mo_un jf52; first | omega | (have u0 := mo_un jf34; omega)))] <;> rfl); have l4 := mo_last l3 (by (first | omega | (have u1 := mo_un jf52; first | omega | (have u0 := mo_un jf34; omega)))) (by (first | omega | (have u1 := mo_un jf52; first | omega | (have u0 := mo_un jf34; omega)))); refine ⟨by rw [show (z99.toInt + 1).toNat = w40.toInt.toNat by (first | omega | (have u1 := mo_un jf52; first | omega | (have u0 := mo_un jf34; omega)))]; (first | omega | (have u1 := mo_un jf52; first | omega | (have u0 := mo_un jf34; omega))), (by exfalso; (first | omega | (have u1 := mo_un jf52; first | omega | (have u0 := mo_un jf34; omega))))⟩)))), (by (first | omega | (have u1 := mo_un jf52; first | omega | (have u0 := mo_un jf34; omega)))), (by (first | omega | (have u1 := mo_un jf52; first | omega | (have u0 := mo_un jf34; omega)))), (by (first | omega | (have u1 := mo_un jf52; first | omega | (have u0 := mo_un jf34; omega)))), hP, hD, hS, lv_sub hl [0, 1, 2, 3, 4, 5, 6] rfl⟩
  · have ic38 : w1.toInt < 3 := zi_gef rfl rfl c38
    refine lv_aload_n hx hb dX12_share_9 rfl (lv_at hl 1 rfl) ?_
    refine tpk_13 hT ht_h0 (fun o103_x0 o103_x1 o103_x7 o103_x9 o103_x10 o103_x11 o103_x12 o103_x13 o103_x14 o103_x15 o103_x16 o103_x17 o103_x18 o103_x19 o103_x20 o103_x22 o103_x25 o103_x28 o103_x29 o103_x32 o103_x33 o103_x34 o103_x35 o103_x36 o103_x37 o103_x38 o103_x47 o103_x48 hf_o103 ro103_0 ro103_1 ro103_2 ro103_3 ro103_4 ro103_5 ro103_6 ro103_7 ro103_8 ro103_9 ro103_10 ro103_11 ro103_12 ro103_13 ro103_14 => ?_)
    refine tpk_pos (tp_in hG ht_h0 (by decide)) hf_o103 (fun q104 eq104 => ?_)
    refine va_get (D := (dC, dI)) (ci := 12) (v := .ref (ρ h0 52)) (C := RX12) (T := TX12) (N := 53) hx hb hts hfX12 hown hK hP q104 eq104 rfl 52 (by decide) (hts (.fieldLink RX12 88 "ColdShipsModel" "sets" "[I") wa_174) (fun _ h9 => h9) rfl dX12_share_10 ?_
    refine lv_iload hx hb dX12_share_13 (lv_at hl 0 rfl) ?_
    refine lv_iconst (v := 0) hx hb dX12_share_15 (by decide) ?_
    refine tpk_pos (tp_in hG y26 (by decide)) hf_o35 (fun q105 eq105 => ?_)
    refine va_iast hx hb hK hP hD hS q105 0 eq105 rfl (vp_in_iff.mpr ⟨by (first | omega | (have u0 := mo_un jf34; omega)), by (first | omega | (have u0 := mo_un jf34; omega))⟩) dX12_share_16 (tp_k (.inl (κ 0, 3, .inl (upd g36 w1.toNatClampNeg (0 : Int32)))) hD (tp_in hG y26 (by decide)) eq105 (fun f106 H locs hP hD hS g108 k107 => ?_))
    have hT := hT.up y26 g108 k107 tp_o82
    have hR := hR.up y26 (by decide) k107
    have hU110 : mo_U (mo_R g36) (mo_R (upd g36 w1.toNatClampNeg (0 : Int32))) (w1.toInt) (0) := mo_up (by (first | omega | (have u0 := mo_un jf34; omega))) (show (0 : Int32).toInt = 0 from rfl) (by (first | omega | (have u0 := mo_un jf34; omega)))
    generalize (upd g36 w1.toNatClampNeg (0 : Int32)) = g109 at g108 hU110
    have hU110e := hU110.eq (by (first | omega | (have u0 := mo_un jf34; omega)))
    obtain ⟨z111, ez111⟩ : ∃ y : Int32, y = w1 + 1 := ⟨_, rfl⟩
    refine lv_iinc (v := z111) (lv' := [(4, .int z111), (0, .ref h0), (1, .int v), (2, .int u), (3, .int a)]) hx hb dX12_share_17 hl (k := 0) rfl (by rw [ez111]; rfl) (by decide) rfl (fun ls hl => ?_)
    have iz111 : z111.toInt = w1.toInt + 1 := zi_add ez111 rfl rfl (by (first | omega | (have u0 := mo_un jf34; omega))) (by (first | omega | (have u0 := mo_un jf34; omega)))
    refine lv_goto (tgt := 3) hx hb dX12_share_20 (by decide) ?_
    have tf112 : mo_hd (mo_i (f106 (ρ h0 52)) = g109) := tfa_i g108
    exact ih32 _ _ _ _ (by rw [hn33]; (first | omega | (have u0 := mo_un jf34; omega))) ⟨f106, z111, rfl, hT, hR, (by first | (simp only [(mo_un tf112), mo_i1, mo_l1]; exact (show ∀ s9, 0 ≤ s9 → s9 < (z111.toInt) → (mo_R g109) s9 = 0 from (fun s9 s0 s1 => by rcases hU110.at s9 s0 with ⟨z0, a0⟩ | ⟨z0, a0⟩ <;> first | exact a0 | (rw [a0]; exact jf34 s9 s0 (by (first | omega | (have u0 := mo_un jf34; omega))))))) | (rw [(mo_un tf112)]; exact (show ∀ s9, 0 ≤ s9 → s9 < (z111.toInt) → (mo_R g109) s9 = 0 from (fun s9 s0 s1 => by rcases hU110.at s9 s0 with ⟨z0, a0⟩ | ⟨z0, a0⟩ <;> first | exact a0 | (rw [a0]; exact jf34 s9 s0 (by (first | omega | (have u0 := mo_un jf34; omega)))))))), (by (first | omega | (have u0 := mo_un jf34; omega))), hP, hD, hS, lv_sub hl [0, 1, 2, 3, 4] rfl⟩
set_option maxHeartbeats 4000000 in
set_option maxRecDepth 100000 in
theorem t_X12_judge (l : Launch) (dC : Nat → ClassId) (dI : Nat → Nat → Nat) (sz : Nat) (κ : Nat → ClassId) (Θ : Nat → Option Int) (τ ν : Nat → Nat) (ρ : Nat → Nat → Nat) (L : List Nat) (f : Nat → va_E) (hG : tp_G τ ν ρ L) (hT : tp_T (mo_O κ Θ) κ τ ν ρ f) (h0 : Nat) (v : Int32) (u : Int32) (a : Int32) (a4 : Int32) (a5 : Int32) (ht_h0 : τ h0 = 13) (hJ : mo_RI (-1) 0 (mo_R (mo_i (f (ρ h0 2))))) : Met l yX12_judge wqX12_judge ({ frames := 8, cells := 0, slots := 0, locals := 2800 }) (va_Pc [.ref h0, .int v, .int u, .int a, .int a4, .int a5] (pz_B dC dI (tp_K κ) (va_pl L f) sz)) (va_Ql (fun (r : Int64) (f1 : Nat → va_E) => tp_T (mo_O κ Θ) κ τ ν ρ f1 ∧ tp_F τ [13, 69, 70, 71, 72] f f1 ∧ True ∧ True) (fun (f1 : Nat → va_E) (t : State) => pz_E dC dI (tp_K κ) (va_A (va_pl L f) sz) (va_pl L f1) t) (va_A (va_pl L f) sz)) 0 0 (va_A (va_pl L f) sz) := by
  refine Met.ofW (cc := cX12_judge) (maxL := 9) (ret := some .long) (by decide) rfl ?_
  intro p e s m args below meth c s₁ B hml hv
  obtain ⟨rfl, hsz, hP, hK, hD0, hN⟩ := hv
  have hx := B.exec
  have hb := B.bytes
  have hr := B.returns
  have hts := fun (w : Cond) (h : w ∈ WALL) => atoms_spec (ws := wqX12_judge) B.pre w (List.mem_cons_of_mem _ h)
  have hown : s.vm.findClass RX12 = some m.cls := findClass_of_methodNamed B.named
  have hlocks := B.notSynchronized
  subst hsz
  have hD := hD0.self (sz := s.heap.size)
  generalize hAe : va_A (va_pl L f) s.heap.size = A at hD ⊢
  have hA : ∀ q : Nat, s.heap.size ≤ q → A q := fun q h => by rw [← hAe]; exact Or.inr h
  have hS : va_S A s.heap s.heap [] := va_S.rf
  have hR : tp_F τ [13, 69, 70, 71, 72] f f := tp_F.rf
  have hl := lv_entry ([.ref h0, .int v, .int u, .int a, .int a4, .int a5]) (n := 9) (Nat.le_of_ble_eq_true rfl)
  rw [lg_entry_eq]
  generalize (lg_sl ([.ref h0, .int v, .int u, .int a, .int a4, .int a5]) ++ List.replicate (9 - (lg_sl ([.ref h0, .int v, .int u, .int a, .int a4, .int a5])).length) Slot.unset).toArray = ls at hl ⊢
  have hl : lv_has ls 9 [(0, .ref h0), (1, .int v), (2, .int u), (3, .int a), (4, .int a4), (5, .int a5)] := hl
  refine tgk_13 hG ht_h0 (fun y1 y2 y3 y4 y5 y6 y7 y8 y9 y10 y11 y12 y13 y14 y15 y16 y17 y18 y19 y20 y21 y22 y23 y24 y25 => ?_)
  refine tpk_32 hT y1 (fun g27 hf_o26 => ?_)
  have hI : mo_RI (-1) 0 (mo_R g27) := by have q9 := hJ; rw [hf_o26, mo_i1] at q9; exact q9
  refine lv_aload_n hx hb dX12_judge_0 rfl (lv_at hl 0 rfl) ?_
  refine lv_iconst (v := 0) hx hb dX12_judge_1 (by decide) ?_
  refine tpk_13 hT ht_h0 (fun o28_x0 o28_x1 o28_x7 o28_x9 o28_x10 o28_x11 o28_x12 o28_x13 o28_x14 o28_x15 o28_x16 o28_x17 o28_x18 o28_x19 o28_x20 o28_x22 o28_x25 o28_x28 o28_x29 o28_x32 o28_x33 o28_x34 o28_x35 o28_x36 o28_x37 o28_x38 o28_x47 o28_x48 hf_o28 ro28_0 ro28_1 ro28_2 ro28_3 ro28_4 ro28_5 ro28_6 ro28_7 ro28_8 ro28_9 ro28_10 ro28_11 ro28_12 ro28_13 ro28_14 => ?_)
  refine tpk_pos (tp_in hG ht_h0 (by decide)) hf_o28 (fun q29 eq29 => ?_)
  refine va_put (D := (dC, dI)) (ci := 12) (v := .int 0) (ty := .int) (C := RX12) (T := TX12) (N := 53) hx hb hts hfX12 tyX12 tyX12_ok nmX12 hown hK hP hD hS q29 eq29 rfl 0 (by decide) (hts (.fieldLink RX12 91 "ColdShipsModel" "thrown" "I") wa_209) (fun _ h9 => h9) rfl (tyX12_ok 0 (by decide)) rfl rfl (Nat.le_of_ble_eq_true rfl) dX12_judge_2 (tp_k (.inr (12, [.int 0, .int o28_x1, .ref (ρ h0 2), .ref (ρ h0 3), .ref (ρ h0 4), .ref (ρ h0 5), .ref (ρ h0 6), .int o28_x7, .ref (ρ h0 8), .int o28_x9, .int o28_x10, .int o28_x11, .int o28_x12, .long o28_x13, .int o28_x14, .int o28_x15, .int o28_x16, .int o28_x17, .int o28_x18, .int o28_x19, .int o28_x20, .ref (ρ h0 21), .int o28_x22, .ref (ρ h0 23), .ref (ρ h0 24), .int o28_x25, .ref (ρ h0 26), .ref (ρ h0 27), .int o28_x28, .int o28_x29, .ref (ρ h0 30), .ref (ρ h0 31), .int o28_x32, .long o28_x33, .long o28_x34, .long o28_x35, .int o28_x36, .int o28_x37, .int o28_x38, .ref (ρ h0 39), .ref (ρ h0 40), .ref (ρ h0 41), .ref (ρ h0 42), .ref (ρ h0 43), .ref (ρ h0 44), .ref (ρ h0 45), .ref (ρ h0 46), .int o28_x47, .int o28_x48, .ref (ρ h0 49), .ref (ρ h0 50), .ref (ρ h0 51), .ref (ρ h0 52)])) hD (tp_in hG ht_h0 (by decide)) eq29 (fun f30 H locs hP hD hS g32 k31 => ?_))
  have hT := hT.up ht_h0 g32 k31 ⟨_, _, _, _, _, _, _, _, _, _, _, _, _, _, _, _, _, _, _, _, _, _, _, _, _, _, _, _, rfl, ro28_0, ro28_1, ro28_2, ro28_3, ro28_4, ro28_5, ro28_6, ro28_7, ro28_8, ro28_9, ro28_10, ro28_11, ro28_12, ro28_13, ro28_14⟩
  have hR := hR.up ht_h0 (by decide) k31
  refine lv_aload_n hx hb dX12_judge_5 rfl (lv_at hl 0 rfl) ?_
  refine lv_iload_n hx hb dX12_judge_6 rfl (lv_at hl 1 rfl) ?_
  have hf_33 : f30 (ρ h0 2) = .inl (κ 0, 12967, .inl g27) := (k31 _ (tp_ne y1 ht_h0 (by decide))).trans hf_o26
  refine tpk_pos (tp_in hG ht_h0 (by decide)) g32 (fun q34 eq34 => ?_)
  refine pz_calli (va_runV (As := [.int v]) (rest := []) ⟨hx, hb, hml, hown, hts⟩ (t_X12_isShip l dC dI _ κ Θ τ ν ρ L f30 hG hT h0 v (-1) 0 ht_h0 (by omega) (by rw [hf_33, mo_i1]; exact hI)) (cwV 1 hts gX12_judge_X12_isShip rfl rfl rfl ⟨rfl, pd_X12_isShip⟩ ⟨Nat.le_of_ble_eq_true rfl, Nat.le_of_ble_eq_true rfl⟩) ⟨pz_blind, va_recv hK hP (ci := 12) (q0 := q34) rfl eq34, pz_pre hP hK hD hN⟩ rfl rfl hl.1 rfl (lv_room (Nat.le_of_ble_eq_true rfl)) dX12_judge_7 ⟨Nat.le_of_ble_eq_true rfl, Nat.le_of_ble_eq_true rfl⟩) (fun r35 hw36 => ?_)
  obtain ⟨hw36r, hw36p⟩ := hw36
  have := hI.k1
  rw [hf_33, mo_i1] at hw36p
  refine lv_if_eq (tgt := 21) hx hb dX12_judge_10 (by decide) (fun c37 => ?_) (fun c37 => ?_)
  · have ic37 : r35.toInt = 0 := zi_eq rfl rfl c37
    clear hw36r ic37
    refine lv_ldc2 (own := RX12) (v := (-2000000000000000)) hx hb hown (hts (.constantLong RX12 466 (-2000000000000000)) wa_1189) dX12_judge_21 ?_
    exact W.lret (v := (-2000000000000000)) hx hb hr (fun t ht hW => ⟨⟨(-2000000000000000), f30, rfl, ⟨hT, hR, trivial, trivial⟩, by rw [ht]; exact hP, va_K.moved hW.alike hK, hD⟩, hS.F ht⟩) hS.2.2 dX12_judge_24
  · have ic37 : r35.toInt ≠ 0 := zi_eqf rfl rfl c37
    replace ic37 : 1 ≤ r35.toInt := by omega
    have p38 : 0 ≤ v.toInt ∧ v.toInt < mo_R g27 1 := (tp_cond.yes hw36p) (by omega)
    clear hw36r ic37
    refine lv_iload hx hb dX12_judge_13 (lv_at hl 5 rfl) ?_
    refine pz_calli (va_runS (As := [.int a5]) (rest := []) ⟨hx, hb, hml, hown, hts⟩ (t_X12_isHour l dC dI _ a5 (a5.toInt) rfl) (va_cwS 1 hts gX12_judge_X12_isHour rfl rfl rfl pd_X12_isHour ⟨Nat.le_of_ble_eq_true rfl, Nat.le_of_ble_eq_true rfl⟩) ⟨pz_blind, pz_pre pz_P0 (hK.sub (tys' := []) [] rfl) (pz_D0 (A := fun _ => True)) hN⟩ rfl rfl hl.1 rfl (lv_room (Nat.le_of_ble_eq_true rfl)) dX12_judge_15 ⟨Nat.le_of_ble_eq_true rfl, Nat.le_of_ble_eq_true rfl⟩) (fun r39 hw40 => ?_)
    obtain ⟨hw40r, hw40p⟩ := hw40
    refine lv_if_ne (tgt := 25) hx hb dX12_judge_18 (by decide) (fun c41 => ?_) (fun c41 => ?_)
    · have ic41 : r39.toInt ≠ 0 := zi_ne rfl rfl c41
      replace ic41 : 1 ≤ r39.toInt := by omega
      have p42 : 0 ≤ (a5.toInt) ∧ (a5.toInt) ≤ 2399 := (tp_cond.yes hw40p) (by omega)
      clear hw40r ic41
      refine lv_aload_n hx hb dX12_judge_25 rfl (lv_at hl 0 rfl) ?_
      refine va_get (D := (dC, dI)) (ci := 12) (v := .ref (ρ h0 42)) (C := RX12) (T := TX12) (N := 53) hx hb hts hfX12 hown hK hP q34 eq34 rfl 42 (by decide) (hts (.fieldLink RX12 64 "ColdShipsModel" "line" "[I") wa_166) (fun _ h9 => h9) rfl dX12_judge_26 ?_
      refine lv_iconst (v := 0) hx hb dX12_judge_29 (by decide) ?_
      refine lv_iload_n hx hb dX12_judge_30 rfl (lv_at hl 2 rfl) ?_
      refine tpk_72 hT y17 (fun g44 hf_o43 => ?_)
      refine tpk_pos (tp_in hG y17 (by decide)) hf_o43 (fun q45 eq45 => ?_)
      refine va_iast hx hb hK hP hD hS q45 0 eq45 rfl (vp_in_iff.mpr ⟨by decide, by decide⟩) dX12_judge_31 (tp_k (.inl (κ 0, 6, .inl (upd g44 (0 : Int32).toNatClampNeg u))) hD (tp_in hG y17 (by decide)) eq45 (fun f46 H locs hP hD hS g48 k47 => ?_))
      have hT := hT.up y17 g48 k47 tp_o72
      have hR := hR.up y17 (by decide) k47
      have hU50 : mo_U (mo_R g44) (mo_R (upd g44 (0 : Int32).toNatClampNeg u)) (0) (u.toInt) := mo_up (show (0 : Int32).toInt = 0 from by decide) (rfl : u.toInt = _) (by omega)
      generalize (upd g44 (0 : Int32).toNatClampNeg u) = g49 at g48 hU50
      have hU50e := hU50.eq (by omega)
      refine lv_aload_n hx hb dX12_judge_32 rfl (lv_at hl 0 rfl) ?_
      have hf_51 : f46 h0 = .inr (12, [.int 0, .int o28_x1, .ref (ρ h0 2), .ref (ρ h0 3), .ref (ρ h0 4), .ref (ρ h0 5), .ref (ρ h0 6), .int o28_x7, .ref (ρ h0 8), .int o28_x9, .int o28_x10, .int o28_x11, .int o28_x12, .long o28_x13, .int o28_x14, .int o28_x15, .int o28_x16, .int o28_x17, .int o28_x18, .int o28_x19, .int o28_x20, .ref (ρ h0 21), .int o28_x22, .ref (ρ h0 23), .ref (ρ h0 24), .int o28_x25, .ref (ρ h0 26), .ref (ρ h0 27), .int o28_x28, .int o28_x29, .ref (ρ h0 30), .ref (ρ h0 31), .int o28_x32, .long o28_x33, .long o28_x34, .long o28_x35, .int o28_x36, .int o28_x37, .int o28_x38, .ref (ρ h0 39), .ref (ρ h0 40), .ref (ρ h0 41), .ref (ρ h0 42), .ref (ρ h0 43), .ref (ρ h0 44), .ref (ρ h0 45), .ref (ρ h0 46), .int o28_x47, .int o28_x48, .ref (ρ h0 49), .ref (ρ h0 50), .ref (ρ h0 51), .ref (ρ h0 52)]) := (k47 _ (tp_ne ht_h0 y17 (by decide))).trans g32
      refine tpk_pos (tp_in hG ht_h0 (by decide)) hf_51 (fun q52 eq52 => ?_)
      refine va_get (D := (dC, dI)) (ci := 12) (v := .ref (ρ h0 42)) (C := RX12) (T := TX12) (N := 53) hx hb hts hfX12 hown hK hP q52 eq52 rfl 42 (by decide) (hts (.fieldLink RX12 64 "ColdShipsModel" "line" "[I") wa_166) (fun _ h9 => h9) rfl dX12_judge_33 ?_
      refine lv_iconst (v := 1) hx hb dX12_judge_36 (by decide) ?_
      refine lv_iload_n hx hb dX12_judge_37 rfl (lv_at hl 3 rfl) ?_
      refine tpk_pos (tp_in hG y17 (by decide)) g48 (fun q53 eq53 => ?_)
      refine va_iast hx hb hK hP hD hS q53 0 eq53 rfl (vp_in_iff.mpr ⟨by decide, by decide⟩) dX12_judge_38 (tp_k (.inl (κ 0, 6, .inl (upd g49 (1 : Int32).toNatClampNeg a))) hD (tp_in hG y17 (by decide)) eq53 (fun f54 H locs hP hD hS g56 k55 => ?_))
      have hT := hT.up y17 g56 k55 tp_o72
      have hR := hR.up y17 (by decide) k55
      have hU58 : mo_U (mo_R g49) (mo_R (upd g49 (1 : Int32).toNatClampNeg a)) (1) (a.toInt) := mo_up (show (1 : Int32).toInt = 1 from by decide) (rfl : a.toInt = _) (by omega)
      generalize (upd g49 (1 : Int32).toNatClampNeg a) = g57 at g56 hU58
      have hU58e := hU58.eq (by omega)
      refine lv_aload_n hx hb dX12_judge_39 rfl (lv_at hl 0 rfl) ?_
      have hf_59 : f54 h0 = .inr (12, [.int 0, .int o28_x1, .ref (ρ h0 2), .ref (ρ h0 3), .ref (ρ h0 4), .ref (ρ h0 5), .ref (ρ h0 6), .int o28_x7, .ref (ρ h0 8), .int o28_x9, .int o28_x10, .int o28_x11, .int o28_x12, .long o28_x13, .int o28_x14, .int o28_x15, .int o28_x16, .int o28_x17, .int o28_x18, .int o28_x19, .int o28_x20, .ref (ρ h0 21), .int o28_x22, .ref (ρ h0 23), .ref (ρ h0 24), .int o28_x25, .ref (ρ h0 26), .ref (ρ h0 27), .int o28_x28, .int o28_x29, .ref (ρ h0 30), .ref (ρ h0 31), .int o28_x32, .long o28_x33, .long o28_x34, .long o28_x35, .int o28_x36, .int o28_x37, .int o28_x38, .ref (ρ h0 39), .ref (ρ h0 40), .ref (ρ h0 41), .ref (ρ h0 42), .ref (ρ h0 43), .ref (ρ h0 44), .ref (ρ h0 45), .ref (ρ h0 46), .int o28_x47, .int o28_x48, .ref (ρ h0 49), .ref (ρ h0 50), .ref (ρ h0 51), .ref (ρ h0 52)]) := (k55 _ (tp_ne ht_h0 y17 (by decide))).trans hf_51
      refine tpk_pos (tp_in hG ht_h0 (by decide)) hf_59 (fun q60 eq60 => ?_)
      refine va_get (D := (dC, dI)) (ci := 12) (v := .ref (ρ h0 42)) (C := RX12) (T := TX12) (N := 53) hx hb hts hfX12 hown hK hP q60 eq60 rfl 42 (by decide) (hts (.fieldLink RX12 64 "ColdShipsModel" "line" "[I") wa_166) (fun _ h9 => h9) rfl dX12_judge_40 ?_
      refine lv_iconst (v := 2) hx hb dX12_judge_43 (by decide) ?_
      refine lv_iload hx hb dX12_judge_44 (lv_at hl 4 rfl) ?_
      refine tpk_pos (tp_in hG y17 (by decide)) g56 (fun q61 eq61 => ?_)
      refine va_iast hx hb hK hP hD hS q61 0 eq61 rfl (vp_in_iff.mpr ⟨by decide, by decide⟩) dX12_judge_46 (tp_k (.inl (κ 0, 6, .inl (upd g57 (2 : Int32).toNatClampNeg a4))) hD (tp_in hG y17 (by decide)) eq61 (fun f62 H locs hP hD hS g64 k63 => ?_))
      have hT := hT.up y17 g64 k63 tp_o72
      have hR := hR.up y17 (by decide) k63
      have hU66 : mo_U (mo_R g57) (mo_R (upd g57 (2 : Int32).toNatClampNeg a4)) (2) (a4.toInt) := mo_up (show (2 : Int32).toInt = 2 from by decide) (rfl : a4.toInt = _) (by omega)
      generalize (upd g57 (2 : Int32).toNatClampNeg a4) = g65 at g64 hU66
      have hU66e := hU66.eq (by omega)
      refine lv_iload_n hx hb dX12_judge_47 rfl (lv_at hl 2 rfl) ?_
      refine lv_iconst (v := (-1)) hx hb dX12_judge_48 (by decide) ?_
      refine tp_join 76 (fun H locs ls stk => ∃ w67 : Int32, stk = [.int w67] ∧ (0 ≤ w67.toInt ∧ w67.toInt ≤ 3) ∧ va_P (dC, dI) vwCl (va_pl L f62) H ∧ va_D A (va_pl L f62) ∧ va_S A s.heap H locs ∧ lv_has ls 9 [(0, .ref h0), (1, .int v), (2, .int u), (3, .int a), (4, .int a4), (5, .int a5)]) ?_ (fun hj68 => ?_)
      · intro H locs ls stk hI
        refine Exists.elim hI (fun w67 hE90 => tn_6 hE90 (fun e90 rw67 hP hD hS hl => ?_))
        clear hE90 hI; subst e90
        refine lv_istore (lv' := [(6, .int w67), (0, .ref h0), (1, .int v), (2, .int u), (3, .int a), (4, .int a4), (5, .int a5)]) hx hb dX12_judge_76 hl (by decide) rfl (fun ls hl => ?_)
        refine lv_iconst (v := 0) hx hb dX12_judge_78 (by decide) ?_
        refine lv_istore (lv' := [(7, .int 0), (6, .int w67), (0, .ref h0), (1, .int v), (2, .int u), (3, .int a), (4, .int a4), (5, .int a5)]) hx hb dX12_judge_79 hl (by decide) rfl (fun ls hl => ?_)
        have hf_69 : f46 (ρ h0 2) = .inl (κ 0, 12967, .inl g27) := (k47 _ (tp_ne y1 y17 (by decide))).trans hf_33
        have hf_70 : f54 (ρ h0 2) = .inl (κ 0, 12967, .inl g27) := (k55 _ (tp_ne y1 y17 (by decide))).trans hf_69
        have hf_71 : f62 (ρ h0 2) = .inl (κ 0, 12967, .inl g27) := (k63 _ (tp_ne y1 y17 (by decide))).trans hf_70
        have tf72 : mo_hd (mo_i (f62 (ρ h0 42)) = g65) := tfa_i g64
        refine pz_loop (fun n0 H locs ls => ∃ w73 : Int32, n0 = (3 - (w73.toInt)).toNat ∧ (0 ≤ w73.toInt ∧ w73.toInt ≤ 3) ∧ (∀ j, 0 ≤ j → j < (w73.toInt) → 0 ≤ (mo_R g65) j ∧ (mo_R g65) j < mo_R g27 10) ∧ va_P (dC, dI) vwCl (va_pl L f62) H ∧ va_D A (va_pl L f62) ∧ va_S A s.heap H locs ∧ lv_has ls 9 [(7, .int w73), (6, .int w67), (0, .ref h0), (1, .int v), (2, .int u), (3, .int a), (4, .int a4), (5, .int a5)]) ?_ _ _ _ _ ⟨0, rfl, (by have : (0 : Int32).toInt = 0 := rfl; omega), (fun j j0 j1 => absurd j1 (by have : (0 : Int32).toInt = 0 := rfl; omega)), hP, hD, hS, lv_sub hl [0, 1, 2, 3, 4, 5, 6, 7] rfl⟩
        intro n0 H locs ls hI ih75
        refine Exists.elim hI (fun w73 hE90 => tn_7 hE90 (fun hn76 rw73 k74 hP hD hS hl => ?_))
        clear hE90 hI
        refine lv_iload hx hb dX12_judge_81 (lv_at hl 0 rfl) ?_
        refine lv_iload hx hb dX12_judge_83 (lv_at hl 1 rfl) ?_
        refine lv_icmp_ge (tgt := 160) hx hb dX12_judge_85 (by decide) (fun c77 => ?_) (fun c77 => ?_)
        · have ic77 : w73.toInt ≥ w67.toInt := zi_ge rfl rfl c77
          refine lv_aload_n hx hb dX12_judge_160 rfl (lv_at hl 2 rfl) ?_
          refine lv_iload_n hx hb dX12_judge_161 rfl (lv_at hl 3 rfl) ?_
          refine lv_iload hx hb dX12_judge_162 (lv_at hl 1 rfl) ?_
          refine lv_iload hx hb dX12_judge_164 (lv_at hl 7 rfl) ?_
          have hf_78 : f62 h0 = .inr (12, [.int 0, .int o28_x1, .ref (ρ h0 2), .ref (ρ h0 3), .ref (ρ h0 4), .ref (ρ h0 5), .ref (ρ h0 6), .int o28_x7, .ref (ρ h0 8), .int o28_x9, .int o28_x10, .int o28_x11, .int o28_x12, .long o28_x13, .int o28_x14, .int o28_x15, .int o28_x16, .int o28_x17, .int o28_x18, .int o28_x19, .int o28_x20, .ref (ρ h0 21), .int o28_x22, .ref (ρ h0 23), .ref (ρ h0 24), .int o28_x25, .ref (ρ h0 26), .ref (ρ h0 27), .int o28_x28, .int o28_x29, .ref (ρ h0 30), .ref (ρ h0 31), .int o28_x32, .long o28_x33, .long o28_x34, .long o28_x35, .int o28_x36, .int o28_x37, .int o28_x38, .ref (ρ h0 39), .ref (ρ h0 40), .ref (ρ h0 41), .ref (ρ h0 42), .ref (ρ h0 43), .ref (ρ h0 44), .ref (ρ h0 45), .ref (ρ h0 46), .int o28_x47, .int o28_x48, .ref (ρ h0 49), .ref (ρ h0 50), .ref (ρ h0 51), .ref (ρ h0 52)]) := (k63 _ (tp_ne ht_h0 y17 (by decide))).trans hf_59
          refine tpk_pos (tp_in hG ht_h0 (by decide)) hf_78 (fun q79 eq79 => ?_)
          have hFc := tp_fr hD hS hA
          refine va_calll (va_runV (As := [.int v, .int w67, .int a5]) (rest := []) ⟨hx, hb, hml, hown, hts⟩ (t_X12_sailRow l dC dI _ κ Θ τ ν ρ L f62 hG hT h0 v w67 a5 (-1) 0 ht_h0 (by first | decide | omega) (by omega) (by rw [hf_71, mo_i1]; exact hI) (by first | (simp only [hf_71, hf_o26, mo_i1]; omega) | (simp only [hf_71, hf_o26, mo_i1]; trivial) | (simp only [hf_71, hf_o26, mo_i1]; done) | omega) (by first | (simp only [(mo_un tf72), hf_71, mo_i1, mo_l1]; exact (show ∀ j, 0 ≤ j → j < w67.toInt → 0 ≤ (mo_R g65) j ∧ (mo_R g65) j < (mo_R g27) 10 from (fun j j0 j1 => k74 j j0 (by omega)))) | (rw [(mo_un tf72), hf_71]; exact (show ∀ j, 0 ≤ j → j < w67.toInt → 0 ≤ (mo_R g65) j ∧ (mo_R g65) j < (mo_R g27) 10 from (fun j j0 j1 => k74 j j0 (by omega)))))) (cwV 3 hts gX12_judge_X12_sailRow rfl rfl rfl ⟨rfl, pd_X12_sailRow⟩ ⟨Nat.le_of_ble_eq_true rfl, Nat.le_of_ble_eq_true rfl⟩) ⟨pz_blind, va_recv hK hP (ci := 12) (q0 := q79) rfl eq79, pz_pre hP hK hD hN⟩ rfl rfl hl.1 rfl (lv_room (Nat.le_of_ble_eq_true rfl)) dX12_judge_166 ⟨Nat.le_of_ble_eq_true rfl, Nat.le_of_ble_eq_true rfl⟩) hS (fun q _ h => hFc q h) hFc (fun r80 f82 t H1 locs ht hvm hw81 hB hz1 hk1 hS => ?_)
          refine tn_4 hw81 (fun hT hF83 hw81r hw81p => ?_); clear hw81
          have hR := hR.then hF83 (by decide)
          have hP := hB.1; rw [ht] at hP; have hD := tp_ad f82 hD; clear hB hFc hz1 hk1; subst ht; generalize t.heap = H at hP hS ⊢
          exact W.lret (v := r80) hx hb hr (fun t ht hW => ⟨⟨r80, f82, rfl, ⟨hT, hR, trivial, trivial⟩, by rw [ht]; exact hP, va_K.moved hW.alike hK, hD⟩, hS.F ht⟩) hS.2.2 dX12_judge_169
        · have ic77 : w73.toInt < w67.toInt := zi_gef rfl rfl c77
          refine lv_iconst (v := 0) hx hb dX12_judge_88 (by decide) ?_
          refine lv_istore (lv' := [(8, .int 0), (7, .int w73), (6, .int w67), (0, .ref h0), (1, .int v), (2, .int u), (3, .int a), (4, .int a4), (5, .int a5)]) hx hb dX12_judge_89 hl (by decide) rfl (fun ls hl => ?_)
          refine pz_loop (fun n0 H locs ls => ∃ w84 : Int32, n0 = (3 - (w84.toInt)).toNat ∧ (0 ≤ w84.toInt ∧ w84.toInt ≤ 3) ∧ va_P (dC, dI) vwCl (va_pl L f62) H ∧ va_D A (va_pl L f62) ∧ va_S A s.heap H locs ∧ lv_has ls 9 [(8, .int w84), (7, .int w73), (6, .int w67), (0, .ref h0), (1, .int v), (2, .int u), (3, .int a), (4, .int a4), (5, .int a5)]) ?_ _ _ _ _ ⟨0, rfl, (by have : (0 : Int32).toInt = 0 := rfl; omega), hP, hD, hS, lv_sub hl [0, 1, 2, 3, 4, 5, 6, 7, 8] rfl⟩
          intro n0 H locs ls hI ih85
          refine Exists.elim hI (fun w84 hE90 => tn_6 hE90 (fun hn86 rw84 hP hD hS hl => ?_))
          clear hE90 hI
          refine lv_iload hx hb dX12_judge_91 (lv_at hl 0 rfl) ?_
          refine lv_iload hx hb dX12_judge_93 (lv_at hl 1 rfl) ?_
          refine lv_icmp_ge (tgt := 125) hx hb dX12_judge_95 (by decide) (fun c87 => ?_) (fun c87 => ?_)
          · have ic87 : w84.toInt ≥ w73.toInt := zi_ge rfl rfl c87
            refine lv_aload_n hx hb dX12_judge_125 rfl (lv_at hl 3 rfl) ?_
            have hf_88 : f62 h0 = .inr (12, [.int 0, .int o28_x1, .ref (ρ h0 2), .ref (ρ h0 3), .ref (ρ h0 4), .ref (ρ h0 5), .ref (ρ h0 6), .int o28_x7, .ref (ρ h0 8), .int o28_x9, .int o28_x10, .int o28_x11, .int o28_x12, .long o28_x13, .int o28_x14, .int o28_x15, .int o28_x16, .int o28_x17, .int o28_x18, .int o28_x19, .int o28_x20, .ref (ρ h0 21), .int o28_x22, .ref (ρ h0 23), .ref (ρ h0 24), .int o28_x25, .ref (ρ h0 26), .ref (ρ h0 27), .int o28_x28, .int o28_x29, .ref (ρ h0 30), .ref (ρ h0 31), .int o28_x32, .long o28_x33, .long o28_x34, .long o28_x35, .int o28_x36, .int o28_x37, .int o28_x38, .ref (ρ h0 39), .ref (ρ h0 40), .ref (ρ h0 41), .ref (ρ h0 42), .ref (ρ h0 43), .ref (ρ h0 44), .ref (ρ h0 45), .ref (ρ h0 46), .int o28_x47, .int o28_x48, .ref (ρ h0 49), .ref (ρ h0 50), .ref (ρ h0 51), .ref (ρ h0 52)]) := (k63 _ (tp_ne ht_h0 y17 (by decide))).trans hf_59
            refine tpk_pos (tp_in hG ht_h0 (by decide)) hf_88 (fun q89 eq89 => ?_)
            refine va_get (D := (dC, dI)) (ci := 12) (v := .ref (ρ h0 42)) (C := RX12) (T := TX12) (N := 53) hx hb hts hfX12 hown hK hP q89 eq89 rfl 42 (by decide) (hts (.fieldLink RX12 64 "ColdShipsModel" "line" "[I") wa_166) (fun _ h9 => h9) rfl dX12_judge_126 ?_
            refine lv_iload hx hb dX12_judge_129 (lv_at hl 1 rfl) ?_
            refine tpk_pos (tp_in hG y17 (by decide)) g64 (fun q90 eq90 => ?_)
            refine va_iald hx hb hK hP q90 0 eq90 rfl (vp_in_iff.mpr ⟨by omega, by omega⟩) dX12_judge_131 ?_
            refine lv_topi (fun z91 ez91 => ?_)
            have jz91 : z91.toInt = mo_R g65 w73.toInt := mo_rd ez91 (by omega)
            refine lv_i2l hx hb dX12_judge_132 rfl ?_
            refine lv_lconst (v := 0) hx hb dX12_judge_133 (by decide) ?_
            refine lv_aload_n hx hb dX12_judge_134 rfl (lv_at hl 3 rfl) ?_
            refine va_get (D := (dC, dI)) (ci := 12) (v := .ref (ρ h0 2)) (C := RX12) (T := TX12) (N := 53) hx hb hts hfX12 hown hK hP q89 eq89 rfl 2 (by decide) (hts (.fieldLink RX12 7 "ColdShipsModel" "row" "[I") wa_148) (fun _ h9 => h9) rfl dX12_judge_135 ?_
            refine lv_bipush (v := 10) hx hb dX12_judge_138 (by decide) ?_
            refine tpk_pos (tp_in hG y1 (by decide)) hf_71 (fun q92 eq92 => ?_)
            refine va_iald hx hb hK hP q92 0 eq92 rfl (vp_in_iff.mpr ⟨by decide, by decide⟩) dX12_judge_140 ?_
            refine lv_topi (fun z93 ez93 => ?_)
            have jz93 : z93.toInt = mo_R g27 (10) := mo_rd ez93 (show (10 : Int32).toInt = (10) from by decide)
            have kz93 := hI.k10
            refine lv_i2l hx hb dX12_judge_141 rfl ?_
            refine lv_lconst (v := 1) hx hb dX12_judge_142 (by decide) ?_
            refine lv_lsub hx hb dX12_judge_143 ?_
            refine lv_topl (fun z94 ez94 => ?_)
            have iz94 : z94.toInt = z93.toInt - 1 := zl_sub ez94 (Int32.toInt_toInt64 z93) rfl (by omega) (by omega)
            refine pz_calli (va_runS (As := [.long z91.toInt64, .long 0, .long z94]) (rest := []) ⟨hx, hb, hml, hown, hts⟩ (t_X12_in l dC dI _ z91.toInt64 (0) z94 (z91.toInt) (0) (z94.toInt) (Int32.toInt_toInt64 z91) rfl rfl) (va_cwS 3 hts gX12_judge_X12_in rfl rfl rfl pd_X12_in ⟨Nat.le_of_ble_eq_true rfl, Nat.le_of_ble_eq_true rfl⟩) ⟨pz_blind, pz_pre pz_P0 (hK.sub (tys' := []) [] rfl) (pz_D0 (A := fun _ => True)) hN⟩ rfl rfl hl.1 rfl (lv_room (Nat.le_of_ble_eq_true rfl)) dX12_judge_144 ⟨Nat.le_of_ble_eq_true rfl, Nat.le_of_ble_eq_true rfl⟩) (fun r95 hw96 => ?_)
            obtain ⟨hw96r, hw96p⟩ := hw96
            refine lv_if_ne (tgt := 154) hx hb dX12_judge_147 (by decide) (fun c97 => ?_) (fun c97 => ?_)
            · have ic97 : r95.toInt ≠ 0 := zi_ne rfl rfl c97
              replace ic97 : 1 ≤ r95.toInt := by omega
              have p98 : (0) ≤ (z91.toInt) ∧ (z91.toInt) ≤ (z94.toInt) := (tp_cond.yes hw96p) (by omega)
              clear hw96r ic97
              obtain ⟨z99, ez99⟩ : ∃ y : Int32, y = w73 + 1 := ⟨_, rfl⟩
              refine lv_iinc (v := z99) (lv' := [(7, .int z99), (8, .int w84), (6, .int w67), (0, .ref h0), (1, .int v), (2, .int u), (3, .int a), (4, .int a4), (5, .int a5)]) hx hb dX12_judge_154 hl (k := 1) rfl (by rw [ez99]; rfl) (by decide) rfl (fun ls hl => ?_)
              have iz99 : z99.toInt = w73.toInt + 1 := zi_add ez99 rfl rfl (by omega) (by omega)
              refine lv_goto (tgt := 81) hx hb dX12_judge_157 (by decide) ?_
              exact ih75 _ _ _ _ (by rw [hn76]; omega) ⟨z99, rfl, (by omega), (fun j j0 j1 => by rcases (show j < w73.toInt ∨ j = w73.toInt by omega) with q9 | rfl; (exact k74 j j0 q9); omega), hP, hD, hS, lv_sub hl [0, 2, 3, 4, 5, 6, 7, 8] rfl⟩
            · have ic97 : r95.toInt = 0 := zi_nef rfl rfl c97
              clear hw96r ic97
              refine lv_ldc2 (own := RX12) (v := (-2000000000000000)) hx hb hown (hts (.constantLong RX12 466 (-2000000000000000)) wa_1189) dX12_judge_150 ?_
              exact W.lret (v := (-2000000000000000)) hx hb hr (fun t ht hW => ⟨⟨(-2000000000000000), f62, rfl, ⟨hT, hR, trivial, trivial⟩, by rw [ht]; exact hP, va_K.moved hW.alike hK, hD⟩, hS.F ht⟩) hS.2.2 dX12_judge_153
          · have ic87 : w84.toInt < w73.toInt := zi_gef rfl rfl c87
            refine lv_aload_n hx hb dX12_judge_98 rfl (lv_at hl 3 rfl) ?_
            have hf_100 : f62 h0 = .inr (12, [.int 0, .int o28_x1, .ref (ρ h0 2), .ref (ρ h0 3), .ref (ρ h0 4), .ref (ρ h0 5), .ref (ρ h0 6), .int o28_x7, .ref (ρ h0 8), .int o28_x9, .int o28_x10, .int o28_x11, .int o28_x12, .long o28_x13, .int o28_x14, .int o28_x15, .int o28_x16, .int o28_x17, .int o28_x18, .int o28_x19, .int o28_x20, .ref (ρ h0 21), .int o28_x22, .ref (ρ h0 23), .ref (ρ h0 24), .int o28_x25, .ref (ρ h0 26), .ref (ρ h0 27), .int o28_x28, .int o28_x29, .ref (ρ h0 30), .ref (ρ h0 31), .int o28_x32, .long o28_x33, .long o28_x34, .long o28_x35, .int o28_x36, .int o28_x37, .int o28_x38, .ref (ρ h0 39), .ref (ρ h0 40), .ref (ρ h0 41), .ref (ρ h0 42), .ref (ρ h0 43), .ref (ρ h0 44), .ref (ρ h0 45), .ref (ρ h0 46), .int o28_x47, .int o28_x48, .ref (ρ h0 49), .ref (ρ h0 50), .ref (ρ h0 51), .ref (ρ h0 52)]) := (k63 _ (tp_ne ht_h0 y17 (by decide))).trans hf_59
            refine tpk_pos (tp_in hG ht_h0 (by decide)) hf_100 (fun q101 eq101 => ?_)
            refine va_get (D := (dC, dI)) (ci := 12) (v := .ref (ρ h0 42)) (C := RX12) (T := TX12) (N := 53) hx hb hts hfX12 hown hK hP q101 eq101 rfl 42 (by decide) (hts (.fieldLink RX12 64 "ColdShipsModel" "line" "[I") wa_166) (fun _ h9 => h9) rfl dX12_judge_99 ?_
            refine lv_iload hx hb dX12_judge_102 (lv_at hl 1 rfl) ?_
            refine tpk_pos (tp_in hG y17 (by decide)) g64 (fun q102 eq102 => ?_)
            refine va_iald hx hb hK hP q102 0 eq102 rfl (vp_in_iff.mpr ⟨by omega, by omega⟩) dX12_judge_104 ?_
            refine lv_topi (fun z103 ez103 => ?_)
            have jz103 : z103.toInt = mo_R g65 w73.toInt := mo_rd ez103 (by omega)
            refine lv_aload_n hx hb dX12_judge_105 rfl (lv_at hl 3 rfl) ?_
            refine va_get (D := (dC, dI)) (ci := 12) (v := .ref (ρ h0 42)) (C := RX12) (T := TX12) (N := 53) hx hb hts hfX12 hown hK hP q101 eq101 rfl 42 (by decide) (hts (.fieldLink RX12 64 "ColdShipsModel" "line" "[I") wa_166) (fun _ h9 => h9) rfl dX12_judge_106 ?_
            refine lv_iload hx hb dX12_judge_109 (lv_at hl 0 rfl) ?_
            refine va_iald hx hb hK hP q102 0 eq102 rfl (vp_in_iff.mpr ⟨by omega, by omega⟩) dX12_judge_111 ?_
            refine lv_topi (fun z104 ez104 => ?_)
            have jz104 : z104.toInt = mo_R g65 w84.toInt := mo_rd ez104 (by omega)
            refine lv_icmp_ne (tgt := 119) hx hb dX12_judge_112 (by decide) (fun c105 => ?_) (fun c105 => ?_)
            · have ic105 : z103.toInt ≠ z104.toInt := zi_ne rfl rfl c105
              obtain ⟨z106, ez106⟩ : ∃ y : Int32, y = w84 + 1 := ⟨_, rfl⟩
              refine lv_iinc (v := z106) (lv' := [(8, .int z106), (7, .int w73), (6, .int w67), (0, .ref h0), (1, .int v), (2, .int u), (3, .int a), (4, .int a4), (5, .int a5)]) hx hb dX12_judge_119 hl (k := 0) rfl (by rw [ez106]; rfl) (by decide) rfl (fun ls hl => ?_)
              have iz106 : z106.toInt = w84.toInt + 1 := zi_add ez106 rfl rfl (by omega) (by omega)
              refine lv_goto (tgt := 91) hx hb dX12_judge_122 (by decide) ?_
              exact ih85 _ _ _ _ (by rw [hn86]; omega) ⟨z106, rfl, (by omega), hP, hD, hS, lv_sub hl [0, 1, 2, 3, 4, 5, 6, 7, 8] rfl⟩
            · have ic105 : z103.toInt = z104.toInt := zi_nef rfl rfl c105
              refine lv_ldc2 (own := RX12) (v := (-2000000000000000)) hx hb hown (hts (.constantLong RX12 466 (-2000000000000000)) wa_1189) dX12_judge_115 ?_
              exact W.lret (v := (-2000000000000000)) hx hb hr (fun t ht hW => ⟨⟨(-2000000000000000), f62, rfl, ⟨hT, hR, trivial, trivial⟩, by rw [ht]; exact hP, va_K.moved hW.alike hK, hD⟩, hS.F ht⟩) hS.2.2 dX12_judge_118
      · refine lv_icmp_ne (tgt := 56) hx hb dX12_judge_49 (by decide) (fun c107 => ?_) (fun c107 => ?_)
        · have ic107 : u.toInt ≠ (-1) := zi_ne rfl rfl c107
          refine lv_iload_n hx hb dX12_judge_56 rfl (lv_at hl 3 rfl) ?_
          refine lv_iconst (v := (-1)) hx hb dX12_judge_57 (by decide) ?_
          refine lv_icmp_ne (tgt := 65) hx hb dX12_judge_58 (by decide) (fun c108 => ?_) (fun c108 => ?_)
          · have ic108 : a.toInt ≠ (-1) := zi_ne rfl rfl c108
            refine lv_iload hx hb dX12_judge_65 (lv_at hl 4 rfl) ?_
            refine lv_iconst (v := (-1)) hx hb dX12_judge_67 (by decide) ?_
            refine lv_icmp_ne (tgt := 75) hx hb dX12_judge_68 (by decide) (fun c109 => ?_) (fun c109 => ?_)
            · have ic109 : a4.toInt ≠ (-1) := zi_ne rfl rfl c109
              refine lv_iconst (v := 3) hx hb dX12_judge_75 (by decide) ?_
              exact hj68 _ _ _ _ ⟨3, rfl, (by have : (3 : Int32).toInt = 3 := rfl; omega), hP, hD, hS, lv_sub hl [0, 1, 2, 3, 4, 5] rfl⟩
            · have ic109 : a4.toInt = (-1) := zi_nef rfl rfl c109
              refine lv_iconst (v := 2) hx hb dX12_judge_71 (by decide) ?_
              refine lv_goto (tgt := 76) hx hb dX12_judge_72 (by decide) ?_
              exact hj68 _ _ _ _ ⟨2, rfl, (by have : (2 : Int32).toInt = 2 := rfl; omega), hP, hD, hS, lv_sub hl [0, 1, 2, 3, 4, 5] rfl⟩
          · have ic108 : a.toInt = (-1) := zi_nef rfl rfl c108
            refine lv_iconst (v := 1) hx hb dX12_judge_61 (by decide) ?_
            refine lv_goto (tgt := 76) hx hb dX12_judge_62 (by decide) ?_
            exact hj68 _ _ _ _ ⟨1, rfl, (by have : (1 : Int32).toInt = 1 := rfl; omega), hP, hD, hS, lv_sub hl [0, 1, 2, 3, 4, 5] rfl⟩
        · have ic107 : u.toInt = (-1) := zi_nef rfl rfl c107
          refine lv_iconst (v := 0) hx hb dX12_judge_52 (by decide) ?_
          refine lv_goto (tgt := 76) hx hb dX12_judge_53 (by decide) ?_
          exact hj68 _ _ _ _ ⟨0, rfl, (by have : (0 : Int32).toInt = 0 := rfl; omega), hP, hD, hS, lv_sub hl [0, 1, 2, 3, 4, 5] rfl⟩
    · have ic41 : r39.toInt = 0 := zi_nef rfl rfl c41
      clear hw40r ic41
      refine lv_ldc2 (own := RX12) (v := (-2000000000000000)) hx hb hown (hts (.constantLong RX12 466 (-2000000000000000)) wa_1189) dX12_judge_21 ?_
      exact W.lret (v := (-2000000000000000)) hx hb hr (fun t ht hW => ⟨⟨(-2000000000000000), f30, rfl, ⟨hT, hR, trivial, trivial⟩, by rw [ht]; exact hP, va_K.moved hW.alike hK, hD⟩, hS.F ht⟩) hS.2.2 dX12_judge_24
end
section
theorem gX12_keepBest_X12_sailRow : GoodIn WALL (wsV RX12 519 RX12 yX12_sailRow wqX12_sailRow) := wg_V wa_1424 wa_1425 wa_1426 wa_5 wa_1427
theorem dX12_keepBest_0 : decode cX12_keepBest 0 = .ok (.aload_n 0, 1) := od_42  (by decide +kernel)
theorem dX12_keepBest_1 : decode cX12_keepBest 1 = .ok (.iconst 1, 1) := od_4  (by decide +kernel)
theorem dX12_keepBest_2 : decode cX12_keepBest 2 = .ok (.putfield 538, 3) := od_181 (a := 2) (b := 26) (by decide +kernel) (by decide)
theorem dX12_keepBest_5 : decode cX12_keepBest 5 = .ok (.aload_n 0, 1) := od_42  (by decide +kernel)
theorem dX12_keepBest_6 : decode cX12_keepBest 6 = .ok (.iload_n 1, 1) := od_27  (by decide +kernel)
theorem dX12_keepBest_7 : decode cX12_keepBest 7 = .ok (.putfield 541, 3) := od_181 (a := 2) (b := 29) (by decide +kernel) (by decide)
theorem dX12_keepBest_10 : decode cX12_keepBest 10 = .ok (.iconst 0, 1) := od_3  (by decide +kernel)
theorem dX12_keepBest_11 : decode cX12_keepBest 11 = .ok (.istore 4, 2) := od_54 (n := 4) (by decide +kernel)
theorem dX12_keepBest_13 : decode cX12_keepBest 13 = .ok (.iload 4, 2) := od_21 (n := 4) (by decide +kernel)
theorem dX12_keepBest_15 : decode cX12_keepBest 15 = .ok (.iload_n 1, 1) := od_27  (by decide +kernel)
theorem dX12_keepBest_16 : decode cX12_keepBest 16 = .ok (.if_icmp .ge 56, 3) := od_162 (a := 0) (b := 56) (by decide +kernel) (by decide +kernel)
theorem dX12_keepBest_19 : decode cX12_keepBest 19 = .ok (.iconst 0, 1) := od_3  (by decide +kernel)
theorem dX12_keepBest_20 : decode cX12_keepBest 20 = .ok (.istore 5, 2) := od_54 (n := 5) (by decide +kernel)
theorem dX12_keepBest_22 : decode cX12_keepBest 22 = .ok (.iload 5, 2) := od_21 (n := 5) (by decide +kernel)
theorem dX12_keepBest_24 : decode cX12_keepBest 24 = .ok (.iconst 5, 1) := od_8  (by decide +kernel)
theorem dX12_keepBest_25 : decode cX12_keepBest 25 = .ok (.if_icmp .ge 24, 3) := od_162 (a := 0) (b := 24) (by decide +kernel) (by decide +kernel)
theorem dX12_keepBest_28 : decode cX12_keepBest 28 = .ok (.aload_n 0, 1) := od_42  (by decide +kernel)
theorem dX12_keepBest_29 : decode cX12_keepBest 29 = .ok (.getfield 82, 3) := od_180 (a := 0) (b := 82) (by decide +kernel) (by decide)
theorem dX12_keepBest_32 : decode cX12_keepBest 32 = .ok (.iconst 5, 1) := od_8  (by decide +kernel)
theorem dX12_keepBest_33 : decode cX12_keepBest 33 = .ok (.iload 4, 2) := od_21 (n := 4) (by decide +kernel)
theorem dX12_keepBest_35 : decode cX12_keepBest 35 = .ok (.imul, 1) := od_104  (by decide +kernel)
theorem dX12_keepBest_36 : decode cX12_keepBest 36 = .ok (.iload 5, 2) := od_21 (n := 5) (by decide +kernel)
theorem dX12_keepBest_38 : decode cX12_keepBest 38 = .ok (.iadd, 1) := od_96  (by decide +kernel)
theorem dX12_keepBest_39 : decode cX12_keepBest 39 = .ok (.ldc2_w 466, 3) := od_20 (a := 1) (b := 210) (by decide +kernel) (by decide)
theorem dX12_keepBest_42 : decode cX12_keepBest 42 = .ok (.lastore, 1) := od_80  (by decide +kernel)
theorem dX12_keepBest_43 : decode cX12_keepBest 43 = .ok (.iinc 5 1, 3) := od_132 (a := 5) (b := 1) (by decide +kernel) (by decide +kernel)
theorem dX12_keepBest_46 : decode cX12_keepBest 46 = .ok (.goto (-24), 3) := od_167 (a := 255) (b := 232) (by decide +kernel) (by decide +kernel)
theorem dX12_keepBest_49 : decode cX12_keepBest 49 = .ok (.aload_n 0, 1) := od_42  (by decide +kernel)
theorem dX12_keepBest_50 : decode cX12_keepBest 50 = .ok (.getfield 82, 3) := od_180 (a := 0) (b := 82) (by decide +kernel) (by decide)
theorem dX12_keepBest_53 : decode cX12_keepBest 53 = .ok (.iconst 5, 1) := od_8  (by decide +kernel)
theorem dX12_keepBest_54 : decode cX12_keepBest 54 = .ok (.iload 4, 2) := od_21 (n := 4) (by decide +kernel)
theorem dX12_keepBest_56 : decode cX12_keepBest 56 = .ok (.imul, 1) := od_104  (by decide +kernel)
theorem dX12_keepBest_57 : decode cX12_keepBest 57 = .ok (.aload_n 0, 1) := od_42  (by decide +kernel)
theorem dX12_keepBest_58 : decode cX12_keepBest 58 = .ok (.getfield 79, 3) := od_180 (a := 0) (b := 79) (by decide +kernel) (by decide)
theorem dX12_keepBest_61 : decode cX12_keepBest 61 = .ok (.iload 4, 2) := od_21 (n := 4) (by decide +kernel)
theorem dX12_keepBest_63 : decode cX12_keepBest 63 = .ok (.iaload, 1) := od_46  (by decide +kernel)
theorem dX12_keepBest_64 : decode cX12_keepBest 64 = .ok (.i2l, 1) := od_133  (by decide +kernel)
theorem dX12_keepBest_65 : decode cX12_keepBest 65 = .ok (.lastore, 1) := od_80  (by decide +kernel)
theorem dX12_keepBest_66 : decode cX12_keepBest 66 = .ok (.iinc 4 1, 3) := od_132 (a := 4) (b := 1) (by decide +kernel) (by decide +kernel)
theorem dX12_keepBest_69 : decode cX12_keepBest 69 = .ok (.goto (-56), 3) := od_167 (a := 255) (b := 200) (by decide +kernel) (by decide +kernel)
theorem dX12_keepBest_72 : decode cX12_keepBest 72 = .ok (.iconst 0, 1) := od_3  (by decide +kernel)
theorem dX12_keepBest_73 : decode cX12_keepBest 73 = .ok (.istore 4, 2) := od_54 (n := 4) (by decide +kernel)
theorem dX12_keepBest_75 : decode cX12_keepBest 75 = .ok (.iload 4, 2) := od_21 (n := 4) (by decide +kernel)
theorem dX12_keepBest_77 : decode cX12_keepBest 77 = .ok (.iload_n 2, 1) := od_28  (by decide +kernel)
theorem dX12_keepBest_78 : decode cX12_keepBest 78 = .ok (.if_icmp .ge 218, 3) := od_162 (a := 0) (b := 218) (by decide +kernel) (by decide +kernel)
theorem dX12_keepBest_81 : decode cX12_keepBest 81 = .ok (.iconst 0, 1) := od_3  (by decide +kernel)
theorem dX12_keepBest_82 : decode cX12_keepBest 82 = .ok (.istore 5, 2) := od_54 (n := 5) (by decide +kernel)
theorem dX12_keepBest_84 : decode cX12_keepBest 84 = .ok (.iconst 0, 1) := od_3  (by decide +kernel)
theorem dX12_keepBest_85 : decode cX12_keepBest 85 = .ok (.istore 6, 2) := od_54 (n := 6) (by decide +kernel)
theorem dX12_keepBest_87 : decode cX12_keepBest 87 = .ok (.iconst 0, 1) := od_3  (by decide +kernel)
theorem dX12_keepBest_88 : decode cX12_keepBest 88 = .ok (.istore 7, 2) := od_54 (n := 7) (by decide +kernel)
theorem dX12_keepBest_90 : decode cX12_keepBest 90 = .ok (.iload 7, 2) := od_21 (n := 7) (by decide +kernel)
theorem dX12_keepBest_92 : decode cX12_keepBest 92 = .ok (.iload_n 1, 1) := od_27  (by decide +kernel)
theorem dX12_keepBest_93 : decode cX12_keepBest 93 = .ok (.if_icmp .ge 34, 3) := od_162 (a := 0) (b := 34) (by decide +kernel) (by decide +kernel)
theorem dX12_keepBest_96 : decode cX12_keepBest 96 = .ok (.iload 5, 2) := od_21 (n := 5) (by decide +kernel)
theorem dX12_keepBest_98 : decode cX12_keepBest 98 = .ok (.aload_n 0, 1) := od_42  (by decide +kernel)
theorem dX12_keepBest_99 : decode cX12_keepBest 99 = .ok (.getfield 79, 3) := od_180 (a := 0) (b := 79) (by decide +kernel) (by decide)
theorem dX12_keepBest_102 : decode cX12_keepBest 102 = .ok (.iload 7, 2) := od_21 (n := 7) (by decide +kernel)
theorem dX12_keepBest_104 : decode cX12_keepBest 104 = .ok (.iaload, 1) := od_46  (by decide +kernel)
theorem dX12_keepBest_105 : decode cX12_keepBest 105 = .ok (.iload 4, 2) := od_21 (n := 4) (by decide +kernel)
theorem dX12_keepBest_107 : decode cX12_keepBest 107 = .ok (.if_icmp .ne 10, 3) := od_160 (a := 0) (b := 10) (by decide +kernel) (by decide +kernel)
theorem dX12_keepBest_110 : decode cX12_keepBest 110 = .ok (.iconst 1, 1) := od_4  (by decide +kernel)
theorem dX12_keepBest_111 : decode cX12_keepBest 111 = .ok (.iload 7, 2) := od_21 (n := 7) (by decide +kernel)
theorem dX12_keepBest_113 : decode cX12_keepBest 113 = .ok (.ishl, 1) := od_120  (by decide +kernel)
theorem dX12_keepBest_114 : decode cX12_keepBest 114 = .ok (.goto 4, 3) := od_167 (a := 0) (b := 4) (by decide +kernel) (by decide +kernel)
theorem dX12_keepBest_117 : decode cX12_keepBest 117 = .ok (.iconst 0, 1) := od_3  (by decide +kernel)
theorem dX12_keepBest_118 : decode cX12_keepBest 118 = .ok (.ior, 1) := od_128  (by decide +kernel)
theorem dX12_keepBest_119 : decode cX12_keepBest 119 = .ok (.istore 5, 2) := od_54 (n := 5) (by decide +kernel)
theorem dX12_keepBest_121 : decode cX12_keepBest 121 = .ok (.iinc 7 1, 3) := od_132 (a := 7) (b := 1) (by decide +kernel) (by decide +kernel)
theorem dX12_keepBest_124 : decode cX12_keepBest 124 = .ok (.goto (-34), 3) := od_167 (a := 255) (b := 222) (by decide +kernel) (by decide +kernel)
theorem dX12_keepBest_127 : decode cX12_keepBest 127 = .ok (.iconst 0, 1) := od_3  (by decide +kernel)
theorem dX12_keepBest_128 : decode cX12_keepBest 128 = .ok (.istore 7, 2) := od_54 (n := 7) (by decide +kernel)
theorem dX12_keepBest_130 : decode cX12_keepBest 130 = .ok (.iload 7, 2) := od_21 (n := 7) (by decide +kernel)
theorem dX12_keepBest_132 : decode cX12_keepBest 132 = .ok (.iload_n 1, 1) := od_27  (by decide +kernel)
theorem dX12_keepBest_133 : decode cX12_keepBest 133 = .ok (.if_icmp .ge 52, 3) := od_162 (a := 0) (b := 52) (by decide +kernel) (by decide +kernel)
theorem dX12_keepBest_136 : decode cX12_keepBest 136 = .ok (.aload_n 0, 1) := od_42  (by decide +kernel)
theorem dX12_keepBest_137 : decode cX12_keepBest 137 = .ok (.getfield 79, 3) := od_180 (a := 0) (b := 79) (by decide +kernel) (by decide)
theorem dX12_keepBest_140 : decode cX12_keepBest 140 = .ok (.iload 7, 2) := od_21 (n := 7) (by decide +kernel)
theorem dX12_keepBest_142 : decode cX12_keepBest 142 = .ok (.iaload, 1) := od_46  (by decide +kernel)
theorem dX12_keepBest_143 : decode cX12_keepBest 143 = .ok (.iload 4, 2) := od_21 (n := 4) (by decide +kernel)
theorem dX12_keepBest_145 : decode cX12_keepBest 145 = .ok (.if_icmp .ne 34, 3) := od_160 (a := 0) (b := 34) (by decide +kernel) (by decide +kernel)
theorem dX12_keepBest_148 : decode cX12_keepBest 148 = .ok (.aload_n 0, 1) := od_42  (by decide +kernel)
theorem dX12_keepBest_149 : decode cX12_keepBest 149 = .ok (.getfield 64, 3) := od_180 (a := 0) (b := 64) (by decide +kernel) (by decide)
theorem dX12_keepBest_152 : decode cX12_keepBest 152 = .ok (.aload_n 0, 1) := od_42  (by decide +kernel)
theorem dX12_keepBest_153 : decode cX12_keepBest 153 = .ok (.getfield 70, 3) := od_180 (a := 0) (b := 70) (by decide +kernel) (by decide)
theorem dX12_keepBest_156 : decode cX12_keepBest 156 = .ok (.bipush 64, 2) := od_16 (a := 64) (by decide +kernel) (by decide +kernel)
theorem dX12_keepBest_158 : decode cX12_keepBest 158 = .ok (.iload 4, 2) := od_21 (n := 4) (by decide +kernel)
theorem dX12_keepBest_160 : decode cX12_keepBest 160 = .ok (.imul, 1) := od_104  (by decide +kernel)
theorem dX12_keepBest_161 : decode cX12_keepBest 161 = .ok (.iload 5, 2) := od_21 (n := 5) (by decide +kernel)
theorem dX12_keepBest_163 : decode cX12_keepBest 163 = .ok (.iadd, 1) := od_96  (by decide +kernel)
theorem dX12_keepBest_164 : decode cX12_keepBest 164 = .ok (.iaload, 1) := od_46  (by decide +kernel)
theorem dX12_keepBest_165 : decode cX12_keepBest 165 = .ok (.iconst 3, 1) := od_6  (by decide +kernel)
theorem dX12_keepBest_166 : decode cX12_keepBest 166 = .ok (.iload 7, 2) := od_21 (n := 7) (by decide +kernel)
theorem dX12_keepBest_168 : decode cX12_keepBest 168 = .ok (.imul, 1) := od_104  (by decide +kernel)
theorem dX12_keepBest_169 : decode cX12_keepBest 169 = .ok (.ishr, 1) := od_122  (by decide +kernel)
theorem dX12_keepBest_170 : decode cX12_keepBest 170 = .ok (.bipush 7, 2) := od_16 (a := 7) (by decide +kernel) (by decide +kernel)
theorem dX12_keepBest_172 : decode cX12_keepBest 172 = .ok (.iand, 1) := od_126  (by decide +kernel)
theorem dX12_keepBest_173 : decode cX12_keepBest 173 = .ok (.iload 7, 2) := od_21 (n := 7) (by decide +kernel)
theorem dX12_keepBest_175 : decode cX12_keepBest 175 = .ok (.iastore, 1) := od_79  (by decide +kernel)
theorem dX12_keepBest_176 : decode cX12_keepBest 176 = .ok (.iinc 6 1, 3) := od_132 (a := 6) (b := 1) (by decide +kernel) (by decide +kernel)
theorem dX12_keepBest_179 : decode cX12_keepBest 179 = .ok (.iinc 7 1, 3) := od_132 (a := 7) (b := 1) (by decide +kernel) (by decide +kernel)
theorem dX12_keepBest_182 : decode cX12_keepBest 182 = .ok (.goto (-52), 3) := od_167 (a := 255) (b := 204) (by decide +kernel) (by decide +kernel)
theorem dX12_keepBest_185 : decode cX12_keepBest 185 = .ok (.aload_n 0, 1) := od_42  (by decide +kernel)
theorem dX12_keepBest_186 : decode cX12_keepBest 186 = .ok (.iload 4, 2) := od_21 (n := 4) (by decide +kernel)
theorem dX12_keepBest_188 : decode cX12_keepBest 188 = .ok (.iload 6, 2) := od_21 (n := 6) (by decide +kernel)
theorem dX12_keepBest_190 : decode cX12_keepBest 190 = .ok (.iload_n 3, 1) := od_29  (by decide +kernel)
theorem dX12_keepBest_191 : decode cX12_keepBest 191 = .ok (.invokevirtual 519, 3) := od_182 (a := 2) (b := 7) (by decide +kernel) (by decide)
theorem dX12_keepBest_194 : decode cX12_keepBest 194 = .ok (.pop2, 1) := od_88  (by decide +kernel)
theorem dX12_keepBest_195 : decode cX12_keepBest 195 = .ok (.iconst 0, 1) := od_3  (by decide +kernel)
theorem dX12_keepBest_196 : decode cX12_keepBest 196 = .ok (.istore 7, 2) := od_54 (n := 7) (by decide +kernel)
theorem dX12_keepBest_198 : decode cX12_keepBest 198 = .ok (.iload 7, 2) := od_21 (n := 7) (by decide +kernel)
theorem dX12_keepBest_200 : decode cX12_keepBest 200 = .ok (.iload 6, 2) := od_21 (n := 6) (by decide +kernel)
theorem dX12_keepBest_202 : decode cX12_keepBest 202 = .ok (.if_icmp .ge 88, 3) := od_162 (a := 0) (b := 88) (by decide +kernel) (by decide +kernel)
theorem dX12_keepBest_205 : decode cX12_keepBest 205 = .ok (.aload_n 0, 1) := od_42  (by decide +kernel)
theorem dX12_keepBest_206 : decode cX12_keepBest 206 = .ok (.getfield 64, 3) := od_180 (a := 0) (b := 64) (by decide +kernel) (by decide)
theorem dX12_keepBest_209 : decode cX12_keepBest 209 = .ok (.iload 7, 2) := od_21 (n := 7) (by decide +kernel)
theorem dX12_keepBest_211 : decode cX12_keepBest 211 = .ok (.iaload, 1) := od_46  (by decide +kernel)
theorem dX12_keepBest_212 : decode cX12_keepBest 212 = .ok (.istore 8, 2) := od_54 (n := 8) (by decide +kernel)
theorem dX12_keepBest_214 : decode cX12_keepBest 214 = .ok (.aload_n 0, 1) := od_42  (by decide +kernel)
theorem dX12_keepBest_215 : decode cX12_keepBest 215 = .ok (.getfield 82, 3) := od_180 (a := 0) (b := 82) (by decide +kernel) (by decide)
theorem dX12_keepBest_218 : decode cX12_keepBest 218 = .ok (.iconst 5, 1) := od_8  (by decide +kernel)
theorem dX12_keepBest_219 : decode cX12_keepBest 219 = .ok (.iload 8, 2) := od_21 (n := 8) (by decide +kernel)
theorem dX12_keepBest_221 : decode cX12_keepBest 221 = .ok (.imul, 1) := od_104  (by decide +kernel)
theorem dX12_keepBest_222 : decode cX12_keepBest 222 = .ok (.iconst 1, 1) := od_4  (by decide +kernel)
theorem dX12_keepBest_223 : decode cX12_keepBest 223 = .ok (.iadd, 1) := od_96  (by decide +kernel)
theorem dX12_keepBest_224 : decode cX12_keepBest 224 = .ok (.iload 7, 2) := od_21 (n := 7) (by decide +kernel)
theorem dX12_keepBest_226 : decode cX12_keepBest 226 = .ok (.i2l, 1) := od_133  (by decide +kernel)
theorem dX12_keepBest_227 : decode cX12_keepBest 227 = .ok (.lastore, 1) := od_80  (by decide +kernel)
theorem dX12_keepBest_228 : decode cX12_keepBest 228 = .ok (.aload_n 0, 1) := od_42  (by decide +kernel)
theorem dX12_keepBest_229 : decode cX12_keepBest 229 = .ok (.getfield 82, 3) := od_180 (a := 0) (b := 82) (by decide +kernel) (by decide)
theorem dX12_keepBest_232 : decode cX12_keepBest 232 = .ok (.iconst 5, 1) := od_8  (by decide +kernel)
theorem dX12_keepBest_233 : decode cX12_keepBest 233 = .ok (.iload 8, 2) := od_21 (n := 8) (by decide +kernel)
theorem dX12_keepBest_235 : decode cX12_keepBest 235 = .ok (.imul, 1) := od_104  (by decide +kernel)
theorem dX12_keepBest_236 : decode cX12_keepBest 236 = .ok (.iconst 2, 1) := od_5  (by decide +kernel)
theorem dX12_keepBest_237 : decode cX12_keepBest 237 = .ok (.iadd, 1) := od_96  (by decide +kernel)
theorem dX12_keepBest_238 : decode cX12_keepBest 238 = .ok (.aload_n 0, 1) := od_42  (by decide +kernel)
theorem dX12_keepBest_239 : decode cX12_keepBest 239 = .ok (.getfield 55, 3) := od_180 (a := 0) (b := 55) (by decide +kernel) (by decide)
theorem dX12_keepBest_242 : decode cX12_keepBest 242 = .ok (.iload 8, 2) := od_21 (n := 8) (by decide +kernel)
theorem dX12_keepBest_244 : decode cX12_keepBest 244 = .ok (.iaload, 1) := od_46  (by decide +kernel)
theorem dX12_keepBest_245 : decode cX12_keepBest 245 = .ok (.i2l, 1) := od_133  (by decide +kernel)
theorem dX12_keepBest_246 : decode cX12_keepBest 246 = .ok (.lastore, 1) := od_80  (by decide +kernel)
theorem dX12_keepBest_247 : decode cX12_keepBest 247 = .ok (.aload_n 0, 1) := od_42  (by decide +kernel)
theorem dX12_keepBest_248 : decode cX12_keepBest 248 = .ok (.getfield 82, 3) := od_180 (a := 0) (b := 82) (by decide +kernel) (by decide)
theorem dX12_keepBest_251 : decode cX12_keepBest 251 = .ok (.iconst 5, 1) := od_8  (by decide +kernel)
theorem dX12_keepBest_252 : decode cX12_keepBest 252 = .ok (.iload 8, 2) := od_21 (n := 8) (by decide +kernel)
theorem dX12_keepBest_254 : decode cX12_keepBest 254 = .ok (.imul, 1) := od_104  (by decide +kernel)
theorem dX12_keepBest_255 : decode cX12_keepBest 255 = .ok (.iconst 3, 1) := od_6  (by decide +kernel)
theorem dX12_keepBest_256 : decode cX12_keepBest 256 = .ok (.iadd, 1) := od_96  (by decide +kernel)
theorem dX12_keepBest_257 : decode cX12_keepBest 257 = .ok (.aload_n 0, 1) := od_42  (by decide +kernel)
theorem dX12_keepBest_258 : decode cX12_keepBest 258 = .ok (.getfield 58, 3) := od_180 (a := 0) (b := 58) (by decide +kernel) (by decide)
theorem dX12_keepBest_261 : decode cX12_keepBest 261 = .ok (.iload 8, 2) := od_21 (n := 8) (by decide +kernel)
theorem dX12_keepBest_263 : decode cX12_keepBest 263 = .ok (.iaload, 1) := od_46  (by decide +kernel)
theorem dX12_keepBest_264 : decode cX12_keepBest 264 = .ok (.i2l, 1) := od_133  (by decide +kernel)
theorem dX12_keepBest_265 : decode cX12_keepBest 265 = .ok (.lastore, 1) := od_80  (by decide +kernel)
theorem dX12_keepBest_266 : decode cX12_keepBest 266 = .ok (.aload_n 0, 1) := od_42  (by decide +kernel)
theorem dX12_keepBest_267 : decode cX12_keepBest 267 = .ok (.getfield 82, 3) := od_180 (a := 0) (b := 82) (by decide +kernel) (by decide)
theorem dX12_keepBest_270 : decode cX12_keepBest 270 = .ok (.iconst 5, 1) := od_8  (by decide +kernel)
theorem dX12_keepBest_271 : decode cX12_keepBest 271 = .ok (.iload 8, 2) := od_21 (n := 8) (by decide +kernel)
theorem dX12_keepBest_273 : decode cX12_keepBest 273 = .ok (.imul, 1) := od_104  (by decide +kernel)
theorem dX12_keepBest_274 : decode cX12_keepBest 274 = .ok (.iconst 4, 1) := od_7  (by decide +kernel)
theorem dX12_keepBest_275 : decode cX12_keepBest 275 = .ok (.iadd, 1) := od_96  (by decide +kernel)
theorem dX12_keepBest_276 : decode cX12_keepBest 276 = .ok (.aload_n 0, 1) := od_42  (by decide +kernel)
theorem dX12_keepBest_277 : decode cX12_keepBest 277 = .ok (.getfield 61, 3) := od_180 (a := 0) (b := 61) (by decide +kernel) (by decide)
theorem dX12_keepBest_280 : decode cX12_keepBest 280 = .ok (.iload 8, 2) := od_21 (n := 8) (by decide +kernel)
theorem dX12_keepBest_282 : decode cX12_keepBest 282 = .ok (.laload, 1) := od_47  (by decide +kernel)
theorem dX12_keepBest_283 : decode cX12_keepBest 283 = .ok (.lastore, 1) := od_80  (by decide +kernel)
theorem dX12_keepBest_284 : decode cX12_keepBest 284 = .ok (.iinc 7 1, 3) := od_132 (a := 7) (b := 1) (by decide +kernel) (by decide +kernel)
theorem dX12_keepBest_287 : decode cX12_keepBest 287 = .ok (.goto (-89), 3) := od_167 (a := 255) (b := 167) (by decide +kernel) (by decide +kernel)
theorem dX12_keepBest_290 : decode cX12_keepBest 290 = .ok (.iinc 4 1, 3) := od_132 (a := 4) (b := 1) (by decide +kernel) (by decide +kernel)
theorem dX12_keepBest_293 : decode cX12_keepBest 293 = .ok (.goto (-218), 3) := od_167 (a := 255) (b := 38) (by decide +kernel) (by decide +kernel)
theorem dX12_keepBest_296 : decode cX12_keepBest 296 = .ok (.return_, 1) := od_177  (by decide +kernel)
end
section
set_option maxHeartbeats 4000000 in
set_option maxRecDepth 100000 in
theorem t_X12_keepBest (l : Launch) (dC : Nat → ClassId) (dI : Nat → Nat → Nat) (sz : Nat) (κ : Nat → ClassId) (Θ : Nat → Option Int) (τ ν : Nat → Nat) (ρ : Nat → Nat → Nat) (L : List Nat) (f : Nat → va_E) (hG : tp_G τ ν ρ L) (hT : tp_T (mo_O κ Θ) κ τ ν ρ f) (h0 : Nat) (v : Int32) (u : Int32) (a : Int32) (x : Int) (b : Int) (ht_h0 : τ h0 = 13) (hbb : 0 ≤ b ∧ b ≤ 1000) (hJ : mo_RI x b (mo_R (mo_i (f (ρ h0 2))))) (hv6 : 0 ≤ v.toInt ∧ v.toInt ≤ 6) (hu3 : 0 ≤ u.toInt ∧ u.toInt ≤ 3) (hc10 : v.toInt = (mo_R (mo_i (f (ρ h0 2)))) (10)) (hs1 : u.toInt ≤ (mo_R (mo_i (f (ρ h0 2)))) (1)) (hBG : mo_BG (mo_R (mo_i (f (ρ h0 49)))) (mo_RL (mo_l (f (ρ h0 43)))) v.toInt u.toInt) (hTB : mo_TB (mo_RL (mo_l (f (ρ h0 43)))) (mo_R (mo_i (f (ρ h0 44)))) u.toInt 0 (mo_P2 v.toInt)) : Met l yX12_keepBest wqX12_keepBest ({ frames := 8, cells := 0, slots := 0, locals := 2800 }) (va_Pc [.ref h0, .int v, .int u, .int a] (pz_B dC dI (tp_K κ) (va_pl L f) sz)) (va_Qv (fun (f1 : Nat → va_E) => tp_T (mo_O κ Θ) κ τ ν ρ f1 ∧ tp_F τ [13, 69, 70, 71, 72, 80] f f1 ∧ True) (fun (f1 : Nat → va_E) (t : State) => pz_E dC dI (tp_K κ) (va_A (va_pl L f) sz) (va_pl L f1) t) (va_A (va_pl L f) sz)) 0 0 (va_A (va_pl L f) sz) := by
  refine Met.ofW (cc := cX12_keepBest) (maxL := 9) (ret := none) (by decide) rfl ?_
  intro p e s m args below meth c s₁ B hml hv
  obtain ⟨rfl, hsz, hP, hK, hD0, hN⟩ := hv
  have hx := B.exec
  have hb := B.bytes
  have hr := B.returns
  have hts := fun (w : Cond) (h : w ∈ WALL) => atoms_spec (ws := wqX12_keepBest) B.pre w (List.mem_cons_of_mem _ h)
  have hown : s.vm.findClass RX12 = some m.cls := findClass_of_methodNamed B.named
  have hlocks := B.notSynchronized
  subst hsz
  have hD := hD0.self (sz := s.heap.size)
  generalize hAe : va_A (va_pl L f) s.heap.size = A at hD ⊢
  have hA : ∀ q : Nat, s.heap.size ≤ q → A q := fun q h => by rw [← hAe]; exact Or.inr h
  have hS : va_S A s.heap s.heap [] := va_S.rf
  have hR : tp_F τ [13, 69, 70, 71, 72, 80] f f := tp_F.rf
  have hl := lv_entry ([.ref h0, .int v, .int u, .int a]) (n := 9) (Nat.le_of_ble_eq_true rfl)
  rw [lg_entry_eq]
  generalize (lg_sl ([.ref h0, .int v, .int u, .int a]) ++ List.replicate (9 - (lg_sl ([.ref h0, .int v, .int u, .int a])).length) Slot.unset).toArray = ls at hl ⊢
  have hl : lv_has ls 9 [(0, .ref h0), (1, .int v), (2, .int u), (3, .int a)] := hl
  refine tgk_13 hG ht_h0 (fun y1 y2 y3 y4 y5 y6 y7 y8 y9 y10 y11 y12 y13 y14 y15 y16 y17 y18 y19 y20 y21 y22 y23 y24 y25 => ?_)
  refine tpk_32 hT y1 (fun g27 hf_o26 => ?_)
  have hI : mo_RI x b (mo_R g27) := by have q9 := hJ; rw [hf_o26, mo_i1] at q9; exact q9
  rw [hf_o26, mo_i1] at hc10
  rw [hf_o26, mo_i1] at hs1
  refine tpk_74 hT y19 (fun g29 hf_o28 => ?_)
  have tf30 : mo_hd (mo_i (f (ρ h0 44)) = g29) := tfa_i hf_o28
  refine tpk_79 hT y22 (fun g32 hf_o31 => ?_)
  have tf33 : mo_hd (mo_i (f (ρ h0 49)) = g32) := tfa_i hf_o31
  refine tpk_73 hT y18 (fun g35 hf_o34 => ?_)
  have tf36 : mo_hd (mo_l (f (ρ h0 43)) = g35) := tfa_l hf_o34
  replace hBG : mo_BG (mo_R g32) (mo_RL g35) v.toInt u.toInt := by have q9 := hBG; first | (simp only [(mo_un tf33), (mo_un tf36), mo_i1, mo_l1] at q9; exact q9) | (rw [(mo_un tf33), (mo_un tf36)] at q9; exact q9)
  replace hTB : mo_TB (mo_RL g35) (mo_R g29) u.toInt 0 (mo_P2 v.toInt) := by have q9 := hTB; first | (simp only [(mo_un tf36), (mo_un tf30), mo_i1, mo_l1] at q9; exact q9) | (rw [(mo_un tf36), (mo_un tf30)] at q9; exact q9)
  have := hI.k1; have hk10 := hI.k10
  have hP2 := mo_P2_le v.toInt
  refine lv_aload_n hx hb dX12_keepBest_0 rfl (lv_at hl 0 rfl) ?_
  refine lv_iconst (v := 1) hx hb dX12_keepBest_1 (by decide) ?_
  refine tpk_13 hT ht_h0 (fun o37_x0 o37_x1 o37_x7 o37_x9 o37_x10 o37_x11 o37_x12 o37_x13 o37_x14 o37_x15 o37_x16 o37_x17 o37_x18 o37_x19 o37_x20 o37_x22 o37_x25 o37_x28 o37_x29 o37_x32 o37_x33 o37_x34 o37_x35 o37_x36 o37_x37 o37_x38 o37_x47 o37_x48 hf_o37 ro37_0 ro37_1 ro37_2 ro37_3 ro37_4 ro37_5 ro37_6 ro37_7 ro37_8 ro37_9 ro37_10 ro37_11 ro37_12 ro37_13 ro37_14 => ?_)
  refine tpk_pos (tp_in hG ht_h0 (by decide)) hf_o37 (fun q38 eq38 => ?_)
  refine va_put (D := (dC, dI)) (ci := 12) (v := .int 1) (ty := .boolean) (C := RX12) (T := TX12) (N := 53) hx hb hts hfX12 tyX12 tyX12_ok nmX12 hown hK hP hD hS q38 eq38 rfl 47 (by decide) (hts (.fieldLink RX12 538 "ColdShipsModel" "hasBest" "Z") wa_1459) (fun _ h9 => h9) rfl (tyX12_ok 47 (by decide)) rfl rfl (Nat.le_of_ble_eq_true rfl) dX12_keepBest_2 (tp_k (.inr (12, [.int o37_x0, .int o37_x1, .ref (ρ h0 2), .ref (ρ h0 3), .ref (ρ h0 4), .ref (ρ h0 5), .ref (ρ h0 6), .int o37_x7, .ref (ρ h0 8), .int o37_x9, .int o37_x10, .int o37_x11, .int o37_x12, .long o37_x13, .int o37_x14, .int o37_x15, .int o37_x16, .int o37_x17, .int o37_x18, .int o37_x19, .int o37_x20, .ref (ρ h0 21), .int o37_x22, .ref (ρ h0 23), .ref (ρ h0 24), .int o37_x25, .ref (ρ h0 26), .ref (ρ h0 27), .int o37_x28, .int o37_x29, .ref (ρ h0 30), .ref (ρ h0 31), .int o37_x32, .long o37_x33, .long o37_x34, .long o37_x35, .int o37_x36, .int o37_x37, .int o37_x38, .ref (ρ h0 39), .ref (ρ h0 40), .ref (ρ h0 41), .ref (ρ h0 42), .ref (ρ h0 43), .ref (ρ h0 44), .ref (ρ h0 45), .ref (ρ h0 46), .int 1, .int o37_x48, .ref (ρ h0 49), .ref (ρ h0 50), .ref (ρ h0 51), .ref (ρ h0 52)])) hD (tp_in hG ht_h0 (by decide)) eq38 (fun f39 H locs hP hD hS g41 k40 => ?_))
  have hT := hT.up ht_h0 g41 k40 ⟨_, _, _, _, _, _, _, _, _, _, _, _, _, _, _, _, _, _, _, _, _, _, _, _, _, _, _, _, rfl, ro37_0, ro37_1, ro37_2, ro37_3, ro37_4, ro37_5, ro37_6, ro37_7, ro37_8, ro37_9, ro37_10, ro37_11, (by decide), ro37_13, ro37_14⟩
  have hR := hR.up ht_h0 (by decide) k40
  refine lv_aload_n hx hb dX12_keepBest_5 rfl (lv_at hl 0 rfl) ?_
  refine lv_iload_n hx hb dX12_keepBest_6 rfl (lv_at hl 1 rfl) ?_
  refine tpk_pos (tp_in hG ht_h0 (by decide)) g41 (fun q42 eq42 => ?_)
  refine va_put (D := (dC, dI)) (ci := 12) (v := .int v) (ty := .int) (C := RX12) (T := TX12) (N := 53) hx hb hts hfX12 tyX12 tyX12_ok nmX12 hown hK hP hD hS q42 eq42 rfl 48 (by decide) (hts (.fieldLink RX12 541 "ColdShipsModel" "bestCargoes" "I") wa_1460) (fun _ h9 => h9) rfl (tyX12_ok 48 (by decide)) rfl rfl (Nat.le_of_ble_eq_true rfl) dX12_keepBest_7 (tp_k (.inr (12, [.int o37_x0, .int o37_x1, .ref (ρ h0 2), .ref (ρ h0 3), .ref (ρ h0 4), .ref (ρ h0 5), .ref (ρ h0 6), .int o37_x7, .ref (ρ h0 8), .int o37_x9, .int o37_x10, .int o37_x11, .int o37_x12, .long o37_x13, .int o37_x14, .int o37_x15, .int o37_x16, .int o37_x17, .int o37_x18, .int o37_x19, .int o37_x20, .ref (ρ h0 21), .int o37_x22, .ref (ρ h0 23), .ref (ρ h0 24), .int o37_x25, .ref (ρ h0 26), .ref (ρ h0 27), .int o37_x28, .int o37_x29, .ref (ρ h0 30), .ref (ρ h0 31), .int o37_x32, .long o37_x33, .long o37_x34, .long o37_x35, .int o37_x36, .int o37_x37, .int o37_x38, .ref (ρ h0 39), .ref (ρ h0 40), .ref (ρ h0 41), .ref (ρ h0 42), .ref (ρ h0 43), .ref (ρ h0 44), .ref (ρ h0 45), .ref (ρ h0 46), .int 1, .int v, .ref (ρ h0 49), .ref (ρ h0 50), .ref (ρ h0 51), .ref (ρ h0 52)])) hD (tp_in hG ht_h0 (by decide)) eq42 (fun f43 H locs hP hD hS g45 k44 => ?_))
  have hT := hT.up ht_h0 g45 k44 ⟨_, _, _, _, _, _, _, _, _, _, _, _, _, _, _, _, _, _, _, _, _, _, _, _, _, _, _, _, rfl, ro37_0, ro37_1, ro37_2, ro37_3, ro37_4, ro37_5, ro37_6, ro37_7, ro37_8, ro37_9, ro37_10, ro37_11, (by decide), (by omega), ro37_14⟩
  have hR := hR.up ht_h0 (by decide) k44
  refine lv_iconst (v := 0) hx hb dX12_keepBest_10 (by decide) ?_
  refine lv_istore (lv' := [(4, .int 0), (0, .ref h0), (1, .int v), (2, .int u), (3, .int a)]) hx hb dX12_keepBest_11 hl (by decide) rfl (fun ls hl => ?_)
  have hf_46 : f39 (ρ h0 2) = .inl (κ 0, 12967, .inl g27) := (k40 _ (tp_ne y1 ht_h0 (by decide))).trans hf_o26
  have hf_47 : f43 (ρ h0 2) = .inl (κ 0, 12967, .inl g27) := (k44 _ (tp_ne y1 ht_h0 (by decide))).trans hf_46
  have hf_49 : f39 (ρ h0 49) = .inl (κ 0, 6, .inl g32) := (k40 _ (tp_ne y22 ht_h0 (by decide))).trans hf_o31
  have hf_50 : f43 (ρ h0 49) = .inl (κ 0, 6, .inl g32) := (k44 _ (tp_ne y22 ht_h0 (by decide))).trans hf_49
  have hf_51 : f39 (ρ h0 43) = .inl (κ 1, 192, .inr (.inl g35)) := (k40 _ (tp_ne y18 ht_h0 (by decide))).trans hf_o34
  have hf_52 : f43 (ρ h0 43) = .inl (κ 1, 192, .inr (.inl g35)) := (k44 _ (tp_ne y18 ht_h0 (by decide))).trans hf_51
  have hf_53 : f39 (ρ h0 44) = .inl (κ 0, 192, .inl g29) := (k40 _ (tp_ne y19 ht_h0 (by decide))).trans hf_o28
  have hf_54 : f43 (ρ h0 44) = .inl (κ 0, 192, .inl g29) := (k44 _ (tp_ne y19 ht_h0 (by decide))).trans hf_53
  refine pz_loop (fun n0 H locs ls => ∃ f59 : Nat → va_E, ∃ w48 : Int32, n0 = (6 - (w48.toInt)).toNat ∧ tp_T (mo_O κ Θ) κ τ ν ρ f59 ∧ tp_F τ [13, 69, 70, 71, 72, 80] f f59 ∧ f59 (ρ h0 2) = .inl (κ 0, 12967, .inl g27) ∧ f59 (ρ h0 49) = .inl (κ 0, 6, .inl g32) ∧ f59 (ρ h0 43) = .inl (κ 1, 192, .inr (.inl g35)) ∧ f59 (ρ h0 44) = .inl (κ 0, 192, .inl g29) ∧ (0 ≤ w48.toInt ∧ w48.toInt ≤ 6) ∧ va_P (dC, dI) vwCl (va_pl L f59) H ∧ va_D A (va_pl L f59) ∧ va_S A s.heap H locs ∧ lv_has ls 9 [(4, .int w48), (0, .ref h0), (1, .int v), (2, .int u), (3, .int a)]) ?_ _ _ _ _ ⟨f43, 0, rfl, hT, hR, hf_47, hf_50, hf_52, hf_54, (by have : (0 : Int32).toInt = 0 := rfl; omega), hP, hD, hS, lv_sub hl [0, 1, 2, 3, 4] rfl⟩
  intro n0 H locs ls hI ih61
  refine Exists.elim hI (fun f59 hE90 => Exists.elim hE90 (fun w48 hE91 => tn_12 hE91 (fun hn62 hT hR hk55k hk56k hk57k hk58k rw48 hP hD hS hl => ?_)))
  clear hE91 hE90 hI
  refine lv_iload hx hb dX12_keepBest_13 (lv_at hl 0 rfl) ?_
  refine lv_iload_n hx hb dX12_keepBest_15 rfl (lv_at hl 2 rfl) ?_
  refine lv_icmp_ge (tgt := 72) hx hb dX12_keepBest_16 (by decide) (fun c63 => ?_) (fun c63 => ?_)
  · have ic63 : w48.toInt ≥ v.toInt := zi_ge rfl rfl c63
    refine lv_iconst (v := 0) hx hb dX12_keepBest_72 (by decide) ?_
    refine lv_istore (lv' := [(4, .int 0), (0, .ref h0), (1, .int v), (2, .int u), (3, .int a)]) hx hb dX12_keepBest_73 hl (by decide) rfl (fun ls hl => ?_)
    refine pz_loop (fun n0 H locs ls => ∃ f69 : Nat → va_E, ∃ w64 : Int32, n0 = (3 - (w64.toInt)).toNat ∧ tp_T (mo_O κ Θ) κ τ ν ρ f69 ∧ tp_F τ [13, 69, 70, 71, 72, 80] f f69 ∧ f69 (ρ h0 2) = .inl (κ 0, 12967, .inl g27) ∧ f69 (ρ h0 49) = .inl (κ 0, 6, .inl g32) ∧ f69 (ρ h0 43) = .inl (κ 1, 192, .inr (.inl g35)) ∧ f69 (ρ h0 44) = .inl (κ 0, 192, .inl g29) ∧ (0 ≤ w64.toInt ∧ w64.toInt ≤ 3) ∧ va_P (dC, dI) vwCl (va_pl L f69) H ∧ va_D A (va_pl L f69) ∧ va_S A s.heap H locs ∧ lv_has ls 9 [(4, .int w64), (0, .ref h0), (1, .int v), (2, .int u), (3, .int a)]) ?_ _ _ _ _ ⟨f59, 0, rfl, hT, hR, hk55k, hk56k, hk57k, hk58k, (by have : (0 : Int32).toInt = 0 := rfl; omega), hP, hD, hS, lv_sub hl [0, 1, 2, 3, 4] rfl⟩
    intro n0 H locs ls hI ih71
    refine Exists.elim hI (fun f69 hE90 => Exists.elim hE90 (fun w64 hE91 => tn_12 hE91 (fun hn72 hT hR hk65k hk66k hk67k hk68k rw64 hP hD hS hl => ?_)))
    clear hE91 hE90 hI
    refine lv_iload hx hb dX12_keepBest_75 (lv_at hl 0 rfl) ?_
    refine lv_iload_n hx hb dX12_keepBest_77 rfl (lv_at hl 3 rfl) ?_
    refine lv_icmp_ge (tgt := 296) hx hb dX12_keepBest_78 (by decide) (fun c73 => ?_) (fun c73 => ?_)
    · have ic73 : w64.toInt ≥ u.toInt := zi_ge rfl rfl c73
      exact W.vret hx hb hr (fun t ht hW => ⟨⟨f69, rfl, ⟨hT, hR, trivial⟩, by rw [ht]; exact hP, va_K.moved hW.alike hK, hD⟩, hS.F ht⟩) hS.2.2 dX12_keepBest_296
    · have ic73 : w64.toInt < u.toInt := zi_gef rfl rfl c73
      refine lv_iconst (v := 0) hx hb dX12_keepBest_81 (by decide) ?_
      refine lv_istore (lv' := [(5, .int 0), (4, .int w64), (0, .ref h0), (1, .int v), (2, .int u), (3, .int a)]) hx hb dX12_keepBest_82 hl (by decide) rfl (fun ls hl => ?_)
      refine lv_iconst (v := 0) hx hb dX12_keepBest_84 (by decide) ?_
      refine lv_istore (lv' := [(6, .int 0), (5, .int 0), (4, .int w64), (0, .ref h0), (1, .int v), (2, .int u), (3, .int a)]) hx hb dX12_keepBest_85 hl (by decide) rfl (fun ls hl => ?_)
      refine lv_iconst (v := 0) hx hb dX12_keepBest_87 (by decide) ?_
      refine lv_istore (lv' := [(7, .int 0), (6, .int 0), (5, .int 0), (4, .int w64), (0, .ref h0), (1, .int v), (2, .int u), (3, .int a)]) hx hb dX12_keepBest_88 hl (by decide) rfl (fun ls hl => ?_)
      have tf74 : mo_hd (mo_i (f69 (ρ h0 49)) = g32) := tfa_i hk66k
      refine pz_loop (fun n0 H locs ls => ∃ w75 : Int32, ∃ w76 : Int32, n0 = (6 - (w75.toInt)).toNat ∧ (0 ≤ w75.toInt ∧ w75.toInt ≤ 6) ∧ (0 ≤ w76.toInt ∧ w76.toInt ≤ 63) ∧ ((w75.toInt) ≤ v.toInt) ∧ (∀ d, 0 ≤ d → d < 6 → (mo_bt (w76.toInt) d ↔ (d < (w75.toInt) ∧ (mo_R g32) d = w64.toInt))) ∧ va_P (dC, dI) vwCl (va_pl L f69) H ∧ va_D A (va_pl L f69) ∧ va_S A s.heap H locs ∧ lv_has ls 9 [(7, .int w75), (6, .int 0), (5, .int w76), (4, .int w64), (0, .ref h0), (1, .int v), (2, .int u), (3, .int a)]) ?_ _ _ _ _ ⟨0, 0, rfl, (by have : (0 : Int32).toInt = 0 := rfl; have : (0 : Int32).toInt = 0 := rfl; omega), (by have : (0 : Int32).toInt = 0 := rfl; have : (0 : Int32).toInt = 0 := rfl; omega), (by have : (0 : Int32).toInt = 0 := rfl; have : (0 : Int32).toInt = 0 := rfl; omega), (fun d d0 d1 => ⟨fun q9 => absurd q9 (by have : (0 : Int32).toInt = 0 := rfl; rw [this]; exact mo_bt0 d), fun q9 => by have : (0 : Int32).toInt = 0 := rfl; omega⟩), hP, hD, hS, lv_sub hl [0, 1, 2, 3, 4, 5, 6, 7] rfl⟩
      intro n0 H locs ls hI ih79
      refine Exists.elim hI (fun w75 hE90 => Exists.elim hE90 (fun w76 hE91 => tn_9 hE91 (fun hn80 rw75 rw76 k77 k78 hP hD hS hl => ?_)))
      clear hE91 hE90 hI
      refine lv_iload hx hb dX12_keepBest_90 (lv_at hl 0 rfl) ?_
      refine lv_iload_n hx hb dX12_keepBest_92 rfl (lv_at hl 5 rfl) ?_
      refine lv_icmp_ge (tgt := 127) hx hb dX12_keepBest_93 (by decide) (fun c81 => ?_) (fun c81 => ?_)
      · have ic81 : w75.toInt ≥ v.toInt := zi_ge rfl rfl c81
        have tf82 : mo_hd (mo_i (f69 (ρ h0 44)) = g29) := tfa_i hk68k
        have hbits : ∀ d, 0 ≤ d → d < 6 → (mo_bt w76.toInt d ↔ (d < v.toInt ∧ (mo_R g32) d = w64.toInt)) := fun d d0 d1 => by rw [k78 d d0 d1]; omega
        obtain ⟨x9, hx9, hx9b, hx9L⟩ := hBG.2 w64.toInt (by omega) (by omega)
        obtain rfl : x9 = w76.toInt := mo_bt_eq (by omega) (by omega) (by omega) (by omega) (fun d d0 d1 => (hx9b d d0 d1).trans (hbits d d0 d1).symm)
        have hGD := (hTB w64.toInt w76.toInt (by omega) (by omega) (by omega) (by omega)).1 hx9L
        have htop : ∀ d, 0 ≤ d → d < 6 → mo_bt w76.toInt d → d < v.toInt := fun d d0 d1 q9 => ((hbits d d0 d1).mp q9).1
        refine lv_iconst (v := 0) hx hb dX12_keepBest_127 (by decide) ?_
        refine lv_istore (lv' := [(7, .int 0), (6, .int 0), (5, .int w76), (4, .int w64), (0, .ref h0), (1, .int v), (2, .int u), (3, .int a)]) hx hb dX12_keepBest_128 hl (by decide) rfl (fun ls hl => ?_)
        refine tpk_72 hT y17 (fun g93 hf_o92 => ?_)
        have tf94 : mo_hd (mo_i (f69 (ρ h0 42)) = g93) := tfa_i hf_o92
        refine pz_loop (fun n0 H locs ls => ∃ f95 : Nat → va_E, ∃ w83 : Int32, ∃ w84 : Int32, n0 = (6 - (w83.toInt)).toNat ∧ tp_T (mo_O κ Θ) κ τ ν ρ f95 ∧ tp_F τ [13, 69, 70, 71, 72, 80] f f95 ∧ f95 (ρ h0 2) = .inl (κ 0, 12967, .inl g27) ∧ f95 (ρ h0 49) = .inl (κ 0, 6, .inl g32) ∧ f95 (ρ h0 43) = .inl (κ 1, 192, .inr (.inl g35)) ∧ f95 (ρ h0 44) = .inl (κ 0, 192, .inl g29) ∧ ((mo_KL (mo_R (mo_i (f95 (ρ h0 42)))) ((mo_R g29) (64 * w64.toInt + w76.toInt)) w76.toInt (w83.toInt) v.toInt)) ∧ (0 ≤ w83.toInt ∧ w83.toInt ≤ 6) ∧ (0 ≤ w84.toInt ∧ w84.toInt ≤ 6) ∧ ((w84.toInt) ≤ (w83.toInt)) ∧ ((w83.toInt) ≤ v.toInt) ∧ ((w84.toInt) = mo_cn w76.toInt (w83.toInt)) ∧ va_P (dC, dI) vwCl (va_pl L f95) H ∧ va_D A (va_pl L f95) ∧ va_S A s.heap H locs ∧ lv_has ls 9 [(7, .int w83), (6, .int w84), (5, .int w76), (4, .int w64), (0, .ref h0), (1, .int v), (2, .int u), (3, .int a)]) ?_ _ _ _ _ ⟨f69, 0, 0, rfl, hT, hR, hk65k, hk66k, hk67k, hk68k, (by first | (simp only [(mo_un tf94), mo_i1, mo_l1]; exact (show mo_KL (mo_R g93) ((mo_R g29) (64 * w64.toInt + w76.toInt)) w76.toInt (0 : Int32).toInt v.toInt from (fun d d0 d1 => absurd d1 (by have : (0 : Int32).toInt = 0 := rfl; omega)))) | (rw [(mo_un tf94)]; exact (show mo_KL (mo_R g93) ((mo_R g29) (64 * w64.toInt + w76.toInt)) w76.toInt (0 : Int32).toInt v.toInt from (fun d d0 d1 => absurd d1 (by have : (0 : Int32).toInt = 0 := rfl; omega))))), (by have : (0 : Int32).toInt = 0 := rfl; have : (0 : Int32).toInt = 0 := rfl; omega), (by have : (0 : Int32).toInt = 0 := rfl; have : (0 : Int32).toInt = 0 := rfl; omega), (by have : (0 : Int32).toInt = 0 := rfl; have : (0 : Int32).toInt = 0 := rfl; omega), (by have : (0 : Int32).toInt = 0 := rfl; have : (0 : Int32).toInt = 0 := rfl; omega), (by have : (0 : Int32).toInt = 0 := rfl; rw [this]; exact (mo_cn0 _).symm), hP, hD, hS, lv_sub hl [0, 1, 2, 3, 4, 5, 6, 7] rfl⟩
        intro n0 H locs ls hI ih97
        refine Exists.elim hI (fun f95 hE90 => Exists.elim hE90 (fun w83 hE91 => Exists.elim hE91 (fun w84 hE92 => tn_17 hE92 (fun hn98 hT hR hk88k hk89k hk90k hk91k jf99 rw83 rw84 k85 k86 k87 hP hD hS hl => ?_))))
        clear hE92 hE91 hE90 hI
        refine tpk_72 hT y17 (fun g101 hf_o100 => ?_)
        have tf102 : mo_hd (mo_i (f95 (ρ h0 42)) = g101) := tfa_i hf_o100
        replace jf99 : mo_KL (mo_R g101) ((mo_R g29) (64 * w64.toInt + w76.toInt)) w76.toInt (w83.toInt) v.toInt := by have q9 := jf99; first | (simp only [(mo_un tf102), mo_i1, mo_l1] at q9; exact q9) | (rw [(mo_un tf102)] at q9; exact q9)
        refine lv_iload hx hb dX12_keepBest_130 (lv_at hl 0 rfl) ?_
        refine lv_iload_n hx hb dX12_keepBest_132 rfl (lv_at hl 5 rfl) ?_
        refine lv_icmp_ge (tgt := 185) hx hb dX12_keepBest_133 (by decide) (fun c103 => ?_) (fun c103 => ?_)
        · have ic103 : w83.toInt ≥ v.toInt := zi_ge rfl rfl c103
          have hLN := jf99.line (n := w84.toInt) hGD (by omega) (by rw [mo_cn_top (by omega) htop]; have q9 := k87; rw [show w83.toInt = v.toInt by omega] at q9; exact q9) htop
          refine lv_aload_n hx hb dX12_keepBest_185 rfl (lv_at hl 4 rfl) ?_
          refine lv_iload hx hb dX12_keepBest_186 (lv_at hl 3 rfl) ?_
          refine lv_iload hx hb dX12_keepBest_188 (lv_at hl 1 rfl) ?_
          refine lv_iload_n hx hb dX12_keepBest_190 rfl (lv_at hl 7 rfl) ?_
          refine tpk_13 hT ht_h0 (fun o104_x0 o104_x1 o104_x7 o104_x9 o104_x10 o104_x11 o104_x12 o104_x13 o104_x14 o104_x15 o104_x16 o104_x17 o104_x18 o104_x19 o104_x20 o104_x22 o104_x25 o104_x28 o104_x29 o104_x32 o104_x33 o104_x34 o104_x35 o104_x36 o104_x37 o104_x38 o104_x47 o104_x48 hf_o104 ro104_0 ro104_1 ro104_2 ro104_3 ro104_4 ro104_5 ro104_6 ro104_7 ro104_8 ro104_9 ro104_10 ro104_11 ro104_12 ro104_13 ro104_14 => ?_)
          refine tpk_pos (tp_in hG ht_h0 (by decide)) hf_o104 (fun q105 eq105 => ?_)
          have hFc := tp_fr hD hS hA
          refine va_calll (va_runV (As := [.int w64, .int w84, .int a]) (rest := []) ⟨hx, hb, hml, hown, hts⟩ (t_X12_sailRow l dC dI _ κ Θ τ ν ρ L f95 hG hT h0 w64 w84 a x b ht_h0 (by first | decide | omega) (by omega) (by rw [hk88k, mo_i1]; exact hI) (by first | (simp only [hk88k, hf_o26, mo_i1]; omega) | (simp only [hk88k, hf_o26, mo_i1]; trivial) | (simp only [hk88k, hf_o26, mo_i1]; done) | omega) (by first | (simp only [(mo_un tf102), hk88k, mo_i1, mo_l1]; exact (show ∀ j, 0 ≤ j → j < w84.toInt → 0 ≤ (mo_R g101) j ∧ (mo_R g101) j < (mo_R g27) 10 from (fun j j0 j1 => by have q9 := hLN j j0 j1; omega))) | (rw [(mo_un tf102), hk88k]; exact (show ∀ j, 0 ≤ j → j < w84.toInt → 0 ≤ (mo_R g101) j ∧ (mo_R g101) j < (mo_R g27) 10 from (fun j j0 j1 => by have q9 := hLN j j0 j1; omega))))) (cwV 3 hts gX12_keepBest_X12_sailRow rfl rfl rfl ⟨rfl, pd_X12_sailRow⟩ ⟨Nat.le_of_ble_eq_true rfl, Nat.le_of_ble_eq_true rfl⟩) ⟨pz_blind, va_recv hK hP (ci := 12) (q0 := q105) rfl eq105, pz_pre hP hK hD hN⟩ rfl rfl hl.1 rfl (lv_room (Nat.le_of_ble_eq_true rfl)) dX12_keepBest_191 ⟨Nat.le_of_ble_eq_true rfl, Nat.le_of_ble_eq_true rfl⟩) hS (fun q _ h => hFc q h) hFc (fun r106 f108 t H1 locs ht hvm hw107 hB hz1 hk1 hS => ?_)
          refine tn_4 hw107 (fun hT hF109 hw107r hw107p => ?_); clear hw107
          have hR := hR.then hF109 (by decide)
          have hP := hB.1; rw [ht] at hP; have hD := tp_ad f108 hD; clear hB hFc hz1 hk1; subst ht; generalize t.heap = H at hP hS ⊢
          refine lv_pop2_2 hx hb dX12_keepBest_194 rfl ?_
          refine lv_iconst (v := 0) hx hb dX12_keepBest_195 (by decide) ?_
          refine lv_istore (lv' := [(7, .int 0), (6, .int w84), (5, .int w76), (4, .int w64), (0, .ref h0), (1, .int v), (2, .int u), (3, .int a)]) hx hb dX12_keepBest_196 hl (by decide) rfl (fun ls hl => ?_)
          have hf_110 : f108 (ρ h0 2) = .inl (κ 0, 12967, .inl g27) := (hF109 _ (by rw [tp_iu y1]; decide)).trans hk88k
          have hf_112 : f108 (ρ h0 49) = .inl (κ 0, 6, .inl g32) := (hF109 _ (by rw [tp_iu y22]; decide)).trans hk89k
          have hf_113 : f108 (ρ h0 43) = .inl (κ 1, 192, .inr (.inl g35)) := (hF109 _ (by rw [tp_iu y18]; decide)).trans hk90k
          have hf_114 : f108 (ρ h0 44) = .inl (κ 0, 192, .inl g29) := (hF109 _ (by rw [tp_iu y19]; decide)).trans hk91k
          have hf_115 : f108 (ρ h0 42) = .inl (κ 0, 6, .inl g101) := (hF109 _ (by rw [tp_iu y17]; decide)).trans hf_o100
          refine pz_loop (fun n0 H locs ls => ∃ f121 : Nat → va_E, ∃ w111 : Int32, n0 = (6 - (w111.toInt)).toNat ∧ tp_T (mo_O κ Θ) κ τ ν ρ f121 ∧ tp_F τ [13, 69, 70, 71, 72, 80] f f121 ∧ f121 (ρ h0 2) = .inl (κ 0, 12967, .inl g27) ∧ f121 (ρ h0 49) = .inl (κ 0, 6, .inl g32) ∧ f121 (ρ h0 43) = .inl (κ 1, 192, .inr (.inl g35)) ∧ f121 (ρ h0 44) = .inl (κ 0, 192, .inl g29) ∧ f121 (ρ h0 42) = .inl (κ 0, 6, .inl g101) ∧ (0 ≤ w111.toInt ∧ w111.toInt ≤ 6) ∧ va_P (dC, dI) vwCl (va_pl L f121) H ∧ va_D A (va_pl L f121) ∧ va_S A s.heap H locs ∧ lv_has ls 9 [(7, .int w111), (6, .int w84), (5, .int w76), (4, .int w64), (0, .ref h0), (1, .int v), (2, .int u), (3, .int a)]) ?_ _ _ _ _ ⟨f108, 0, rfl, hT, hR, hf_110, hf_112, hf_113, hf_114, hf_115, (by have : (0 : Int32).toInt = 0 := rfl; omega), hP, hD, hS, lv_sub hl [0, 1, 2, 3, 4, 5, 6, 7] rfl⟩
          intro n0 H locs ls hI ih123
          refine Exists.elim hI (fun f121 hE90 => Exists.elim hE90 (fun w111 hE91 => tn_13 hE91 (fun hn124 hT hR hk116k hk117k hk118k hk119k hk120k rw111 hP hD hS hl => ?_)))
          clear hE91 hE90 hI
          refine lv_iload hx hb dX12_keepBest_198 (lv_at hl 0 rfl) ?_
          refine lv_iload hx hb dX12_keepBest_200 (lv_at hl 1 rfl) ?_
          refine lv_icmp_ge (tgt := 290) hx hb dX12_keepBest_202 (by decide) (fun c125 => ?_) (fun c125 => ?_)
          · have ic125 : w111.toInt ≥ w84.toInt := zi_ge rfl rfl c125
            obtain ⟨z126, ez126⟩ : ∃ y : Int32, y = w64 + 1 := ⟨_, rfl⟩
            refine lv_iinc (v := z126) (lv' := [(4, .int z126), (7, .int w111), (6, .int w84), (5, .int w76), (0, .ref h0), (1, .int v), (2, .int u), (3, .int a)]) hx hb dX12_keepBest_290 hl (k := 3) rfl (by rw [ez126]; rfl) (by decide) rfl (fun ls hl => ?_)
            have iz126 : z126.toInt = w64.toInt + 1 := zi_add ez126 rfl rfl (by omega) (by omega)
            refine lv_goto (tgt := 75) hx hb dX12_keepBest_293 (by decide) ?_
            exact ih71 _ _ _ _ (by rw [hn72]; omega) ⟨f121, z126, rfl, hT, hR, hk116k, hk117k, hk118k, hk119k, (by omega), hP, hD, hS, lv_sub hl [0, 4, 5, 6, 7] rfl⟩
          · have ic125 : w111.toInt < w84.toInt := zi_gef rfl rfl c125
            refine lv_aload_n hx hb dX12_keepBest_205 rfl (lv_at hl 4 rfl) ?_
            refine tpk_13 hT ht_h0 (fun o127_x0 o127_x1 o127_x7 o127_x9 o127_x10 o127_x11 o127_x12 o127_x13 o127_x14 o127_x15 o127_x16 o127_x17 o127_x18 o127_x19 o127_x20 o127_x22 o127_x25 o127_x28 o127_x29 o127_x32 o127_x33 o127_x34 o127_x35 o127_x36 o127_x37 o127_x38 o127_x47 o127_x48 hf_o127 ro127_0 ro127_1 ro127_2 ro127_3 ro127_4 ro127_5 ro127_6 ro127_7 ro127_8 ro127_9 ro127_10 ro127_11 ro127_12 ro127_13 ro127_14 => ?_)
            refine tpk_pos (tp_in hG ht_h0 (by decide)) hf_o127 (fun q128 eq128 => ?_)
            refine va_get (D := (dC, dI)) (ci := 12) (v := .ref (ρ h0 42)) (C := RX12) (T := TX12) (N := 53) hx hb hts hfX12 hown hK hP q128 eq128 rfl 42 (by decide) (hts (.fieldLink RX12 64 "ColdShipsModel" "line" "[I") wa_166) (fun _ h9 => h9) rfl dX12_keepBest_206 ?_
            refine lv_iload hx hb dX12_keepBest_209 (lv_at hl 0 rfl) ?_
            refine tpk_pos (tp_in hG y17 (by decide)) hk120k (fun q129 eq129 => ?_)
            refine va_iald hx hb hK hP q129 0 eq129 rfl (vp_in_iff.mpr ⟨by omega, by omega⟩) dX12_keepBest_211 ?_
            refine lv_topi (fun z130 ez130 => ?_)
            have jz130 : z130.toInt = mo_R g101 w111.toInt := mo_rd ez130 (by omega)
            have hln := hLN w111.toInt (by omega) (by omega)
            refine lv_istore (lv' := [(8, .int z130), (7, .int w111), (6, .int w84), (5, .int w76), (4, .int w64), (0, .ref h0), (1, .int v), (2, .int u), (3, .int a)]) hx hb dX12_keepBest_212 hl (by decide) rfl (fun ls hl => ?_)
            refine lv_aload_n hx hb dX12_keepBest_214 rfl (lv_at hl 5 rfl) ?_
            refine va_get (D := (dC, dI)) (ci := 12) (v := .ref (ρ h0 50)) (C := RX12) (T := TX12) (N := 53) hx hb hts hfX12 hown hK hP q128 eq128 rfl 50 (by decide) (hts (.fieldLink RX12 82 "ColdShipsModel" "bestTold" "[J") wa_172) (fun _ h9 => h9) rfl dX12_keepBest_215 ?_
            refine lv_iconst (v := 5) hx hb dX12_keepBest_218 (by decide) ?_
            refine lv_iload hx hb dX12_keepBest_219 (lv_at hl 0 rfl) ?_
            refine lv_imul hx hb dX12_keepBest_221 ?_
            refine lv_topi (fun z131 ez131 => ?_)
            have iz131 : z131.toInt = 5 * z130.toInt := zi_mul ez131 rfl rfl (by omega) (by omega)
            refine lv_iconst (v := 1) hx hb dX12_keepBest_222 (by decide) ?_
            refine lv_iadd hx hb dX12_keepBest_223 ?_
            refine lv_topi (fun z132 ez132 => ?_)
            have iz132 : z132.toInt = z131.toInt + 1 := zi_add ez132 rfl rfl (by omega) (by omega)
            refine lv_iload hx hb dX12_keepBest_224 (lv_at hl 1 rfl) ?_
            refine lv_i2l hx hb dX12_keepBest_226 rfl ?_
            refine tpk_80 hT y23 (fun g134 hf_o133 => ?_)
            refine tpk_pos (tp_in hG y23 (by decide)) hf_o133 (fun q135 eq135 => ?_)
            refine va_last hx hb hK hP hD hS q135 1 eq135 rfl (vp_in_iff.mpr ⟨by omega, by omega⟩) dX12_keepBest_227 (tp_k (.inl (κ 1, 30, .inr (.inl (vp_updL g134 z132.toNatClampNeg w111.toInt64)))) hD (tp_in hG y23 (by decide)) eq135 (fun f136 H locs hP hD hS g138 k137 => ?_))
            have hT := hT.up y23 g138 k137 tp_o80
            have hR := hR.up y23 (by decide) k137
            generalize (vp_updL g134 z132.toNatClampNeg w111.toInt64) = g139 at g138
            refine lv_aload_n hx hb dX12_keepBest_228 rfl (lv_at hl 5 rfl) ?_
            have hf_140 : f136 h0 = .inr (12, [.int o127_x0, .int o127_x1, .ref (ρ h0 2), .ref (ρ h0 3), .ref (ρ h0 4), .ref (ρ h0 5), .ref (ρ h0 6), .int o127_x7, .ref (ρ h0 8), .int o127_x9, .int o127_x10, .int o127_x11, .int o127_x12, .long o127_x13, .int o127_x14, .int o127_x15, .int o127_x16, .int o127_x17, .int o127_x18, .int o127_x19, .int o127_x20, .ref (ρ h0 21), .int o127_x22, .ref (ρ h0 23), .ref (ρ h0 24), .int o127_x25, .ref (ρ h0 26), .ref (ρ h0 27), .int o127_x28, .int o127_x29, .ref (ρ h0 30), .ref (ρ h0 31), .int o127_x32, .long o127_x33, .long o127_x34, .long o127_x35, .int o127_x36, .int o127_x37, .int o127_x38, .ref (ρ h0 39), .ref (ρ h0 40), .ref (ρ h0 41), .ref (ρ h0 42), .ref (ρ h0 43), .ref (ρ h0 44), .ref (ρ h0 45), .ref (ρ h0 46), .int o127_x47, .int o127_x48, .ref (ρ h0 49), .ref (ρ h0 50), .ref (ρ h0 51), .ref (ρ h0 52)]) := (k137 _ (tp_ne ht_h0 y23 (by decide))).trans hf_o127
            refine tpk_pos (tp_in hG ht_h0 (by decide)) hf_140 (fun q141 eq141 => ?_)
            refine va_get (D := (dC, dI)) (ci := 12) (v := .ref (ρ h0 50)) (C := RX12) (T := TX12) (N := 53) hx hb hts hfX12 hown hK hP q141 eq141 rfl 50 (by decide) (hts (.fieldLink RX12 82 "ColdShipsModel" "bestTold" "[J") wa_172) (fun _ h9 => h9) rfl dX12_keepBest_229 ?_
            refine lv_iconst (v := 5) hx hb dX12_keepBest_232 (by decide) ?_
            refine lv_iload hx hb dX12_keepBest_233 (lv_at hl 0 rfl) ?_
            refine lv_imul hx hb dX12_keepBest_235 ?_
            refine lv_topi (fun z142 ez142 => ?_)
            have iz142 : z142.toInt = 5 * z130.toInt := zi_mul ez142 rfl rfl (by omega) (by omega)
            refine lv_iconst (v := 2) hx hb dX12_keepBest_236 (by decide) ?_
            refine lv_iadd hx hb dX12_keepBest_237 ?_
            refine lv_topi (fun z143 ez143 => ?_)
            have iz143 : z143.toInt = z142.toInt + 2 := zi_add ez143 rfl rfl (by omega) (by omega)
            refine lv_aload_n hx hb dX12_keepBest_238 rfl (lv_at hl 5 rfl) ?_
            refine va_get (D := (dC, dI)) (ci := 12) (v := .ref (ρ h0 39)) (C := RX12) (T := TX12) (N := 53) hx hb hts hfX12 hown hK hP q141 eq141 rfl 39 (by decide) (hts (.fieldLink RX12 55 "ColdShipsModel" "loads" "[I") wa_163) (fun _ h9 => h9) rfl dX12_keepBest_239 ?_
            refine lv_iload hx hb dX12_keepBest_242 (lv_at hl 0 rfl) ?_
            refine tpk_69 hT y14 (fun g145 hf_o144 => ?_)
            refine tpk_pos (tp_in hG y14 (by decide)) hf_o144 (fun q146 eq146 => ?_)
            refine va_iald hx hb hK hP q146 0 eq146 rfl (vp_in_iff.mpr ⟨by omega, by omega⟩) dX12_keepBest_244 ?_
            refine lv_topi (fun z147 ez147 => ?_)
            refine lv_i2l hx hb dX12_keepBest_245 rfl ?_
            refine tpk_pos (tp_in hG y23 (by decide)) g138 (fun q148 eq148 => ?_)
            refine va_last hx hb hK hP hD hS q148 1 eq148 rfl (vp_in_iff.mpr ⟨by omega, by omega⟩) dX12_keepBest_246 (tp_k (.inl (κ 1, 30, .inr (.inl (vp_updL g139 z143.toNatClampNeg z147.toInt64)))) hD (tp_in hG y23 (by decide)) eq148 (fun f149 H locs hP hD hS g151 k150 => ?_))
            have hT := hT.up y23 g151 k150 tp_o80
            have hR := hR.up y23 (by decide) k150
            generalize (vp_updL g139 z143.toNatClampNeg z147.toInt64) = g152 at g151
            refine lv_aload_n hx hb dX12_keepBest_247 rfl (lv_at hl 5 rfl) ?_
            have hf_153 : f149 h0 = .inr (12, [.int o127_x0, .int o127_x1, .ref (ρ h0 2), .ref (ρ h0 3), .ref (ρ h0 4), .ref (ρ h0 5), .ref (ρ h0 6), .int o127_x7, .ref (ρ h0 8), .int o127_x9, .int o127_x10, .int o127_x11, .int o127_x12, .long o127_x13, .int o127_x14, .int o127_x15, .int o127_x16, .int o127_x17, .int o127_x18, .int o127_x19, .int o127_x20, .ref (ρ h0 21), .int o127_x22, .ref (ρ h0 23), .ref (ρ h0 24), .int o127_x25, .ref (ρ h0 26), .ref (ρ h0 27), .int o127_x28, .int o127_x29, .ref (ρ h0 30), .ref (ρ h0 31), .int o127_x32, .long o127_x33, .long o127_x34, .long o127_x35, .int o127_x36, .int o127_x37, .int o127_x38, .ref (ρ h0 39), .ref (ρ h0 40), .ref (ρ h0 41), .ref (ρ h0 42), .ref (ρ h0 43), .ref (ρ h0 44), .ref (ρ h0 45), .ref (ρ h0 46), .int o127_x47, .int o127_x48, .ref (ρ h0 49), .ref (ρ h0 50), .ref (ρ h0 51), .ref (ρ h0 52)]) := (k150 _ (tp_ne ht_h0 y23 (by decide))).trans hf_140
            refine tpk_pos (tp_in hG ht_h0 (by decide)) hf_153 (fun q154 eq154 => ?_)
            refine va_get (D := (dC, dI)) (ci := 12) (v := .ref (ρ h0 50)) (C := RX12) (T := TX12) (N := 53) hx hb hts hfX12 hown hK hP q154 eq154 rfl 50 (by decide) (hts (.fieldLink RX12 82 "ColdShipsModel" "bestTold" "[J") wa_172) (fun _ h9 => h9) rfl dX12_keepBest_248 ?_
            refine lv_iconst (v := 5) hx hb dX12_keepBest_251 (by decide) ?_
            refine lv_iload hx hb dX12_keepBest_252 (lv_at hl 0 rfl) ?_
            refine lv_imul hx hb dX12_keepBest_254 ?_
            refine lv_topi (fun z155 ez155 => ?_)
            have iz155 : z155.toInt = 5 * z130.toInt := zi_mul ez155 rfl rfl (by omega) (by omega)
            refine lv_iconst (v := 3) hx hb dX12_keepBest_255 (by decide) ?_
            refine lv_iadd hx hb dX12_keepBest_256 ?_
            refine lv_topi (fun z156 ez156 => ?_)
            have iz156 : z156.toInt = z155.toInt + 3 := zi_add ez156 rfl rfl (by omega) (by omega)
            refine lv_aload_n hx hb dX12_keepBest_257 rfl (lv_at hl 5 rfl) ?_
            refine va_get (D := (dC, dI)) (ci := 12) (v := .ref (ρ h0 40)) (C := RX12) (T := TX12) (N := 53) hx hb hts hfX12 hown hK hP q154 eq154 rfl 40 (by decide) (hts (.fieldLink RX12 58 "ColdShipsModel" "lands" "[I") wa_164) (fun _ h9 => h9) rfl dX12_keepBest_258 ?_
            refine lv_iload hx hb dX12_keepBest_261 (lv_at hl 0 rfl) ?_
            refine tpk_70 hT y15 (fun g158 hf_o157 => ?_)
            refine tpk_pos (tp_in hG y15 (by decide)) hf_o157 (fun q159 eq159 => ?_)
            refine va_iald hx hb hK hP q159 0 eq159 rfl (vp_in_iff.mpr ⟨by omega, by omega⟩) dX12_keepBest_263 ?_
            refine lv_topi (fun z160 ez160 => ?_)
            refine lv_i2l hx hb dX12_keepBest_264 rfl ?_
            refine tpk_pos (tp_in hG y23 (by decide)) g151 (fun q161 eq161 => ?_)
            refine va_last hx hb hK hP hD hS q161 1 eq161 rfl (vp_in_iff.mpr ⟨by omega, by omega⟩) dX12_keepBest_265 (tp_k (.inl (κ 1, 30, .inr (.inl (vp_updL g152 z156.toNatClampNeg z160.toInt64)))) hD (tp_in hG y23 (by decide)) eq161 (fun f162 H locs hP hD hS g164 k163 => ?_))
            have hT := hT.up y23 g164 k163 tp_o80
            have hR := hR.up y23 (by decide) k163
            generalize (vp_updL g152 z156.toNatClampNeg z160.toInt64) = g165 at g164
            refine lv_aload_n hx hb dX12_keepBest_266 rfl (lv_at hl 5 rfl) ?_
            have hf_166 : f162 h0 = .inr (12, [.int o127_x0, .int o127_x1, .ref (ρ h0 2), .ref (ρ h0 3), .ref (ρ h0 4), .ref (ρ h0 5), .ref (ρ h0 6), .int o127_x7, .ref (ρ h0 8), .int o127_x9, .int o127_x10, .int o127_x11, .int o127_x12, .long o127_x13, .int o127_x14, .int o127_x15, .int o127_x16, .int o127_x17, .int o127_x18, .int o127_x19, .int o127_x20, .ref (ρ h0 21), .int o127_x22, .ref (ρ h0 23), .ref (ρ h0 24), .int o127_x25, .ref (ρ h0 26), .ref (ρ h0 27), .int o127_x28, .int o127_x29, .ref (ρ h0 30), .ref (ρ h0 31), .int o127_x32, .long o127_x33, .long o127_x34, .long o127_x35, .int o127_x36, .int o127_x37, .int o127_x38, .ref (ρ h0 39), .ref (ρ h0 40), .ref (ρ h0 41), .ref (ρ h0 42), .ref (ρ h0 43), .ref (ρ h0 44), .ref (ρ h0 45), .ref (ρ h0 46), .int o127_x47, .int o127_x48, .ref (ρ h0 49), .ref (ρ h0 50), .ref (ρ h0 51), .ref (ρ h0 52)]) := (k163 _ (tp_ne ht_h0 y23 (by decide))).trans hf_153
            refine tpk_pos (tp_in hG ht_h0 (by decide)) hf_166 (fun q167 eq167 => ?_)
            refine va_get (D := (dC, dI)) (ci := 12) (v := .ref (ρ h0 50)) (C := RX12) (T := TX12) (N := 53) hx hb hts hfX12 hown hK hP q167 eq167 rfl 50 (by decide) (hts (.fieldLink RX12 82 "ColdShipsModel" "bestTold" "[J") wa_172) (fun _ h9 => h9) rfl dX12_keepBest_267 ?_
            refine lv_iconst (v := 5) hx hb dX12_keepBest_270 (by decide) ?_
            refine lv_iload hx hb dX12_keepBest_271 (lv_at hl 0 rfl) ?_
            refine lv_imul hx hb dX12_keepBest_273 ?_
            refine lv_topi (fun z168 ez168 => ?_)
            have iz168 : z168.toInt = 5 * z130.toInt := zi_mul ez168 rfl rfl (by omega) (by omega)
            refine lv_iconst (v := 4) hx hb dX12_keepBest_274 (by decide) ?_
            refine lv_iadd hx hb dX12_keepBest_275 ?_
            refine lv_topi (fun z169 ez169 => ?_)
            have iz169 : z169.toInt = z168.toInt + 4 := zi_add ez169 rfl rfl (by omega) (by omega)
            refine lv_aload_n hx hb dX12_keepBest_276 rfl (lv_at hl 5 rfl) ?_
            refine va_get (D := (dC, dI)) (ci := 12) (v := .ref (ρ h0 41)) (C := RX12) (T := TX12) (N := 53) hx hb hts hfX12 hown hK hP q167 eq167 rfl 41 (by decide) (hts (.fieldLink RX12 61 "ColdShipsModel" "worths" "[J") wa_165) (fun _ h9 => h9) rfl dX12_keepBest_277 ?_
            refine lv_iload hx hb dX12_keepBest_280 (lv_at hl 0 rfl) ?_
            refine tpk_71 hT y16 (fun g171 hf_o170 => ?_)
            refine tpk_pos (tp_in hG y16 (by decide)) hf_o170 (fun q172 eq172 => ?_)
            refine va_lald hx hb hK hP q172 1 eq172 rfl (vp_in_iff.mpr ⟨by omega, by omega⟩) dX12_keepBest_282 ?_
            refine lv_topl (fun z173 ez173 => ?_)
            refine tpk_pos (tp_in hG y23 (by decide)) g164 (fun q174 eq174 => ?_)
            refine va_last hx hb hK hP hD hS q174 1 eq174 rfl (vp_in_iff.mpr ⟨by omega, by omega⟩) dX12_keepBest_283 (tp_k (.inl (κ 1, 30, .inr (.inl (vp_updL g165 z169.toNatClampNeg z173)))) hD (tp_in hG y23 (by decide)) eq174 (fun f175 H locs hP hD hS g177 k176 => ?_))
            have hT := hT.up y23 g177 k176 tp_o80
            have hR := hR.up y23 (by decide) k176
            generalize (vp_updL g165 z169.toNatClampNeg z173) = g178 at g177
            obtain ⟨z179, ez179⟩ : ∃ y : Int32, y = w111 + 1 := ⟨_, rfl⟩
            refine lv_iinc (v := z179) (lv' := [(7, .int z179), (8, .int z130), (6, .int w84), (5, .int w76), (4, .int w64), (0, .ref h0), (1, .int v), (2, .int u), (3, .int a)]) hx hb dX12_keepBest_284 hl (k := 1) rfl (by rw [ez179]; rfl) (by decide) rfl (fun ls hl => ?_)
            have iz179 : z179.toInt = w111.toInt + 1 := zi_add ez179 rfl rfl (by omega) (by omega)
            refine lv_goto (tgt := 198) hx hb dX12_keepBest_287 (by decide) ?_
            have hf_180 : f136 (ρ h0 2) = .inl (κ 0, 12967, .inl g27) := (k137 _ (tp_ne y1 y23 (by decide))).trans hk116k
            have hf_181 : f149 (ρ h0 2) = .inl (κ 0, 12967, .inl g27) := (k150 _ (tp_ne y1 y23 (by decide))).trans hf_180
            have hf_182 : f162 (ρ h0 2) = .inl (κ 0, 12967, .inl g27) := (k163 _ (tp_ne y1 y23 (by decide))).trans hf_181
            have hf_183 : f175 (ρ h0 2) = .inl (κ 0, 12967, .inl g27) := (k176 _ (tp_ne y1 y23 (by decide))).trans hf_182
            have hf_184 : f136 (ρ h0 49) = .inl (κ 0, 6, .inl g32) := (k137 _ (tp_ne y22 y23 (by decide))).trans hk117k
            have hf_185 : f149 (ρ h0 49) = .inl (κ 0, 6, .inl g32) := (k150 _ (tp_ne y22 y23 (by decide))).trans hf_184
            have hf_186 : f162 (ρ h0 49) = .inl (κ 0, 6, .inl g32) := (k163 _ (tp_ne y22 y23 (by decide))).trans hf_185
            have hf_187 : f175 (ρ h0 49) = .inl (κ 0, 6, .inl g32) := (k176 _ (tp_ne y22 y23 (by decide))).trans hf_186
            have hf_188 : f136 (ρ h0 43) = .inl (κ 1, 192, .inr (.inl g35)) := (k137 _ (tp_ne y18 y23 (by decide))).trans hk118k
            have hf_189 : f149 (ρ h0 43) = .inl (κ 1, 192, .inr (.inl g35)) := (k150 _ (tp_ne y18 y23 (by decide))).trans hf_188
            have hf_190 : f162 (ρ h0 43) = .inl (κ 1, 192, .inr (.inl g35)) := (k163 _ (tp_ne y18 y23 (by decide))).trans hf_189
            have hf_191 : f175 (ρ h0 43) = .inl (κ 1, 192, .inr (.inl g35)) := (k176 _ (tp_ne y18 y23 (by decide))).trans hf_190
            have hf_192 : f136 (ρ h0 44) = .inl (κ 0, 192, .inl g29) := (k137 _ (tp_ne y19 y23 (by decide))).trans hk119k
            have hf_193 : f149 (ρ h0 44) = .inl (κ 0, 192, .inl g29) := (k150 _ (tp_ne y19 y23 (by decide))).trans hf_192
            have hf_194 : f162 (ρ h0 44) = .inl (κ 0, 192, .inl g29) := (k163 _ (tp_ne y19 y23 (by decide))).trans hf_193
            have hf_195 : f175 (ρ h0 44) = .inl (κ 0, 192, .inl g29) := (k176 _ (tp_ne y19 y23 (by decide))).trans hf_194
            have hf_196 : f136 (ρ h0 42) = .inl (κ 0, 6, .inl g101) := (k137 _ (tp_ne y17 y23 (by decide))).trans hk120k
            have hf_197 : f149 (ρ h0 42) = .inl (κ 0, 6, .inl g101) := (k150 _ (tp_ne y17 y23 (by decide))).trans hf_196
            have hf_198 : f162 (ρ h0 42) = .inl (κ 0, 6, .inl g101) := (k163 _ (tp_ne y17 y23 (by decide))).trans hf_197
            have hf_199 : f175 (ρ h0 42) = .inl (κ 0, 6, .inl g101) := (k176 _ (tp_ne y17 y23 (by decide))).trans hf_198
            exact ih123 _ _ _ _ (by rw [hn124]; omega) ⟨f175, z179, rfl, hT, hR, hf_183, hf_187, hf_191, hf_195, hf_199, (by omega), hP, hD, hS, lv_sub hl [0, 2, 3, 4, 5, 6, 7, 8] rfl⟩
        · have ic103 : w83.toInt < v.toInt := zi_gef rfl rfl c103
          refine lv_aload_n hx hb dX12_keepBest_136 rfl (lv_at hl 4 rfl) ?_
          refine tpk_13 hT ht_h0 (fun o200_x0 o200_x1 o200_x7 o200_x9 o200_x10 o200_x11 o200_x12 o200_x13 o200_x14 o200_x15 o200_x16 o200_x17 o200_x18 o200_x19 o200_x20 o200_x22 o200_x25 o200_x28 o200_x29 o200_x32 o200_x33 o200_x34 o200_x35 o200_x36 o200_x37 o200_x38 o200_x47 o200_x48 hf_o200 ro200_0 ro200_1 ro200_2 ro200_3 ro200_4 ro200_5 ro200_6 ro200_7 ro200_8 ro200_9 ro200_10 ro200_11 ro200_12 ro200_13 ro200_14 => ?_)
          refine tpk_pos (tp_in hG ht_h0 (by decide)) hf_o200 (fun q201 eq201 => ?_)
          refine va_get (D := (dC, dI)) (ci := 12) (v := .ref (ρ h0 49)) (C := RX12) (T := TX12) (N := 53) hx hb hts hfX12 hown hK hP q201 eq201 rfl 49 (by decide) (hts (.fieldLink RX12 79 "ColdShipsModel" "bestShip" "[I") wa_171) (fun _ h9 => h9) rfl dX12_keepBest_137 ?_
          refine lv_iload hx hb dX12_keepBest_140 (lv_at hl 0 rfl) ?_
          refine tpk_pos (tp_in hG y22 (by decide)) hk89k (fun q202 eq202 => ?_)
          refine va_iald hx hb hK hP q202 0 eq202 rfl (vp_in_iff.mpr ⟨by omega, by omega⟩) dX12_keepBest_142 ?_
          refine lv_topi (fun z203 ez203 => ?_)
          have jz203 : z203.toInt = mo_R g32 w83.toInt := mo_rd ez203 (by omega)
          refine lv_iload hx hb dX12_keepBest_143 (lv_at hl 3 rfl) ?_
          refine lv_icmp_ne (tgt := 179) hx hb dX12_keepBest_145 (by decide) (fun c204 => ?_) (fun c204 => ?_)
          · have ic204 : z203.toInt ≠ w64.toInt := zi_ne rfl rfl c204
            obtain ⟨z205, ez205⟩ : ∃ y : Int32, y = w83 + 1 := ⟨_, rfl⟩
            refine lv_iinc (v := z205) (lv' := [(7, .int z205), (6, .int w84), (5, .int w76), (4, .int w64), (0, .ref h0), (1, .int v), (2, .int u), (3, .int a)]) hx hb dX12_keepBest_179 hl (k := 0) rfl (by rw [ez205]; rfl) (by decide) rfl (fun ls hl => ?_)
            have iz205 : z205.toInt = w83.toInt + 1 := zi_add ez205 rfl rfl (by omega) (by omega)
            refine lv_goto (tgt := 130) hx hb dX12_keepBest_182 (by decide) ?_
            exact ih97 _ _ _ _ (by rw [hn98]; omega) ⟨f95, z205, w84, rfl, hT, hR, hk88k, hk89k, hk90k, hk91k, (by first | (simp only [(mo_un tf102), mo_i1, mo_l1]; exact (show mo_KL (mo_R g101) ((mo_R g29) (64 * w64.toInt + w76.toInt)) w76.toInt (z205.toInt) v.toInt from jf99.no (fun q9 => by have := (hbits w83.toInt (by omega) (by omega)).mp q9; omega) (by omega))) | (rw [(mo_un tf102)]; exact (show mo_KL (mo_R g101) ((mo_R g29) (64 * w64.toInt + w76.toInt)) w76.toInt (z205.toInt) v.toInt from jf99.no (fun q9 => by have := (hbits w83.toInt (by omega) (by omega)).mp q9; omega) (by omega)))), (by omega), (by omega), (by omega), (by omega), (by have q9 := mo_cn_no (fun q9 => by have := (hbits w83.toInt (by omega) (by omega)).mp q9; omega) (by omega) (by omega); rw [show z205.toInt = w83.toInt + 1 by omega, q9]; omega), hP, hD, hS, lv_sub hl [0, 1, 2, 3, 4, 5, 6, 7] rfl⟩
          · have ic204 : z203.toInt = w64.toInt := zi_nef rfl rfl c204
            have hbc := (hbits w83.toInt (by omega) (by omega)).mpr (by omega)
            have hpc := hGD.2.1 w83.toInt (by omega) (by omega) hbc
            have hyr := hGD.1
            refine lv_aload_n hx hb dX12_keepBest_148 rfl (lv_at hl 4 rfl) ?_
            refine va_get (D := (dC, dI)) (ci := 12) (v := .ref (ρ h0 42)) (C := RX12) (T := TX12) (N := 53) hx hb hts hfX12 hown hK hP q201 eq201 rfl 42 (by decide) (hts (.fieldLink RX12 64 "ColdShipsModel" "line" "[I") wa_166) (fun _ h9 => h9) rfl dX12_keepBest_149 ?_
            refine lv_aload_n hx hb dX12_keepBest_152 rfl (lv_at hl 4 rfl) ?_
            refine va_get (D := (dC, dI)) (ci := 12) (v := .ref (ρ h0 44)) (C := RX12) (T := TX12) (N := 53) hx hb hts hfX12 hown hK hP q201 eq201 rfl 44 (by decide) (hts (.fieldLink RX12 70 "ColdShipsModel" "placesOf" "[I") wa_168) (fun _ h9 => h9) rfl dX12_keepBest_153 ?_
            refine lv_bipush (v := 64) hx hb dX12_keepBest_156 (by decide) ?_
            refine lv_iload hx hb dX12_keepBest_158 (lv_at hl 3 rfl) ?_
            refine lv_imul hx hb dX12_keepBest_160 ?_
            refine lv_topi (fun z206 ez206 => ?_)
            have iz206 : z206.toInt = 64 * w64.toInt := zi_mul ez206 rfl rfl (by omega) (by omega)
            refine lv_iload hx hb dX12_keepBest_161 (lv_at hl 2 rfl) ?_
            refine lv_iadd hx hb dX12_keepBest_163 ?_
            refine lv_topi (fun z207 ez207 => ?_)
            have iz207 : z207.toInt = z206.toInt + w76.toInt := zi_add ez207 rfl rfl (by omega) (by omega)
            refine tpk_pos (tp_in hG y19 (by decide)) hk91k (fun q208 eq208 => ?_)
            refine va_iald hx hb hK hP q208 0 eq208 rfl (vp_in_iff.mpr ⟨by omega, by omega⟩) dX12_keepBest_164 ?_
            refine lv_topi (fun z209 ez209 => ?_)
            have jz209 : z209.toInt = mo_R g29 (64 * w64.toInt + w76.toInt) := mo_rd ez209 (by omega)
            refine lv_iconst (v := 3) hx hb dX12_keepBest_165 (by decide) ?_
            refine lv_iload hx hb dX12_keepBest_166 (lv_at hl 0 rfl) ?_
            refine lv_imul hx hb dX12_keepBest_168 ?_
            refine lv_topi (fun z210 ez210 => ?_)
            have iz210 : z210.toInt = 3 * w83.toInt := zi_mul ez210 rfl rfl (by omega) (by omega)
            refine lv_ishr hx hb dX12_keepBest_169 ?_
            refine lv_topi (fun z211 ez211 => ?_)
            refine lv_bipush (v := 7) hx hb dX12_keepBest_170 (by decide) ?_
            refine lv_iand hx hb dX12_keepBest_172 ?_
            refine lv_topi (fun z212 ez212 => ?_)
            have iz212 : 0 ≤ z212.toInt ∧ z212.toInt ≤ 7 := zb_mask ez212 (by decide)
            have hpl : z212.toInt = mo_pl z209.toInt w83.toInt := zb_pl ez211 ez212 (by omega) (by omega) (by omega)
            rw [jz209] at hpl
            refine lv_iload hx hb dX12_keepBest_173 (lv_at hl 0 rfl) ?_
            refine tpk_pos (tp_in hG y17 (by decide)) hf_o100 (fun q213 eq213 => ?_)
            refine va_iast hx hb hK hP hD hS q213 0 eq213 rfl (vp_in_iff.mpr ⟨by omega, by omega⟩) dX12_keepBest_175 (tp_k (.inl (κ 0, 6, .inl (upd g101 z212.toNatClampNeg w83))) hD (tp_in hG y17 (by decide)) eq213 (fun f214 H locs hP hD hS g216 k215 => ?_))
            have hT := hT.up y17 g216 k215 tp_o72
            have hR := hR.up y17 (by decide) k215
            have hU218 : mo_U (mo_R g101) (mo_R (upd g101 z212.toNatClampNeg w83)) (z212.toInt) (w83.toInt) := mo_up (by omega) (rfl : w83.toInt = _) (by omega)
            generalize (upd g101 z212.toNatClampNeg w83) = g217 at g216 hU218
            have hU218e := hU218.eq (by omega)
            obtain ⟨z219, ez219⟩ : ∃ y : Int32, y = w84 + 1 := ⟨_, rfl⟩
            refine lv_iinc (v := z219) (lv' := [(6, .int z219), (7, .int w83), (5, .int w76), (4, .int w64), (0, .ref h0), (1, .int v), (2, .int u), (3, .int a)]) hx hb dX12_keepBest_176 hl (k := 1) rfl (by rw [ez219]; rfl) (by decide) rfl (fun ls hl => ?_)
            have iz219 : z219.toInt = w84.toInt + 1 := zi_add ez219 rfl rfl (by omega) (by omega)
            obtain ⟨z220, ez220⟩ : ∃ y : Int32, y = w83 + 1 := ⟨_, rfl⟩
            refine lv_iinc (v := z220) (lv' := [(7, .int z220), (6, .int z219), (5, .int w76), (4, .int w64), (0, .ref h0), (1, .int v), (2, .int u), (3, .int a)]) hx hb dX12_keepBest_179 hl (k := 1) rfl (by rw [ez220]; rfl) (by decide) rfl (fun ls hl => ?_)
            have iz220 : z220.toInt = w83.toInt + 1 := zi_add ez220 rfl rfl (by omega) (by omega)
            refine lv_goto (tgt := 130) hx hb dX12_keepBest_182 (by decide) ?_
            have tf221 : mo_hd (mo_i (f214 (ρ h0 42)) = g217) := tfa_i g216
            have hf_222 : f214 (ρ h0 2) = .inl (κ 0, 12967, .inl g27) := (k215 _ (tp_ne y1 y17 (by decide))).trans hk88k
            have hf_223 : f214 (ρ h0 49) = .inl (κ 0, 6, .inl g32) := (k215 _ (tp_ne y22 y17 (by decide))).trans hk89k
            have hf_224 : f214 (ρ h0 43) = .inl (κ 1, 192, .inr (.inl g35)) := (k215 _ (tp_ne y18 y17 (by decide))).trans hk90k
            have hf_225 : f214 (ρ h0 44) = .inl (κ 0, 192, .inl g29) := (k215 _ (tp_ne y19 y17 (by decide))).trans hk91k
            exact ih97 _ _ _ _ (by rw [hn98]; omega) ⟨f214, z220, z219, rfl, hT, hR, hf_222, hf_223, hf_224, hf_225, (by first | (simp only [(mo_un tf221), mo_i1, mo_l1]; exact (show mo_KL (mo_R g217) ((mo_R g29) (64 * w64.toInt + w76.toInt)) w76.toInt (z220.toInt) v.toInt from jf99.up hGD hU218 (by omega) (by omega) (by omega) (by omega))) | (rw [(mo_un tf221)]; exact (show mo_KL (mo_R g217) ((mo_R g29) (64 * w64.toInt + w76.toInt)) w76.toInt (z220.toInt) v.toInt from jf99.up hGD hU218 (by omega) (by omega) (by omega) (by omega)))), (by omega), (by omega), (by omega), (by omega), (by have q9 := mo_cn_yes ((hbits w83.toInt (by omega) (by omega)).mpr (by omega)); rw [show z220.toInt = w83.toInt + 1 by omega, q9]; omega), hP, hD, hS, lv_sub hl [0, 1, 2, 3, 4, 5, 6, 7] rfl⟩
      · have ic81 : w75.toInt < v.toInt := zi_gef rfl rfl c81
        refine lv_iload hx hb dX12_keepBest_96 (lv_at hl 2 rfl) ?_
        refine lv_aload_n hx hb dX12_keepBest_98 rfl (lv_at hl 4 rfl) ?_
        refine tpk_13 hT ht_h0 (fun o226_x0 o226_x1 o226_x7 o226_x9 o226_x10 o226_x11 o226_x12 o226_x13 o226_x14 o226_x15 o226_x16 o226_x17 o226_x18 o226_x19 o226_x20 o226_x22 o226_x25 o226_x28 o226_x29 o226_x32 o226_x33 o226_x34 o226_x35 o226_x36 o226_x37 o226_x38 o226_x47 o226_x48 hf_o226 ro226_0 ro226_1 ro226_2 ro226_3 ro226_4 ro226_5 ro226_6 ro226_7 ro226_8 ro226_9 ro226_10 ro226_11 ro226_12 ro226_13 ro226_14 => ?_)
        refine tpk_pos (tp_in hG ht_h0 (by decide)) hf_o226 (fun q227 eq227 => ?_)
        refine va_get (D := (dC, dI)) (ci := 12) (v := .ref (ρ h0 49)) (C := RX12) (T := TX12) (N := 53) hx hb hts hfX12 hown hK hP q227 eq227 rfl 49 (by decide) (hts (.fieldLink RX12 79 "ColdShipsModel" "bestShip" "[I") wa_171) (fun _ h9 => h9) rfl dX12_keepBest_99 ?_
        refine lv_iload hx hb dX12_keepBest_102 (lv_at hl 0 rfl) ?_
        refine tpk_pos (tp_in hG y22 (by decide)) hk66k (fun q228 eq228 => ?_)
        refine va_iald hx hb hK hP q228 0 eq228 rfl (vp_in_iff.mpr ⟨by omega, by omega⟩) dX12_keepBest_104 ?_
        refine lv_topi (fun z229 ez229 => ?_)
        have jz229 : z229.toInt = mo_R g32 w75.toInt := mo_rd ez229 (by omega)
        refine lv_iload hx hb dX12_keepBest_105 (lv_at hl 3 rfl) ?_
        refine lv_icmp_ne (tgt := 117) hx hb dX12_keepBest_107 (by decide) (fun c230 => ?_) (fun c230 => ?_)
        · have ic230 : z229.toInt ≠ w64.toInt := zi_ne rfl rfl c230
          refine lv_iconst (v := 0) hx hb dX12_keepBest_117 (by decide) ?_
          refine lv_ior hx hb dX12_keepBest_118 ?_
          refine lv_topi (fun z231 ez231 => ?_)
          have iz231 : 0 ≤ z231.toInt ∧ z231.toInt ≤ 63 := zb_or 6 ez231 (rfl : w76.toInt = _) (show (0 : Int32).toInt = 0 from rfl) (by omega) (by omega) (by omega) (by omega) (by decide)
          have hor0 : z231.toInt = w76.toInt := zb_or00 ez231
          refine lv_istore (lv' := [(5, .int z231), (7, .int w75), (6, .int 0), (4, .int w64), (0, .ref h0), (1, .int v), (2, .int u), (3, .int a)]) hx hb dX12_keepBest_119 hl (by decide) rfl (fun ls hl => ?_)
          obtain ⟨z232, ez232⟩ : ∃ y : Int32, y = w75 + 1 := ⟨_, rfl⟩
          refine lv_iinc (v := z232) (lv' := [(7, .int z232), (5, .int z231), (6, .int 0), (4, .int w64), (0, .ref h0), (1, .int v), (2, .int u), (3, .int a)]) hx hb dX12_keepBest_121 hl (k := 1) rfl (by rw [ez232]; rfl) (by decide) rfl (fun ls hl => ?_)
          have iz232 : z232.toInt = w75.toInt + 1 := zi_add ez232 rfl rfl (by omega) (by omega)
          refine lv_goto (tgt := 90) hx hb dX12_keepBest_124 (by decide) ?_
          exact ih79 _ _ _ _ (by rw [hn80]; omega) ⟨z232, z231, rfl, (by omega), (by omega), (by omega), (fun d d0 d1 => by rw [hor0, k78 d d0 d1]; rcases (show d = w75.toInt ∨ d ≠ w75.toInt by omega) with rfl | q9 <;> omega), hP, hD, hS, lv_sub hl [0, 2, 1, 3, 4, 5, 6, 7] rfl⟩
        · have ic230 : z229.toInt = w64.toInt := zi_nef rfl rfl c230
          refine lv_iconst (v := 1) hx hb dX12_keepBest_110 (by decide) ?_
          refine lv_iload hx hb dX12_keepBest_111 (lv_at hl 0 rfl) ?_
          refine lv_ishl hx hb dX12_keepBest_113 ?_
          refine lv_topi (fun z233 ez233 => ?_)
          have iz233 : 1 ≤ z233.toInt ∧ z233.toInt ≤ 32 := zb_shl5 ez233 rfl (by omega) (by omega)
          refine lv_goto (tgt := 118) hx hb dX12_keepBest_114 (by decide) ?_
          refine lv_ior hx hb dX12_keepBest_118 ?_
          refine lv_topi (fun z234 ez234 => ?_)
          have iz234 : 0 ≤ z234.toInt ∧ z234.toInt ≤ 63 := zb_or 6 ez234 (rfl : w76.toInt = _) (rfl : z233.toInt = _) (by omega) (by omega) (by omega) (by omega) (by decide)
          have hor := zb_orbit ez233 ez234 (by omega) (by omega) (by omega) (by omega)
          have hor1 := hor.1
          refine lv_istore (lv' := [(5, .int z234), (7, .int w75), (6, .int 0), (4, .int w64), (0, .ref h0), (1, .int v), (2, .int u), (3, .int a)]) hx hb dX12_keepBest_119 hl (by decide) rfl (fun ls hl => ?_)
          obtain ⟨z235, ez235⟩ : ∃ y : Int32, y = w75 + 1 := ⟨_, rfl⟩
          refine lv_iinc (v := z235) (lv' := [(7, .int z235), (5, .int z234), (6, .int 0), (4, .int w64), (0, .ref h0), (1, .int v), (2, .int u), (3, .int a)]) hx hb dX12_keepBest_121 hl (k := 1) rfl (by rw [ez235]; rfl) (by decide) rfl (fun ls hl => ?_)
          have iz235 : z235.toInt = w75.toInt + 1 := zi_add ez235 rfl rfl (by omega) (by omega)
          refine lv_goto (tgt := 90) hx hb dX12_keepBest_124 (by decide) ?_
          exact ih79 _ _ _ _ (by rw [hn80]; omega) ⟨z235, z234, rfl, (by omega), (by omega), (by omega), (fun d d0 d1 => by rw [hor.2 d d0 d1, k78 d d0 d1]; rcases (show d = w75.toInt ∨ d ≠ w75.toInt by omega) with rfl | q9 <;> omega), hP, hD, hS, lv_sub hl [0, 2, 1, 3, 4, 5, 6, 7] rfl⟩
  · have ic63 : w48.toInt < v.toInt := zi_gef rfl rfl c63
    refine lv_iconst (v := 0) hx hb dX12_keepBest_19 (by decide) ?_
    refine lv_istore (lv' := [(5, .int 0), (4, .int w48), (0, .ref h0), (1, .int v), (2, .int u), (3, .int a)]) hx hb dX12_keepBest_20 hl (by decide) rfl (fun ls hl => ?_)
    refine pz_loop (fun n0 H locs ls => ∃ f241 : Nat → va_E, ∃ w236 : Int32, n0 = (5 - (w236.toInt)).toNat ∧ tp_T (mo_O κ Θ) κ τ ν ρ f241 ∧ tp_F τ [13, 69, 70, 71, 72, 80] f f241 ∧ f241 (ρ h0 2) = .inl (κ 0, 12967, .inl g27) ∧ f241 (ρ h0 49) = .inl (κ 0, 6, .inl g32) ∧ f241 (ρ h0 43) = .inl (κ 1, 192, .inr (.inl g35)) ∧ f241 (ρ h0 44) = .inl (κ 0, 192, .inl g29) ∧ (0 ≤ w236.toInt ∧ w236.toInt ≤ 5) ∧ va_P (dC, dI) vwCl (va_pl L f241) H ∧ va_D A (va_pl L f241) ∧ va_S A s.heap H locs ∧ lv_has ls 9 [(5, .int w236), (4, .int w48), (0, .ref h0), (1, .int v), (2, .int u), (3, .int a)]) ?_ _ _ _ _ ⟨f59, 0, rfl, hT, hR, hk55k, hk56k, hk57k, hk58k, (by have : (0 : Int32).toInt = 0 := rfl; omega), hP, hD, hS, lv_sub hl [0, 1, 2, 3, 4, 5] rfl⟩
    intro n0 H locs ls hI ih243
    refine Exists.elim hI (fun f241 hE90 => Exists.elim hE90 (fun w236 hE91 => tn_12 hE91 (fun hn244 hT hR hk237k hk238k hk239k hk240k rw236 hP hD hS hl => ?_)))
    clear hE91 hE90 hI
    refine lv_iload hx hb dX12_keepBest_22 (lv_at hl 0 rfl) ?_
    refine lv_iconst (v := 5) hx hb dX12_keepBest_24 (by decide) ?_
    refine lv_icmp_ge (tgt := 49) hx hb dX12_keepBest_25 (by decide) (fun c245 => ?_) (fun c245 => ?_)
    · have ic245 : w236.toInt ≥ 5 := zi_ge rfl rfl c245
      refine lv_aload_n hx hb dX12_keepBest_49 rfl (lv_at hl 2 rfl) ?_
      refine tpk_13 hT ht_h0 (fun o246_x0 o246_x1 o246_x7 o246_x9 o246_x10 o246_x11 o246_x12 o246_x13 o246_x14 o246_x15 o246_x16 o246_x17 o246_x18 o246_x19 o246_x20 o246_x22 o246_x25 o246_x28 o246_x29 o246_x32 o246_x33 o246_x34 o246_x35 o246_x36 o246_x37 o246_x38 o246_x47 o246_x48 hf_o246 ro246_0 ro246_1 ro246_2 ro246_3 ro246_4 ro246_5 ro246_6 ro246_7 ro246_8 ro246_9 ro246_10 ro246_11 ro246_12 ro246_13 ro246_14 => ?_)
      refine tpk_pos (tp_in hG ht_h0 (by decide)) hf_o246 (fun q247 eq247 => ?_)
      refine va_get (D := (dC, dI)) (ci := 12) (v := .ref (ρ h0 50)) (C := RX12) (T := TX12) (N := 53) hx hb hts hfX12 hown hK hP q247 eq247 rfl 50 (by decide) (hts (.fieldLink RX12 82 "ColdShipsModel" "bestTold" "[J") wa_172) (fun _ h9 => h9) rfl dX12_keepBest_50 ?_
      refine lv_iconst (v := 5) hx hb dX12_keepBest_53 (by decide) ?_
      refine lv_iload hx hb dX12_keepBest_54 (lv_at hl 1 rfl) ?_
      refine lv_imul hx hb dX12_keepBest_56 ?_
      refine lv_topi (fun z248 ez248 => ?_)
      have iz248 : z248.toInt = 5 * w48.toInt := zi_mul ez248 rfl rfl (by omega) (by omega)
      refine lv_aload_n hx hb dX12_keepBest_57 rfl (lv_at hl 2 rfl) ?_
      refine va_get (D := (dC, dI)) (ci := 12) (v := .ref (ρ h0 49)) (C := RX12) (T := TX12) (N := 53) hx hb hts hfX12 hown hK hP q247 eq247 rfl 49 (by decide) (hts (.fieldLink RX12 79 "ColdShipsModel" "bestShip" "[I") wa_171) (fun _ h9 => h9) rfl dX12_keepBest_58 ?_
      refine lv_iload hx hb dX12_keepBest_61 (lv_at hl 1 rfl) ?_
      refine tpk_pos (tp_in hG y22 (by decide)) hk238k (fun q249 eq249 => ?_)
      refine va_iald hx hb hK hP q249 0 eq249 rfl (vp_in_iff.mpr ⟨by omega, by omega⟩) dX12_keepBest_63 ?_
      refine lv_topi (fun z250 ez250 => ?_)
      have jz250 : z250.toInt = mo_R g32 w48.toInt := mo_rd ez250 (by omega)
      refine lv_i2l hx hb dX12_keepBest_64 rfl ?_
      refine tpk_80 hT y23 (fun g252 hf_o251 => ?_)
      refine tpk_pos (tp_in hG y23 (by decide)) hf_o251 (fun q253 eq253 => ?_)
      refine va_last hx hb hK hP hD hS q253 1 eq253 rfl (vp_in_iff.mpr ⟨by omega, by omega⟩) dX12_keepBest_65 (tp_k (.inl (κ 1, 30, .inr (.inl (vp_updL g252 z248.toNatClampNeg z250.toInt64)))) hD (tp_in hG y23 (by decide)) eq253 (fun f254 H locs hP hD hS g256 k255 => ?_))
      have hT := hT.up y23 g256 k255 tp_o80
      have hR := hR.up y23 (by decide) k255
      generalize (vp_updL g252 z248.toNatClampNeg z250.toInt64) = g257 at g256
      obtain ⟨z258, ez258⟩ : ∃ y : Int32, y = w48 + 1 := ⟨_, rfl⟩
      refine lv_iinc (v := z258) (lv' := [(4, .int z258), (5, .int w236), (0, .ref h0), (1, .int v), (2, .int u), (3, .int a)]) hx hb dX12_keepBest_66 hl (k := 1) rfl (by rw [ez258]; rfl) (by decide) rfl (fun ls hl => ?_)
      have iz258 : z258.toInt = w48.toInt + 1 := zi_add ez258 rfl rfl (by omega) (by omega)
      refine lv_goto (tgt := 13) hx hb dX12_keepBest_69 (by decide) ?_
      have hf_259 : f254 (ρ h0 2) = .inl (κ 0, 12967, .inl g27) := (k255 _ (tp_ne y1 y23 (by decide))).trans hk237k
      have hf_260 : f254 (ρ h0 49) = .inl (κ 0, 6, .inl g32) := (k255 _ (tp_ne y22 y23 (by decide))).trans hk238k
      have hf_261 : f254 (ρ h0 43) = .inl (κ 1, 192, .inr (.inl g35)) := (k255 _ (tp_ne y18 y23 (by decide))).trans hk239k
      have hf_262 : f254 (ρ h0 44) = .inl (κ 0, 192, .inl g29) := (k255 _ (tp_ne y19 y23 (by decide))).trans hk240k
      exact ih61 _ _ _ _ (by rw [hn62]; omega) ⟨f254, z258, rfl, hT, hR, hf_259, hf_260, hf_261, hf_262, (by omega), hP, hD, hS, lv_sub hl [0, 2, 3, 4, 5] rfl⟩
    · have ic245 : w236.toInt < 5 := zi_gef rfl rfl c245
      refine lv_aload_n hx hb dX12_keepBest_28 rfl (lv_at hl 2 rfl) ?_
      refine tpk_13 hT ht_h0 (fun o263_x0 o263_x1 o263_x7 o263_x9 o263_x10 o263_x11 o263_x12 o263_x13 o263_x14 o263_x15 o263_x16 o263_x17 o263_x18 o263_x19 o263_x20 o263_x22 o263_x25 o263_x28 o263_x29 o263_x32 o263_x33 o263_x34 o263_x35 o263_x36 o263_x37 o263_x38 o263_x47 o263_x48 hf_o263 ro263_0 ro263_1 ro263_2 ro263_3 ro263_4 ro263_5 ro263_6 ro263_7 ro263_8 ro263_9 ro263_10 ro263_11 ro263_12 ro263_13 ro263_14 => ?_)
      refine tpk_pos (tp_in hG ht_h0 (by decide)) hf_o263 (fun q264 eq264 => ?_)
      refine va_get (D := (dC, dI)) (ci := 12) (v := .ref (ρ h0 50)) (C := RX12) (T := TX12) (N := 53) hx hb hts hfX12 hown hK hP q264 eq264 rfl 50 (by decide) (hts (.fieldLink RX12 82 "ColdShipsModel" "bestTold" "[J") wa_172) (fun _ h9 => h9) rfl dX12_keepBest_29 ?_
      refine lv_iconst (v := 5) hx hb dX12_keepBest_32 (by decide) ?_
      refine lv_iload hx hb dX12_keepBest_33 (lv_at hl 1 rfl) ?_
      refine lv_imul hx hb dX12_keepBest_35 ?_
      refine lv_topi (fun z265 ez265 => ?_)
      have iz265 : z265.toInt = 5 * w48.toInt := zi_mul ez265 rfl rfl (by omega) (by omega)
      refine lv_iload hx hb dX12_keepBest_36 (lv_at hl 0 rfl) ?_
      refine lv_iadd hx hb dX12_keepBest_38 ?_
      refine lv_topi (fun z266 ez266 => ?_)
      have iz266 : z266.toInt = z265.toInt + w236.toInt := zi_add ez266 rfl rfl (by omega) (by omega)
      refine lv_ldc2 (own := RX12) (v := (-2000000000000000)) hx hb hown (hts (.constantLong RX12 466 (-2000000000000000)) wa_1189) dX12_keepBest_39 ?_
      refine tpk_80 hT y23 (fun g268 hf_o267 => ?_)
      refine tpk_pos (tp_in hG y23 (by decide)) hf_o267 (fun q269 eq269 => ?_)
      refine va_last hx hb hK hP hD hS q269 1 eq269 rfl (vp_in_iff.mpr ⟨by omega, by omega⟩) dX12_keepBest_42 (tp_k (.inl (κ 1, 30, .inr (.inl (vp_updL g268 z266.toNatClampNeg ((-2000000000000000) : Int64))))) hD (tp_in hG y23 (by decide)) eq269 (fun f270 H locs hP hD hS g272 k271 => ?_))
      have hT := hT.up y23 g272 k271 tp_o80
      have hR := hR.up y23 (by decide) k271
      generalize (vp_updL g268 z266.toNatClampNeg ((-2000000000000000) : Int64)) = g273 at g272
      obtain ⟨z274, ez274⟩ : ∃ y : Int32, y = w236 + 1 := ⟨_, rfl⟩
      refine lv_iinc (v := z274) (lv' := [(5, .int z274), (4, .int w48), (0, .ref h0), (1, .int v), (2, .int u), (3, .int a)]) hx hb dX12_keepBest_43 hl (k := 0) rfl (by rw [ez274]; rfl) (by decide) rfl (fun ls hl => ?_)
      have iz274 : z274.toInt = w236.toInt + 1 := zi_add ez274 rfl rfl (by omega) (by omega)
      refine lv_goto (tgt := 22) hx hb dX12_keepBest_46 (by decide) ?_
      have hf_275 : f270 (ρ h0 2) = .inl (κ 0, 12967, .inl g27) := (k271 _ (tp_ne y1 y23 (by decide))).trans hk237k
      have hf_276 : f270 (ρ h0 49) = .inl (κ 0, 6, .inl g32) := (k271 _ (tp_ne y22 y23 (by decide))).trans hk238k
      have hf_277 : f270 (ρ h0 43) = .inl (κ 1, 192, .inr (.inl g35)) := (k271 _ (tp_ne y18 y23 (by decide))).trans hk239k
      have hf_278 : f270 (ρ h0 44) = .inl (κ 0, 192, .inl g29) := (k271 _ (tp_ne y19 y23 (by decide))).trans hk240k
      exact ih243 _ _ _ _ (by rw [hn244]; omega) ⟨f270, z274, rfl, hT, hR, hf_275, hf_276, hf_277, hf_278, (by omega), hP, hD, hS, lv_sub hl [0, 1, 2, 3, 4, 5] rfl⟩
end
section
theorem gX12_best_X12_isHour : GoodIn WALL (va_wsS RX12 144 yX12_isHour wqX12_isHour) := wg_S wa_351 wa_352 wa_5 wa_353
theorem gX12_best_X12_lesser : GoodIn WALL (va_wsS RX12 228 yX12_lesser wqX12_lesser) := wg_S wa_599 wa_600 wa_5 wa_601
theorem gX12_best_X12_findSet : GoodIn WALL (wsV RX12 528 RX12 yX12_findSet wqX12_findSet) := wg_V wa_1420 wa_1421 wa_1422 wa_5 wa_1423
theorem gX12_best_X12_share : GoodIn WALL (wsV RX12 531 RX12 yX12_share wqX12_share) := wg_V wa_1451 wa_1452 wa_1453 wa_5 wa_1454
theorem gX12_best_X12_keepBest : GoodIn WALL (wsV RX12 535 RX12 yX12_keepBest wqX12_keepBest) := wg_V wa_1455 wa_1456 wa_1457 wa_5 wa_1458
theorem dX12_best_0 : decode cX12_best 0 = .ok (.aload_n 0, 1) := od_42  (by decide +kernel)
theorem dX12_best_1 : decode cX12_best 1 = .ok (.iconst 0, 1) := od_3  (by decide +kernel)
theorem dX12_best_2 : decode cX12_best 2 = .ok (.putfield 91, 3) := od_181 (a := 0) (b := 91) (by decide +kernel) (by decide)
theorem dX12_best_5 : decode cX12_best 5 = .ok (.iload_n 1, 1) := od_27  (by decide +kernel)
theorem dX12_best_6 : decode cX12_best 6 = .ok (.invokestatic 144, 3) := od_184 (a := 0) (b := 144) (by decide +kernel) (by decide)
theorem dX12_best_9 : decode cX12_best 9 = .ok (.ifCond .ne 7, 3) := od_154 (a := 0) (b := 7) (by decide +kernel) (by decide +kernel)
theorem dX12_best_12 : decode cX12_best 12 = .ok (.ldc2_w 158, 3) := od_20 (a := 0) (b := 158) (by decide +kernel) (by decide)
theorem dX12_best_15 : decode cX12_best 15 = .ok (.lreturn, 1) := od_173  (by decide +kernel)
theorem dX12_best_16 : decode cX12_best 16 = .ok (.aload_n 0, 1) := od_42  (by decide +kernel)
theorem dX12_best_17 : decode cX12_best 17 = .ok (.getfield 7, 3) := od_180 (a := 0) (b := 7) (by decide +kernel) (by decide)
theorem dX12_best_20 : decode cX12_best 20 = .ok (.bipush 10, 2) := od_16 (a := 10) (by decide +kernel) (by decide +kernel)
theorem dX12_best_22 : decode cX12_best 22 = .ok (.iaload, 1) := od_46  (by decide +kernel)
theorem dX12_best_23 : decode cX12_best 23 = .ok (.istore_n 2, 1) := od_61  (by decide +kernel)
theorem dX12_best_24 : decode cX12_best 24 = .ok (.iconst 3, 1) := od_6  (by decide +kernel)
theorem dX12_best_25 : decode cX12_best 25 = .ok (.aload_n 0, 1) := od_42  (by decide +kernel)
theorem dX12_best_26 : decode cX12_best 26 = .ok (.getfield 7, 3) := od_180 (a := 0) (b := 7) (by decide +kernel) (by decide)
theorem dX12_best_29 : decode cX12_best 29 = .ok (.iconst 1, 1) := od_4  (by decide +kernel)
theorem dX12_best_30 : decode cX12_best 30 = .ok (.iaload, 1) := od_46  (by decide +kernel)
theorem dX12_best_31 : decode cX12_best 31 = .ok (.invokestatic 228, 3) := od_184 (a := 0) (b := 228) (by decide +kernel) (by decide)
theorem dX12_best_34 : decode cX12_best 34 = .ok (.istore_n 3, 1) := od_62  (by decide +kernel)
theorem dX12_best_35 : decode cX12_best 35 = .ok (.iconst 0, 1) := od_3  (by decide +kernel)
theorem dX12_best_36 : decode cX12_best 36 = .ok (.istore 4, 2) := od_54 (n := 4) (by decide +kernel)
theorem dX12_best_38 : decode cX12_best 38 = .ok (.iload 4, 2) := od_21 (n := 4) (by decide +kernel)
theorem dX12_best_40 : decode cX12_best 40 = .ok (.iload_n 3, 1) := od_29  (by decide +kernel)
theorem dX12_best_41 : decode cX12_best 41 = .ok (.if_icmp .ge 35, 3) := od_162 (a := 0) (b := 35) (by decide +kernel) (by decide +kernel)
theorem dX12_best_44 : decode cX12_best 44 = .ok (.iconst 0, 1) := od_3  (by decide +kernel)
theorem dX12_best_45 : decode cX12_best 45 = .ok (.istore 5, 2) := od_54 (n := 5) (by decide +kernel)
theorem dX12_best_47 : decode cX12_best 47 = .ok (.iload 5, 2) := od_21 (n := 5) (by decide +kernel)
theorem dX12_best_49 : decode cX12_best 49 = .ok (.iconst 1, 1) := od_4  (by decide +kernel)
theorem dX12_best_50 : decode cX12_best 50 = .ok (.iload_n 2, 1) := od_28  (by decide +kernel)
theorem dX12_best_51 : decode cX12_best 51 = .ok (.ishl, 1) := od_120  (by decide +kernel)
theorem dX12_best_52 : decode cX12_best 52 = .ok (.if_icmp .ge 18, 3) := od_162 (a := 0) (b := 18) (by decide +kernel) (by decide +kernel)
theorem dX12_best_55 : decode cX12_best 55 = .ok (.aload_n 0, 1) := od_42  (by decide +kernel)
theorem dX12_best_56 : decode cX12_best 56 = .ok (.iload 4, 2) := od_21 (n := 4) (by decide +kernel)
theorem dX12_best_58 : decode cX12_best 58 = .ok (.iload 5, 2) := od_21 (n := 5) (by decide +kernel)
theorem dX12_best_60 : decode cX12_best 60 = .ok (.iload_n 1, 1) := od_27  (by decide +kernel)
theorem dX12_best_61 : decode cX12_best 61 = .ok (.invokevirtual 528, 3) := od_182 (a := 2) (b := 16) (by decide +kernel) (by decide)
theorem dX12_best_64 : decode cX12_best 64 = .ok (.iinc 5 1, 3) := od_132 (a := 5) (b := 1) (by decide +kernel) (by decide +kernel)
theorem dX12_best_67 : decode cX12_best 67 = .ok (.goto (-20), 3) := od_167 (a := 255) (b := 236) (by decide +kernel) (by decide +kernel)
theorem dX12_best_70 : decode cX12_best 70 = .ok (.iinc 4 1, 3) := od_132 (a := 4) (b := 1) (by decide +kernel) (by decide +kernel)
theorem dX12_best_73 : decode cX12_best 73 = .ok (.goto (-35), 3) := od_167 (a := 255) (b := 221) (by decide +kernel) (by decide +kernel)
theorem dX12_best_76 : decode cX12_best 76 = .ok (.iconst 1, 1) := od_4  (by decide +kernel)
theorem dX12_best_77 : decode cX12_best 77 = .ok (.istore 4, 2) := od_54 (n := 4) (by decide +kernel)
theorem dX12_best_79 : decode cX12_best 79 = .ok (.iconst 0, 1) := od_3  (by decide +kernel)
theorem dX12_best_80 : decode cX12_best 80 = .ok (.istore 5, 2) := od_54 (n := 5) (by decide +kernel)
theorem dX12_best_82 : decode cX12_best 82 = .ok (.iload 5, 2) := od_21 (n := 5) (by decide +kernel)
theorem dX12_best_84 : decode cX12_best 84 = .ok (.iload_n 2, 1) := od_28  (by decide +kernel)
theorem dX12_best_85 : decode cX12_best 85 = .ok (.if_icmp .ge 17, 3) := od_162 (a := 0) (b := 17) (by decide +kernel) (by decide +kernel)
theorem dX12_best_88 : decode cX12_best 88 = .ok (.iload 4, 2) := od_21 (n := 4) (by decide +kernel)
theorem dX12_best_90 : decode cX12_best 90 = .ok (.iload_n 3, 1) := od_29  (by decide +kernel)
theorem dX12_best_91 : decode cX12_best 91 = .ok (.iconst 1, 1) := od_4  (by decide +kernel)
theorem dX12_best_92 : decode cX12_best 92 = .ok (.iadd, 1) := od_96  (by decide +kernel)
theorem dX12_best_93 : decode cX12_best 93 = .ok (.imul, 1) := od_104  (by decide +kernel)
theorem dX12_best_94 : decode cX12_best 94 = .ok (.istore 4, 2) := od_54 (n := 4) (by decide +kernel)
theorem dX12_best_96 : decode cX12_best 96 = .ok (.iinc 5 1, 3) := od_132 (a := 5) (b := 1) (by decide +kernel) (by decide +kernel)
theorem dX12_best_99 : decode cX12_best 99 = .ok (.goto (-17), 3) := od_167 (a := 255) (b := 239) (by decide +kernel) (by decide +kernel)
theorem dX12_best_102 : decode cX12_best 102 = .ok (.ldc2_w 466, 3) := od_20 (a := 1) (b := 210) (by decide +kernel) (by decide)
theorem dX12_best_105 : decode cX12_best 105 = .ok (.lstore 5, 2) := od_55 (n := 5) (by decide +kernel)
theorem dX12_best_107 : decode cX12_best 107 = .ok (.iconst 0, 1) := od_3  (by decide +kernel)
theorem dX12_best_108 : decode cX12_best 108 = .ok (.istore 7, 2) := od_54 (n := 7) (by decide +kernel)
theorem dX12_best_110 : decode cX12_best 110 = .ok (.iconst 0, 1) := od_3  (by decide +kernel)
theorem dX12_best_111 : decode cX12_best 111 = .ok (.istore 8, 2) := od_54 (n := 8) (by decide +kernel)
theorem dX12_best_113 : decode cX12_best 113 = .ok (.iload 8, 2) := od_21 (n := 8) (by decide +kernel)
theorem dX12_best_115 : decode cX12_best 115 = .ok (.iload 4, 2) := od_21 (n := 4) (by decide +kernel)
theorem dX12_best_117 : decode cX12_best 117 = .ok (.if_icmp .ge 166, 3) := od_162 (a := 0) (b := 166) (by decide +kernel) (by decide +kernel)
theorem dX12_best_120 : decode cX12_best 120 = .ok (.aload_n 0, 1) := od_42  (by decide +kernel)
theorem dX12_best_121 : decode cX12_best 121 = .ok (.iload 8, 2) := od_21 (n := 8) (by decide +kernel)
theorem dX12_best_123 : decode cX12_best 123 = .ok (.iload_n 2, 1) := od_28  (by decide +kernel)
theorem dX12_best_124 : decode cX12_best 124 = .ok (.iload_n 3, 1) := od_29  (by decide +kernel)
theorem dX12_best_125 : decode cX12_best 125 = .ok (.invokevirtual 531, 3) := od_182 (a := 2) (b := 19) (by decide +kernel) (by decide)
theorem dX12_best_128 : decode cX12_best 128 = .ok (.istore 9, 2) := od_54 (n := 9) (by decide +kernel)
theorem dX12_best_130 : decode cX12_best 130 = .ok (.lconst 0, 1) := od_9  (by decide +kernel)
theorem dX12_best_131 : decode cX12_best 131 = .ok (.lstore 10, 2) := od_55 (n := 10) (by decide +kernel)
theorem dX12_best_133 : decode cX12_best 133 = .ok (.iconst 0, 1) := od_3  (by decide +kernel)
theorem dX12_best_134 : decode cX12_best 134 = .ok (.istore 12, 2) := od_54 (n := 12) (by decide +kernel)
theorem dX12_best_136 : decode cX12_best 136 = .ok (.iload 12, 2) := od_21 (n := 12) (by decide +kernel)
theorem dX12_best_138 : decode cX12_best 138 = .ok (.iload_n 3, 1) := od_29  (by decide +kernel)
theorem dX12_best_139 : decode cX12_best 139 = .ok (.if_icmp .ge 60, 3) := od_162 (a := 0) (b := 60) (by decide +kernel) (by decide +kernel)
theorem dX12_best_142 : decode cX12_best 142 = .ok (.lload 10, 2) := od_22 (n := 10) (by decide +kernel)
theorem dX12_best_144 : decode cX12_best 144 = .ok (.ldc2_w 466, 3) := od_20 (a := 1) (b := 210) (by decide +kernel) (by decide)
theorem dX12_best_147 : decode cX12_best 147 = .ok (.lcmp, 1) := od_148  (by decide +kernel)
theorem dX12_best_148 : decode cX12_best 148 = .ok (.ifCond .eq 51, 3) := od_153 (a := 0) (b := 51) (by decide +kernel) (by decide +kernel)
theorem dX12_best_151 : decode cX12_best 151 = .ok (.aload_n 0, 1) := od_42  (by decide +kernel)
theorem dX12_best_152 : decode cX12_best 152 = .ok (.getfield 67, 3) := od_180 (a := 0) (b := 67) (by decide +kernel) (by decide)
theorem dX12_best_155 : decode cX12_best 155 = .ok (.bipush 64, 2) := od_16 (a := 64) (by decide +kernel) (by decide +kernel)
theorem dX12_best_157 : decode cX12_best 157 = .ok (.iload 12, 2) := od_21 (n := 12) (by decide +kernel)
theorem dX12_best_159 : decode cX12_best 159 = .ok (.imul, 1) := od_104  (by decide +kernel)
theorem dX12_best_160 : decode cX12_best 160 = .ok (.aload_n 0, 1) := od_42  (by decide +kernel)
theorem dX12_best_161 : decode cX12_best 161 = .ok (.getfield 88, 3) := od_180 (a := 0) (b := 88) (by decide +kernel) (by decide)
theorem dX12_best_164 : decode cX12_best 164 = .ok (.iload 12, 2) := od_21 (n := 12) (by decide +kernel)
theorem dX12_best_166 : decode cX12_best 166 = .ok (.iaload, 1) := od_46  (by decide +kernel)
theorem dX12_best_167 : decode cX12_best 167 = .ok (.iadd, 1) := od_96  (by decide +kernel)
theorem dX12_best_168 : decode cX12_best 168 = .ok (.laload, 1) := od_47  (by decide +kernel)
theorem dX12_best_169 : decode cX12_best 169 = .ok (.lstore 13, 2) := od_55 (n := 13) (by decide +kernel)
theorem dX12_best_171 : decode cX12_best 171 = .ok (.lload 13, 2) := od_22 (n := 13) (by decide +kernel)
theorem dX12_best_173 : decode cX12_best 173 = .ok (.ldc2_w 466, 3) := od_20 (a := 1) (b := 210) (by decide +kernel) (by decide)
theorem dX12_best_176 : decode cX12_best 176 = .ok (.lcmp, 1) := od_148  (by decide +kernel)
theorem dX12_best_177 : decode cX12_best 177 = .ok (.ifCond .ne 9, 3) := od_154 (a := 0) (b := 9) (by decide +kernel) (by decide +kernel)
theorem dX12_best_180 : decode cX12_best 180 = .ok (.ldc2_w 466, 3) := od_20 (a := 1) (b := 210) (by decide +kernel) (by decide)
theorem dX12_best_183 : decode cX12_best 183 = .ok (.goto 8, 3) := od_167 (a := 0) (b := 8) (by decide +kernel) (by decide +kernel)
theorem dX12_best_186 : decode cX12_best 186 = .ok (.lload 10, 2) := od_22 (n := 10) (by decide +kernel)
theorem dX12_best_188 : decode cX12_best 188 = .ok (.lload 13, 2) := od_22 (n := 13) (by decide +kernel)
theorem dX12_best_190 : decode cX12_best 190 = .ok (.ladd, 1) := od_97  (by decide +kernel)
theorem dX12_best_191 : decode cX12_best 191 = .ok (.lstore 10, 2) := od_55 (n := 10) (by decide +kernel)
theorem dX12_best_193 : decode cX12_best 193 = .ok (.iinc 12 1, 3) := od_132 (a := 12) (b := 1) (by decide +kernel) (by decide +kernel)
theorem dX12_best_196 : decode cX12_best 196 = .ok (.goto (-60), 3) := od_167 (a := 255) (b := 196) (by decide +kernel) (by decide +kernel)
theorem dX12_best_199 : decode cX12_best 199 = .ok (.lload 10, 2) := od_22 (n := 10) (by decide +kernel)
theorem dX12_best_201 : decode cX12_best 201 = .ok (.ldc2_w 466, 3) := od_20 (a := 1) (b := 210) (by decide +kernel) (by decide)
theorem dX12_best_204 : decode cX12_best 204 = .ok (.lcmp, 1) := od_148  (by decide +kernel)
theorem dX12_best_205 : decode cX12_best 205 = .ok (.ifCond .eq 72, 3) := od_153 (a := 0) (b := 72) (by decide +kernel) (by decide +kernel)
theorem dX12_best_208 : decode cX12_best 208 = .ok (.lload 5, 2) := od_22 (n := 5) (by decide +kernel)
theorem dX12_best_210 : decode cX12_best 210 = .ok (.ldc2_w 466, 3) := od_20 (a := 1) (b := 210) (by decide +kernel) (by decide)
theorem dX12_best_213 : decode cX12_best 213 = .ok (.lcmp, 1) := od_148  (by decide +kernel)
theorem dX12_best_214 : decode cX12_best 214 = .ok (.ifCond .eq 26, 3) := od_153 (a := 0) (b := 26) (by decide +kernel) (by decide +kernel)
theorem dX12_best_217 : decode cX12_best 217 = .ok (.lload 10, 2) := od_22 (n := 10) (by decide +kernel)
theorem dX12_best_219 : decode cX12_best 219 = .ok (.lload 5, 2) := od_22 (n := 5) (by decide +kernel)
theorem dX12_best_221 : decode cX12_best 221 = .ok (.lcmp, 1) := od_148  (by decide +kernel)
theorem dX12_best_222 : decode cX12_best 222 = .ok (.ifCond .gt 18, 3) := od_157 (a := 0) (b := 18) (by decide +kernel) (by decide +kernel)
theorem dX12_best_225 : decode cX12_best 225 = .ok (.lload 10, 2) := od_22 (n := 10) (by decide +kernel)
theorem dX12_best_227 : decode cX12_best 227 = .ok (.lload 5, 2) := od_22 (n := 5) (by decide +kernel)
theorem dX12_best_229 : decode cX12_best 229 = .ok (.lcmp, 1) := od_148  (by decide +kernel)
theorem dX12_best_230 : decode cX12_best 230 = .ok (.ifCond .ne 47, 3) := od_154 (a := 0) (b := 47) (by decide +kernel) (by decide +kernel)
theorem dX12_best_233 : decode cX12_best 233 = .ok (.iload 9, 2) := od_21 (n := 9) (by decide +kernel)
theorem dX12_best_235 : decode cX12_best 235 = .ok (.iload 7, 2) := od_21 (n := 7) (by decide +kernel)
theorem dX12_best_237 : decode cX12_best 237 = .ok (.if_icmp .ge 40, 3) := od_162 (a := 0) (b := 40) (by decide +kernel) (by decide +kernel)
theorem dX12_best_240 : decode cX12_best 240 = .ok (.lload 10, 2) := od_22 (n := 10) (by decide +kernel)
theorem dX12_best_242 : decode cX12_best 242 = .ok (.lstore 5, 2) := od_55 (n := 5) (by decide +kernel)
theorem dX12_best_244 : decode cX12_best 244 = .ok (.iload 9, 2) := od_21 (n := 9) (by decide +kernel)
theorem dX12_best_246 : decode cX12_best 246 = .ok (.istore 7, 2) := od_54 (n := 7) (by decide +kernel)
theorem dX12_best_248 : decode cX12_best 248 = .ok (.iconst 0, 1) := od_3  (by decide +kernel)
theorem dX12_best_249 : decode cX12_best 249 = .ok (.istore 12, 2) := od_54 (n := 12) (by decide +kernel)
theorem dX12_best_251 : decode cX12_best 251 = .ok (.iload 12, 2) := od_21 (n := 12) (by decide +kernel)
theorem dX12_best_253 : decode cX12_best 253 = .ok (.iload_n 2, 1) := od_28  (by decide +kernel)
theorem dX12_best_254 : decode cX12_best 254 = .ok (.if_icmp .ge 23, 3) := od_162 (a := 0) (b := 23) (by decide +kernel) (by decide +kernel)
theorem dX12_best_257 : decode cX12_best 257 = .ok (.aload_n 0, 1) := od_42  (by decide +kernel)
theorem dX12_best_258 : decode cX12_best 258 = .ok (.getfield 79, 3) := od_180 (a := 0) (b := 79) (by decide +kernel) (by decide)
theorem dX12_best_261 : decode cX12_best 261 = .ok (.iload 12, 2) := od_21 (n := 12) (by decide +kernel)
theorem dX12_best_263 : decode cX12_best 263 = .ok (.aload_n 0, 1) := od_42  (by decide +kernel)
theorem dX12_best_264 : decode cX12_best 264 = .ok (.getfield 85, 3) := od_180 (a := 0) (b := 85) (by decide +kernel) (by decide)
theorem dX12_best_267 : decode cX12_best 267 = .ok (.iload 12, 2) := od_21 (n := 12) (by decide +kernel)
theorem dX12_best_269 : decode cX12_best 269 = .ok (.iaload, 1) := od_46  (by decide +kernel)
theorem dX12_best_270 : decode cX12_best 270 = .ok (.iastore, 1) := od_79  (by decide +kernel)
theorem dX12_best_271 : decode cX12_best 271 = .ok (.iinc 12 1, 3) := od_132 (a := 12) (b := 1) (by decide +kernel) (by decide +kernel)
theorem dX12_best_274 : decode cX12_best 274 = .ok (.goto (-23), 3) := od_167 (a := 255) (b := 233) (by decide +kernel) (by decide +kernel)
theorem dX12_best_277 : decode cX12_best 277 = .ok (.iinc 8 1, 3) := od_132 (a := 8) (b := 1) (by decide +kernel) (by decide +kernel)
theorem dX12_best_280 : decode cX12_best 280 = .ok (.goto (-167), 3) := od_167 (a := 255) (b := 89) (by decide +kernel) (by decide +kernel)
theorem dX12_best_283 : decode cX12_best 283 = .ok (.aload_n 0, 1) := od_42  (by decide +kernel)
theorem dX12_best_284 : decode cX12_best 284 = .ok (.iload_n 2, 1) := od_28  (by decide +kernel)
theorem dX12_best_285 : decode cX12_best 285 = .ok (.iload_n 3, 1) := od_29  (by decide +kernel)
theorem dX12_best_286 : decode cX12_best 286 = .ok (.iload_n 1, 1) := od_27  (by decide +kernel)
theorem dX12_best_287 : decode cX12_best 287 = .ok (.invokevirtual 535, 3) := od_182 (a := 2) (b := 23) (by decide +kernel) (by decide)
theorem dX12_best_290 : decode cX12_best 290 = .ok (.lload 5, 2) := od_22 (n := 5) (by decide +kernel)
theorem dX12_best_292 : decode cX12_best 292 = .ok (.lreturn, 1) := od_173  (by decide +kernel)
end

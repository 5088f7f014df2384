section
set_option maxHeartbeats 8000000 in
set_option maxRecDepth 100000 in
theorem law_case_0 {p : Program} {l : Launch} {e : Env} {s : State} {m : MethodId} {below : List Frame} {meth : Method} {c : Code} {b N9 : Nat} {xs : Nat → Int32} {dC : Nat → ClassId} {dI : Nat → Nat → Nat} {κ : Nat → ClassId} {adK adV : Nat → Nat} {zv : Option Nat} {xo mo : Nat} {k cells slots : Nat} {i : Int32} (C0 : lw_At p s m meth c b N9 xs) (hN9 : N9 ≤ 4608) (hN : nz_ok s) (hZ : pw_Z adK adV zv (fun q : Nat => s.heap.size ≤ q) s s.heap) (hK : va_K (dC, dI) vwCl (tp_K κ) s) (hk : 9 * k + 9 ≤ N9) (hi : i.toInt = 9 * (k : Int)) (hc : cells + 110 ≤ 600000) (hs : slots + 2634 ≤ 7302249) (kk : ∀ (τ ν : Nat → Nat) (ρ : Nat → Nat → Nat) (L : List Nat) (f : Nat → va_E) (H : Heap) (locs : List Loc) (ls : Array Slot), lz_I κ xo mo τ ν ρ L f → va_P (dC, dI) vwCl (va_pl L f) H → va_D (fun q : Nat => s.heap.size ≤ q) (va_pl L f) → va_S (fun q : Nat => s.heap.size ≤ q) s.heap H locs → lv_has ls 4 [(0, .ref b), (1, .ref xo), (2, .ref mo), (3, .int i)] → W p l e room_1 s m #[Value.ref b] below meth c H locs (cells + 110) (slots + 2634) (lw_Z below #[Value.ref b] s) (F0 m 1710 ls [])) {τ ν : Nat → Nat} {ρ : Nat → Nat → Nat} {L : List Nat} {f : Nat → va_E} {H : Heap} {locs : List Loc} {ls : Array Slot}  (hI : lz_I κ xo mo τ ν ρ L f) (hP : va_P (dC, dI) vwCl (va_pl L f) H) (hD : va_D (fun q : Nat => s.heap.size ≤ q) (va_pl L f)) (hS : va_S (fun q : Nat => s.heap.size ≤ q) s.heap H locs) (hl : lv_has ls 4 [(0, .ref b), (1, .ref xo), (2, .ref mo), (3, .int i)]) : W p l e room_1 s m #[Value.ref b] below meth c H locs cells slots (lw_Z below #[Value.ref b] s) (F0 m 208 ls []) := by
  obtain ⟨hx, hb, hr, hml, hown, hts, hX, hbl, hlocks, hgv⟩ := id C0
  have hown : s.vm.findClass RL = some m.cls := hown
  have hA : ∀ q : Nat, s.heap.size ≤ q → (fun q : Nat => s.heap.size ≤ q) q := fun _ h => h
  have hbA : ¬ (fun q : Nat => s.heap.size ≤ q) b := Nat.not_le.mpr hbl
  obtain ⟨hG, hT, hxo, hmo, hJ, hIM, ⟨l0, l1, l2, l3, l4, l5, l6⟩, hPm⟩ := hI
  have hrow := (tpg_13 hG hmo).1; have hims := (tpg_13 hG hmo).2.1; have hkep := (tpg_13 hG hmo).2.2.1
  refine lv_aload_n hx hb dL_law_208 rfl (lv_at hl 1 rfl) ?_
  refine lv_aload_n hx hb dL_law_209 rfl (lv_at hl 0 rfl) ?_
  refine lv_iload_n hx hb dL_law_210 rfl (lv_at hl 3 rfl) ?_
  refine lv_iconst (v := 1) hx hb dL_law_211 (by decide) ?_
  refine lv_iadd hx hb dL_law_212 ?_
  refine lv_topi (fun z1 ez1 => ?_)
  have iz1 : z1.toInt = i.toInt + 1 := zi_add ez1 rfl (show (1 : Int32).toInt = 1 from rfl) (by omega) (by omega)
  refine va_sld hx hb hX hbl hbA hS (vp_in_iff.mpr ⟨by omega, by omega⟩) dL_law_213 ?_
  refine lv_topi (fun y2 ey2 => ?_)
  obtain rfl : y2 = xs (9 * k + 1) := ey2.trans (congrArg xs (show z1.toInt.toNat = 9 * k + 1 by omega))
  refine lv_aload_n hx hb dL_law_214 rfl (lv_at hl 0 rfl) ?_
  refine lv_iload_n hx hb dL_law_215 rfl (lv_at hl 3 rfl) ?_
  refine lv_iconst (v := 2) hx hb dL_law_216 (by decide) ?_
  refine lv_iadd hx hb dL_law_217 ?_
  refine lv_topi (fun z3 ez3 => ?_)
  have iz3 : z3.toInt = i.toInt + 2 := zi_add ez3 rfl (show (2 : Int32).toInt = 2 from rfl) (by omega) (by omega)
  refine va_sld hx hb hX hbl hbA hS (vp_in_iff.mpr ⟨by omega, by omega⟩) dL_law_218 ?_
  refine lv_topi (fun y4 ey4 => ?_)
  obtain rfl : y4 = xs (9 * k + 2) := ey4.trans (congrArg xs (show z3.toInt.toNat = 9 * k + 2 by omega))
  refine lv_aload_n hx hb dL_law_219 rfl (lv_at hl 0 rfl) ?_
  refine lv_iload_n hx hb dL_law_220 rfl (lv_at hl 3 rfl) ?_
  refine lv_iconst (v := 3) hx hb dL_law_221 (by decide) ?_
  refine lv_iadd hx hb dL_law_222 ?_
  refine lv_topi (fun z5 ez5 => ?_)
  have iz5 : z5.toInt = i.toInt + 3 := zi_add ez5 rfl (show (3 : Int32).toInt = 3 from rfl) (by omega) (by omega)
  refine va_sld hx hb hX hbl hbA hS (vp_in_iff.mpr ⟨by omega, by omega⟩) dL_law_223 ?_
  refine lv_topi (fun y6 ey6 => ?_)
  obtain rfl : y6 = xs (9 * k + 3) := ey6.trans (congrArg xs (show z5.toInt.toNat = 9 * k + 3 by omega))
  refine lv_aload_n hx hb dL_law_224 rfl (lv_at hl 0 rfl) ?_
  refine lv_iload_n hx hb dL_law_225 rfl (lv_at hl 3 rfl) ?_
  refine lv_iconst (v := 4) hx hb dL_law_226 (by decide) ?_
  refine lv_iadd hx hb dL_law_227 ?_
  refine lv_topi (fun z7 ez7 => ?_)
  have iz7 : z7.toInt = i.toInt + 4 := zi_add ez7 rfl (show (4 : Int32).toInt = 4 from rfl) (by omega) (by omega)
  refine va_sld hx hb hX hbl hbA hS (vp_in_iff.mpr ⟨by omega, by omega⟩) dL_law_228 ?_
  refine lv_topi (fun y8 ey8 => ?_)
  obtain rfl : y8 = xs (9 * k + 4) := ey8.trans (congrArg xs (show z7.toInt.toNat = 9 * k + 4 by omega))
  refine tgk_12 hG hxo (fun y9 y9l y10 y11 y12 y13 y14 y15a y15b y15c => ?_)
  refine tpk_12 hT hxo (fun o16_x6 hf_o16 => ?_)
  refine tpk_pos (tp_in hG hxo (by decide)) hf_o16 (fun q17 eq17 => ?_)
  have hFc := tp_fr hD hS hA
  obtain ⟨R_22, hRe_22⟩ : ∃ R, R = mo_R (mo_i (f (ρ mo 2))) := ⟨_, rfl⟩; rw [← hRe_22] at l0 l1 l2 l3 l4 l5 l6
  refine va_calli (va_runV (As := [.int (xs (9 * k + 1)), .int (xs (9 * k + 2)), .int (xs (9 * k + 3)), .int (xs (9 * k + 4))]) (rest := []) ⟨hx, hb, hml, hown, hts⟩ (t_X11_terminal l dC dI _ (mo_O κ mo_n) κ τ ν ρ L f hG hT xo (xs (9 * k + 1)) (xs (9 * k + 2)) (xs (9 * k + 3)) (xs (9 * k + 4)) hxo) (cwV 4 hts gz_X11_terminal rfl rfl rfl ⟨rfl, pd_X11_terminal⟩ ⟨Nat.le_of_ble_eq_true rfl, Nat.le_of_ble_eq_true rfl⟩) ⟨pz_blind, va_recv hK hP (ci := 11) (q0 := q17) rfl eq17, pz_pre hP hK hD hN⟩ rfl rfl hl.1 rfl (lv_room (Nat.le_of_ble_eq_true rfl)) dL_law_229 ⟨by show _ ≤ 600000; omega, by show _ ≤ 7302249; omega⟩) hS (fun q _ h => hFc q h) hFc (fun r18 f20 t H1 locs ht hvm hw19 hB hz1 hk1 hS => ?_)
  refine tn_4 hw19 (fun hT1 hF21 hw19r hw19p => ?_); clear hw19
  obtain ⟨hw_t, hw_l⟩ := (tpg_12 hG hxo).1
  obtain ⟨-, -, -, -, -, -, ⟨ht13, -, hl13⟩, ⟨ht14, -, hl14⟩, ⟨ht15, -, -, hl15⟩, -, -, ⟨ht18, -, -, hl18⟩⟩ := tpg_11 hG hw_t
  have hJ : mo_RI (-1) 0 (mo_R (mo_i (f20 (ρ mo 2)))) := by rw [hF21 _ (by rw [hrow]; decide)]; exact hJ
  have hIM : mo_IM (mo_R (mo_i (f20 (ρ mo 3)))) := by rw [hF21 _ (by rw [hims]; decide)]; exact hIM
  obtain ⟨hXE, hw19pq⟩ := hw19p
  have it23 : (((¬ ((0 ≤ (xs (9 * k + 2)).toInt ∧ (xs (9 * k + 2)).toInt ≤ 500000) ∧ (0 ≤ (xs (9 * k + 1)).toInt ∧ (xs (9 * k + 1)).toInt ≤ (xs (9 * k + 2)).toInt) ∧ (1 ≤ (xs (9 * k + 3)).toInt ∧ (xs (9 * k + 3)).toInt ≤ 10000) ∧ (0 ≤ (xs (9 * k + 4)).toInt ∧ (xs (9 * k + 4)).toInt ≤ 30))) → r18.toInt = -1) ∧ (¬ (¬ ((0 ≤ (xs (9 * k + 2)).toInt ∧ (xs (9 * k + 2)).toInt ≤ 500000) ∧ (0 ≤ (xs (9 * k + 1)).toInt ∧ (xs (9 * k + 1)).toInt ≤ (xs (9 * k + 2)).toInt) ∧ (1 ≤ (xs (9 * k + 3)).toInt ∧ (xs (9 * k + 3)).toInt ≤ 10000) ∧ (0 ≤ (xs (9 * k + 4)).toInt ∧ (xs (9 * k + 4)).toInt ≤ 30))) → (((R_22 (0) = 6) → r18.toInt = -5) ∧ (¬ (R_22 (0) = 6) → r18.toInt = R_22 (0))))) := by have q9 := hw19pq.1; first | exact q9 | (simp only [l0, l1, l2, l3, l4, l5, l6] at q9; exact q9)
  have it24 : (((¬ ((0 ≤ (xs (9 * k + 2)).toInt ∧ (xs (9 * k + 2)).toInt ≤ 500000) ∧ (0 ≤ (xs (9 * k + 1)).toInt ∧ (xs (9 * k + 1)).toInt ≤ (xs (9 * k + 2)).toInt) ∧ (1 ≤ (xs (9 * k + 3)).toInt ∧ (xs (9 * k + 3)).toInt ≤ 10000) ∧ (0 ≤ (xs (9 * k + 4)).toInt ∧ (xs (9 * k + 4)).toInt ≤ 30))) → (tp_fld (f20 (ρ xo 0)) 4) = R_22 (0)) ∧ (¬ (¬ ((0 ≤ (xs (9 * k + 2)).toInt ∧ (xs (9 * k + 2)).toInt ≤ 500000) ∧ (0 ≤ (xs (9 * k + 1)).toInt ∧ (xs (9 * k + 1)).toInt ≤ (xs (9 * k + 2)).toInt) ∧ (1 ≤ (xs (9 * k + 3)).toInt ∧ (xs (9 * k + 3)).toInt ≤ 10000) ∧ (0 ≤ (xs (9 * k + 4)).toInt ∧ (xs (9 * k + 4)).toInt ≤ 30))) → (((R_22 (0) = 6) → (tp_fld (f20 (ρ xo 0)) 4) = R_22 (0)) ∧ (¬ (R_22 (0) = 6) → (tp_fld (f20 (ρ xo 0)) 4) = R_22 (0) + 1)))) := by have q9 := hw19pq.2.1; first | exact q9 | (simp only [l0, l1, l2, l3, l4, l5, l6] at q9; exact q9)
  have it25 : (tp_fld (f20 (ρ xo 0)) 0) = R_22 (11) := by have q9 := hw19pq.2.2.1; first | exact q9 | (simp only [l0, l1, l2, l3, l4, l5, l6] at q9; exact q9)
  have it26 : (tp_fld (f20 (ρ xo 0)) 5) = R_22 (1) := by have q9 := hw19pq.2.2.2; first | exact q9 | (simp only [l0, l1, l2, l3, l4, l5, l6] at q9; exact q9)
  have m0 := it25
  have m2 := it26
  have m3 : tp_fld (f20 (ρ (ρ xo 0) 13)) 3 = R_22 (3) := (congrArg (fun q => tp_fld q 3) (hXE (ρ (ρ xo 0) 13) (Or.inr (Or.inl ht13)) (fun q9 => by have q8 : (ρ (ρ (ρ xo 0) 13) 30) = 0 := q9; omega))).trans l3
  have m4 : tp_fld (f20 (ρ (ρ xo 0) 14)) 3 = R_22 (7) := (congrArg (fun q => tp_fld q 3) (hXE (ρ (ρ xo 0) 14) (Or.inr (Or.inl ht14)) (fun q9 => by have q8 : (ρ (ρ (ρ xo 0) 14) 30) = 0 := q9; omega))).trans l4
  have m5 : tp_fld (f20 (ρ (ρ xo 0) 15)) 2 = R_22 (6) := (congrArg (fun q => tp_fld q 2) (hXE (ρ (ρ xo 0) 15) (Or.inl ht15) (fun q9 => by have q8 : (ρ (ρ (ρ xo 0) 15) 30) = 0 := q9; omega))).trans l5
  have m6 : tp_fld (f20 (ρ (ρ xo 0) 18)) 2 = R_22 (10) := (congrArg (fun q => tp_fld q 2) (hXE (ρ (ρ xo 0) 18) (Or.inl ht18) (fun q9 => by have q8 : (ρ (ρ (ρ xo 0) 18) 30) = 0 := q9; omega))).trans l6
  have m1 := it24
  have hPm := lz_P.keep hG hT hxo hXE (fun n q9 => by have q8 : n = 0 := q9; first | exact q8.elim | omega) (hF21 _ (by rw [(tpg_12 hG hxo).2.1]; decide)) (by rw [hF21 _ (by rw [hims]; decide)]) (by rw [hF21 _ (by rw [hkep]; decide)]) hPm
  have l0 := m0
  have l1 := m1
  have l2 := m2
  have l3 := m3
  have l4 := m4
  have l5 := m5
  have l6 := m6
  have hRe : mo_R (mo_i (f20 (ρ mo 2))) = R_22 := by rw [hF21 _ (by rw [hrow]; decide)]; exact hRe_22.symm
  have hT := hT1
  have hP := hB.1; rw [ht] at hP; have hD := tp_ad f20 hD; clear hB hFc hz1 hk1; subst ht; generalize t.heap = H at hP hS ⊢
  refine lv_pop hx hb dL_law_232 rfl ?_
  refine lv_aload_n hx hb dL_law_233 rfl (lv_at hl 2 rfl) ?_
  refine lv_aload_n hx hb dL_law_234 rfl (lv_at hl 0 rfl) ?_
  refine lv_iload_n hx hb dL_law_235 rfl (lv_at hl 3 rfl) ?_
  refine lv_iconst (v := 1) hx hb dL_law_236 (by decide) ?_
  refine lv_iadd hx hb dL_law_237 ?_
  refine lv_topi (fun z27 ez27 => ?_)
  have iz27 : z27.toInt = i.toInt + 1 := zi_add ez27 rfl (show (1 : Int32).toInt = 1 from rfl) (by omega) (by omega)
  refine va_sld hx hb hX hbl hbA hS (vp_in_iff.mpr ⟨by omega, by omega⟩) dL_law_238 ?_
  refine lv_topi (fun y28 ey28 => ?_)
  obtain rfl : y28 = xs (9 * k + 1) := ey28.trans (congrArg xs (show z27.toInt.toNat = 9 * k + 1 by omega))
  refine lv_aload_n hx hb dL_law_239 rfl (lv_at hl 0 rfl) ?_
  refine lv_iload_n hx hb dL_law_240 rfl (lv_at hl 3 rfl) ?_
  refine lv_iconst (v := 2) hx hb dL_law_241 (by decide) ?_
  refine lv_iadd hx hb dL_law_242 ?_
  refine lv_topi (fun z29 ez29 => ?_)
  have iz29 : z29.toInt = i.toInt + 2 := zi_add ez29 rfl (show (2 : Int32).toInt = 2 from rfl) (by omega) (by omega)
  refine va_sld hx hb hX hbl hbA hS (vp_in_iff.mpr ⟨by omega, by omega⟩) dL_law_243 ?_
  refine lv_topi (fun y30 ey30 => ?_)
  obtain rfl : y30 = xs (9 * k + 2) := ey30.trans (congrArg xs (show z29.toInt.toNat = 9 * k + 2 by omega))
  refine lv_aload_n hx hb dL_law_244 rfl (lv_at hl 0 rfl) ?_
  refine lv_iload_n hx hb dL_law_245 rfl (lv_at hl 3 rfl) ?_
  refine lv_iconst (v := 3) hx hb dL_law_246 (by decide) ?_
  refine lv_iadd hx hb dL_law_247 ?_
  refine lv_topi (fun z31 ez31 => ?_)
  have iz31 : z31.toInt = i.toInt + 3 := zi_add ez31 rfl (show (3 : Int32).toInt = 3 from rfl) (by omega) (by omega)
  refine va_sld hx hb hX hbl hbA hS (vp_in_iff.mpr ⟨by omega, by omega⟩) dL_law_248 ?_
  refine lv_topi (fun y32 ey32 => ?_)
  obtain rfl : y32 = xs (9 * k + 3) := ey32.trans (congrArg xs (show z31.toInt.toNat = 9 * k + 3 by omega))
  refine lv_aload_n hx hb dL_law_249 rfl (lv_at hl 0 rfl) ?_
  refine lv_iload_n hx hb dL_law_250 rfl (lv_at hl 3 rfl) ?_
  refine lv_iconst (v := 4) hx hb dL_law_251 (by decide) ?_
  refine lv_iadd hx hb dL_law_252 ?_
  refine lv_topi (fun z33 ez33 => ?_)
  have iz33 : z33.toInt = i.toInt + 4 := zi_add ez33 rfl (show (4 : Int32).toInt = 4 from rfl) (by omega) (by omega)
  refine va_sld hx hb hX hbl hbA hS (vp_in_iff.mpr ⟨by omega, by omega⟩) dL_law_253 ?_
  refine lv_topi (fun y34 ey34 => ?_)
  obtain rfl : y34 = xs (9 * k + 4) := ey34.trans (congrArg xs (show z33.toInt.toNat = 9 * k + 4 by omega))
  refine tgk_13 hG hmo (fun y35 y36 y37 y38 y39 y40 y41 y42 y43 y44 y45 y46 y47 y48 y49 y50 y51 y52 y53 y54 y55 y56 y57 y58 y59 => ?_)
  refine tpk_13 hT hmo (fun o60_x0 o60_x1 o60_x7 o60_x9 o60_x10 o60_x11 o60_x12 o60_x13 o60_x14 o60_x15 o60_x16 o60_x17 o60_x18 o60_x19 o60_x20 o60_x22 o60_x25 o60_x28 o60_x29 o60_x32 o60_x33 o60_x34 o60_x35 o60_x36 o60_x37 o60_x38 o60_x47 o60_x48 hf_o60 ro60_0 ro60_1 ro60_2 ro60_3 ro60_4 ro60_5 ro60_6 ro60_7 ro60_8 ro60_9 ro60_10 ro60_11 ro60_12 ro60_13 ro60_14 => ?_)
  refine tpk_pos (tp_in hG hmo (by decide)) hf_o60 (fun q61 eq61 => ?_)
  have hFc := tp_fr hD hS hA
  have hRe_66 : R_22 = mo_R (mo_i (f20 (ρ mo 2))) := hRe.symm
  refine va_calli (va_runV (As := [.int (xs (9 * k + 1)), .int (xs (9 * k + 2)), .int (xs (9 * k + 3)), .int (xs (9 * k + 4))]) (rest := []) ⟨hx, hb, hml, hown, hts⟩ (t_X12_terminal l dC dI _ κ mo_n τ ν ρ L f20 hG hT mo (xs (9 * k + 1)) (xs (9 * k + 2)) (xs (9 * k + 3)) (xs (9 * k + 4)) hmo hJ) (cwV 4 hts gz_X12_terminal rfl rfl rfl ⟨rfl, pd_X12_terminal⟩ ⟨Nat.le_of_ble_eq_true rfl, Nat.le_of_ble_eq_true rfl⟩) ⟨pz_blind, va_recv hK hP (ci := 12) (q0 := q61) rfl eq61, pz_pre hP hK hD hN⟩ rfl rfl hl.1 rfl (lv_room (Nat.le_of_ble_eq_true rfl)) dL_law_254 ⟨by show _ ≤ 600000; omega, by show _ ≤ 7302249; omega⟩) hS (fun q _ h => hFc q h) hFc (fun r62 f64 t H1 locs ht hvm hw63 hB hz1 hk1 hS => ?_)
  refine tn_4 hw63 (fun hT1 hF65 hw63r hw63p => ?_); clear hw63
  obtain ⟨hw_t, hw_l⟩ := (tpg_12 hG hxo).1
  obtain ⟨-, -, -, -, -, -, ⟨ht13, -, hl13⟩, ⟨ht14, -, hl14⟩, ⟨ht15, -, -, hl15⟩, -, -, ⟨ht18, -, -, hl18⟩⟩ := tpg_11 hG hw_t
  obtain ⟨hJ, hw63pb⟩ := hw63p
  obtain ⟨Rn, hRn⟩ : ∃ R, R = mo_R (mo_i (f64 (ρ mo 2))) := ⟨_, rfl⟩
  rw [← hRn, ← hRe_66] at hw63pb
  obtain ⟨hKN, hw63pbk⟩ := hw63pb
  have hIM : mo_IM (mo_R (mo_i (f64 (ρ mo 3)))) := by rw [hF65 _ (by rw [hims]; decide)]; exact hIM
  obtain ⟨pa9, pc9⟩ := hw63pbk
  have m0 : tp_fld (f64 (ρ xo 0)) 0 = Rn (11) := ((congrArg (fun q => tp_fld q 0) (hF65 (ρ xo 0) (by rw [hw_t]; decide))).trans l0).trans (hKN (11) (by decide) (by decide) (fun q9 => by have q8 : (11 : Int) = 0 := q9; omega)).symm
  have m1 : tp_fld (f64 (ρ xo 0)) 4 = Rn (0) := (congrArg (fun q => tp_fld q 4) (hF65 (ρ xo 0) (by rw [hw_t]; decide))).trans ((fun h1 h2 => tp_i h1 h2 (fun h1 h2 => tp_i h1 h2 (fun h1 h2 => h1.trans h2.symm))) l1 pc9)
  have m2 : tp_fld (f64 (ρ xo 0)) 5 = Rn (1) := ((congrArg (fun q => tp_fld q 5) (hF65 (ρ xo 0) (by rw [hw_t]; decide))).trans l2).trans (hKN (1) (by decide) (by decide) (fun q9 => by have q8 : (1 : Int) = 0 := q9; omega)).symm
  have m3 : tp_fld (f64 (ρ (ρ xo 0) 13)) 3 = Rn (3) := ((congrArg (fun q => tp_fld q 3) (hF65 (ρ (ρ xo 0) 13) (by rw [ht13]; decide))).trans l3).trans (hKN (3) (by decide) (by decide) (fun q9 => by have q8 : (3 : Int) = 0 := q9; omega)).symm
  have m4 : tp_fld (f64 (ρ (ρ xo 0) 14)) 3 = Rn (7) := ((congrArg (fun q => tp_fld q 3) (hF65 (ρ (ρ xo 0) 14) (by rw [ht14]; decide))).trans l4).trans (hKN (7) (by decide) (by decide) (fun q9 => by have q8 : (7 : Int) = 0 := q9; omega)).symm
  have m5 : tp_fld (f64 (ρ (ρ xo 0) 15)) 2 = Rn (6) := ((congrArg (fun q => tp_fld q 2) (hF65 (ρ (ρ xo 0) 15) (by rw [ht15]; decide))).trans l5).trans (hKN (6) (by decide) (by decide) (fun q9 => by have q8 : (6 : Int) = 0 := q9; omega)).symm
  have m6 : tp_fld (f64 (ρ (ρ xo 0) 18)) 2 = Rn (10) := ((congrArg (fun q => tp_fld q 2) (hF65 (ρ (ρ xo 0) 18) (by rw [ht18]; decide))).trans l6).trans (hKN (10) (by decide) (by decide) (fun q9 => by have q8 : (10 : Int) = 0 := q9; omega)).symm
  have l0 := m0
  have l1 := m1
  have l2 := m2
  have l3 := m3
  have l4 := m4
  have l5 := m5
  have l6 := m6
  rw [hRn] at l0 l1 l2 l3 l4 l5 l6
  have hPm := lz_P.keep hG hT hxo (tp_X.of (E := fun _ => False) hF65 (by decide)) (fun n q9 => False.elim q9) (hF65 _ (by rw [(tpg_12 hG hxo).2.1]; decide)) (by rw [hF65 _ (by rw [hims]; decide)]) (by rw [hF65 _ (by rw [hkep]; decide)]) hPm
  have hT := hT1
  have hP := hB.1; rw [ht] at hP; have hD := tp_ad f64 hD; clear hB hFc hz1 hk1; subst ht; generalize t.heap = H at hP hS ⊢
  refine lv_pop hx hb dL_law_257 rfl ?_
  refine lv_goto (tgt := 1710) hx hb dL_law_258 (by decide) ?_
  refine tp_widen (cells + 110) (slots + 2634) (by omega) (by omega) ?_
  exact kk τ ν ρ L f64 _ _ _ ⟨hG, hT, hxo, hmo, hJ, hIM, ⟨l0, l1, l2, l3, l4, l5, l6⟩, hPm⟩ hP hD hS (lv_sub hl [0, 1, 2, 3] rfl)
set_option maxHeartbeats 8000000 in
set_option maxRecDepth 100000 in
theorem law_case_1 {p : Program} {l : Launch} {e : Env} {s : State} {m : MethodId} {below : List Frame} {meth : Method} {c : Code} {b N9 : Nat} {xs : Nat → Int32} {dC : Nat → ClassId} {dI : Nat → Nat → Nat} {κ : Nat → ClassId} {adK adV : Nat → Nat} {zv : Option Nat} {xo mo : Nat} {k cells slots : Nat} {i : Int32} (C0 : lw_At p s m meth c b N9 xs) (hN9 : N9 ≤ 4608) (hN : nz_ok s) (hZ : pw_Z adK adV zv (fun q : Nat => s.heap.size ≤ q) s s.heap) (hK : va_K (dC, dI) vwCl (tp_K κ) s) (hk : 9 * k + 9 ≤ N9) (hi : i.toInt = 9 * (k : Int)) (hc : cells + 110 ≤ 600000) (hs : slots + 2634 ≤ 7302249) (kk : ∀ (τ ν : Nat → Nat) (ρ : Nat → Nat → Nat) (L : List Nat) (f : Nat → va_E) (H : Heap) (locs : List Loc) (ls : Array Slot), lz_I κ xo mo τ ν ρ L f → va_P (dC, dI) vwCl (va_pl L f) H → va_D (fun q : Nat => s.heap.size ≤ q) (va_pl L f) → va_S (fun q : Nat => s.heap.size ≤ q) s.heap H locs → lv_has ls 4 [(0, .ref b), (1, .ref xo), (2, .ref mo), (3, .int i)] → W p l e room_1 s m #[Value.ref b] below meth c H locs (cells + 110) (slots + 2634) (lw_Z below #[Value.ref b] s) (F0 m 1710 ls [])) {τ ν : Nat → Nat} {ρ : Nat → Nat → Nat} {L : List Nat} {f : Nat → va_E} {H : Heap} {locs : List Loc} {ls : Array Slot}  (hI : lz_I κ xo mo τ ν ρ L f) (hP : va_P (dC, dI) vwCl (va_pl L f) H) (hD : va_D (fun q : Nat => s.heap.size ≤ q) (va_pl L f)) (hS : va_S (fun q : Nat => s.heap.size ≤ q) s.heap H locs) (hl : lv_has ls 4 [(0, .ref b), (1, .ref xo), (2, .ref mo), (3, .int i)]) : W p l e room_1 s m #[Value.ref b] below meth c H locs cells slots (lw_Z below #[Value.ref b] s) (F0 m 261 ls []) := by
  obtain ⟨hx, hb, hr, hml, hown, hts, hX, hbl, hlocks, hgv⟩ := id C0
  have hown : s.vm.findClass RL = some m.cls := hown
  have hA : ∀ q : Nat, s.heap.size ≤ q → (fun q : Nat => s.heap.size ≤ q) q := fun _ h => h
  have hbA : ¬ (fun q : Nat => s.heap.size ≤ q) b := Nat.not_le.mpr hbl
  obtain ⟨hG, hT, hxo, hmo, hJ, hIM, ⟨l0, l1, l2, l3, l4, l5, l6⟩, hPm⟩ := hI
  have hrow := (tpg_13 hG hmo).1; have hims := (tpg_13 hG hmo).2.1; have hkep := (tpg_13 hG hmo).2.2.1
  refine lv_aload_n hx hb dL_law_261 rfl (lv_at hl 1 rfl) ?_
  refine lv_aload_n hx hb dL_law_262 rfl (lv_at hl 0 rfl) ?_
  refine lv_iload_n hx hb dL_law_263 rfl (lv_at hl 3 rfl) ?_
  refine lv_iconst (v := 1) hx hb dL_law_264 (by decide) ?_
  refine lv_iadd hx hb dL_law_265 ?_
  refine lv_topi (fun z1 ez1 => ?_)
  have iz1 : z1.toInt = i.toInt + 1 := zi_add ez1 rfl (show (1 : Int32).toInt = 1 from rfl) (by omega) (by omega)
  refine va_sld hx hb hX hbl hbA hS (vp_in_iff.mpr ⟨by omega, by omega⟩) dL_law_266 ?_
  refine lv_topi (fun y2 ey2 => ?_)
  obtain rfl : y2 = xs (9 * k + 1) := ey2.trans (congrArg xs (show z1.toInt.toNat = 9 * k + 1 by omega))
  refine lv_aload_n hx hb dL_law_267 rfl (lv_at hl 0 rfl) ?_
  refine lv_iload_n hx hb dL_law_268 rfl (lv_at hl 3 rfl) ?_
  refine lv_iconst (v := 2) hx hb dL_law_269 (by decide) ?_
  refine lv_iadd hx hb dL_law_270 ?_
  refine lv_topi (fun z3 ez3 => ?_)
  have iz3 : z3.toInt = i.toInt + 2 := zi_add ez3 rfl (show (2 : Int32).toInt = 2 from rfl) (by omega) (by omega)
  refine va_sld hx hb hX hbl hbA hS (vp_in_iff.mpr ⟨by omega, by omega⟩) dL_law_271 ?_
  refine lv_topi (fun y4 ey4 => ?_)
  obtain rfl : y4 = xs (9 * k + 2) := ey4.trans (congrArg xs (show z3.toInt.toNat = 9 * k + 2 by omega))
  refine lv_aload_n hx hb dL_law_272 rfl (lv_at hl 0 rfl) ?_
  refine lv_iload_n hx hb dL_law_273 rfl (lv_at hl 3 rfl) ?_
  refine lv_iconst (v := 3) hx hb dL_law_274 (by decide) ?_
  refine lv_iadd hx hb dL_law_275 ?_
  refine lv_topi (fun z5 ez5 => ?_)
  have iz5 : z5.toInt = i.toInt + 3 := zi_add ez5 rfl (show (3 : Int32).toInt = 3 from rfl) (by omega) (by omega)
  refine va_sld hx hb hX hbl hbA hS (vp_in_iff.mpr ⟨by omega, by omega⟩) dL_law_276 ?_
  refine lv_topi (fun y6 ey6 => ?_)
  obtain rfl : y6 = xs (9 * k + 3) := ey6.trans (congrArg xs (show z5.toInt.toNat = 9 * k + 3 by omega))
  refine tgk_12 hG hxo (fun y7 y7l y8 y9 y10 y11 y12 y13a y13b y13c => ?_)
  refine tpk_12 hT hxo (fun o14_x6 hf_o14 => ?_)
  refine tpk_pos (tp_in hG hxo (by decide)) hf_o14 (fun q15 eq15 => ?_)
  have hFc := tp_fr hD hS hA
  obtain ⟨R_20, hRe_20⟩ : ∃ R, R = mo_R (mo_i (f (ρ mo 2))) := ⟨_, rfl⟩; rw [← hRe_20] at l0 l1 l2 l3 l4 l5 l6
  refine va_calli (va_runV (As := [.int (xs (9 * k + 1)), .int (xs (9 * k + 2)), .int (xs (9 * k + 3))]) (rest := []) ⟨hx, hb, hml, hown, hts⟩ (t_X11_ship l dC dI _ (mo_O κ mo_n) κ τ ν ρ L f hG hT xo (xs (9 * k + 1)) (xs (9 * k + 2)) (xs (9 * k + 3)) hxo) (cwV 3 hts gz_X11_ship rfl rfl rfl ⟨rfl, pd_X11_ship⟩ ⟨Nat.le_of_ble_eq_true rfl, Nat.le_of_ble_eq_true rfl⟩) ⟨pz_blind, va_recv hK hP (ci := 11) (q0 := q15) rfl eq15, pz_pre hP hK hD hN⟩ rfl rfl hl.1 rfl (lv_room (Nat.le_of_ble_eq_true rfl)) dL_law_277 ⟨by show _ ≤ 600000; omega, by show _ ≤ 7302249; omega⟩) hS (fun q _ h => hFc q h) hFc (fun r16 f18 t H1 locs ht hvm hw17 hB hz1 hk1 hS => ?_)
  refine tn_4 hw17 (fun hT1 hF19 hw17r hw17p => ?_); clear hw17
  obtain ⟨hw_t, hw_l⟩ := (tpg_12 hG hxo).1
  obtain ⟨-, -, -, -, -, -, ⟨ht13, -, hl13⟩, ⟨ht14, -, hl14⟩, ⟨ht15, -, -, hl15⟩, -, -, ⟨ht18, -, -, hl18⟩⟩ := tpg_11 hG hw_t
  have hJ : mo_RI (-1) 0 (mo_R (mo_i (f18 (ρ mo 2)))) := by rw [hF19 _ (by rw [hrow]; decide)]; exact hJ
  have hIM : mo_IM (mo_R (mo_i (f18 (ρ mo 3)))) := by rw [hF19 _ (by rw [hims]; decide)]; exact hIM
  obtain ⟨hXE, hw17pq⟩ := hw17p
  have it21 : (((¬ ((1000 ≤ (xs (9 * k + 2)).toInt ∧ (xs (9 * k + 2)).toInt ≤ 200000) ∧ (1 ≤ (xs (9 * k + 3)).toInt ∧ (xs (9 * k + 3)).toInt ≤ 50))) → r16.toInt = -1) ∧ (¬ (¬ ((1000 ≤ (xs (9 * k + 2)).toInt ∧ (xs (9 * k + 2)).toInt ≤ 200000) ∧ (1 ≤ (xs (9 * k + 3)).toInt ∧ (xs (9 * k + 3)).toInt ≤ 50))) → (((¬ (0 ≤ (xs (9 * k + 1)).toInt ∧ (xs (9 * k + 1)).toInt < R_20 (0))) → r16.toInt = -2) ∧ (¬ (¬ (0 ≤ (xs (9 * k + 1)).toInt ∧ (xs (9 * k + 1)).toInt < R_20 (0))) → (((R_20 (1) = 6) → r16.toInt = -5) ∧ (¬ (R_20 (1) = 6) → r16.toInt = R_20 (1))))))) := by have q9 := hw17pq.1; first | exact q9 | (simp only [l0, l1, l2, l3, l4, l5, l6] at q9; exact q9)
  have it22 : (((¬ ((1000 ≤ (xs (9 * k + 2)).toInt ∧ (xs (9 * k + 2)).toInt ≤ 200000) ∧ (1 ≤ (xs (9 * k + 3)).toInt ∧ (xs (9 * k + 3)).toInt ≤ 50))) → (tp_fld (f18 (ρ xo 0)) 5) = R_20 (1)) ∧ (¬ (¬ ((1000 ≤ (xs (9 * k + 2)).toInt ∧ (xs (9 * k + 2)).toInt ≤ 200000) ∧ (1 ≤ (xs (9 * k + 3)).toInt ∧ (xs (9 * k + 3)).toInt ≤ 50))) → (((¬ (0 ≤ (xs (9 * k + 1)).toInt ∧ (xs (9 * k + 1)).toInt < R_20 (0))) → (tp_fld (f18 (ρ xo 0)) 5) = R_20 (1)) ∧ (¬ (¬ (0 ≤ (xs (9 * k + 1)).toInt ∧ (xs (9 * k + 1)).toInt < R_20 (0))) → (((R_20 (1) = 6) → (tp_fld (f18 (ρ xo 0)) 5) = R_20 (1)) ∧ (¬ (R_20 (1) = 6) → (tp_fld (f18 (ρ xo 0)) 5) = R_20 (1) + 1)))))) := by have q9 := hw17pq.2.1; first | exact q9 | (simp only [l0, l1, l2, l3, l4, l5, l6] at q9; exact q9)
  have it23 : (tp_fld (f18 (ρ xo 0)) 0) = R_20 (11) := by have q9 := hw17pq.2.2.1; first | exact q9 | (simp only [l0, l1, l2, l3, l4, l5, l6] at q9; exact q9)
  have it24 : (tp_fld (f18 (ρ xo 0)) 4) = R_20 (0) := by have q9 := hw17pq.2.2.2; first | exact q9 | (simp only [l0, l1, l2, l3, l4, l5, l6] at q9; exact q9)
  have m0 := it23
  have m1 := it24
  have m3 : tp_fld (f18 (ρ (ρ xo 0) 13)) 3 = R_20 (3) := (congrArg (fun q => tp_fld q 3) (hXE (ρ (ρ xo 0) 13) (Or.inr (Or.inl ht13)) (fun q9 => by have q8 : (ρ (ρ (ρ xo 0) 13) 30) = 0 := q9; omega))).trans l3
  have m4 : tp_fld (f18 (ρ (ρ xo 0) 14)) 3 = R_20 (7) := (congrArg (fun q => tp_fld q 3) (hXE (ρ (ρ xo 0) 14) (Or.inr (Or.inl ht14)) (fun q9 => by have q8 : (ρ (ρ (ρ xo 0) 14) 30) = 0 := q9; omega))).trans l4
  have m5 : tp_fld (f18 (ρ (ρ xo 0) 15)) 2 = R_20 (6) := (congrArg (fun q => tp_fld q 2) (hXE (ρ (ρ xo 0) 15) (Or.inl ht15) (fun q9 => by have q8 : (ρ (ρ (ρ xo 0) 15) 30) = 0 := q9; omega))).trans l5
  have m6 : tp_fld (f18 (ρ (ρ xo 0) 18)) 2 = R_20 (10) := (congrArg (fun q => tp_fld q 2) (hXE (ρ (ρ xo 0) 18) (Or.inl ht18) (fun q9 => by have q8 : (ρ (ρ (ρ xo 0) 18) 30) = 0 := q9; omega))).trans l6
  have m2 := it22
  have hPm := lz_P.keep hG hT hxo hXE (fun n q9 => by have q8 : n = 0 := q9; first | exact q8.elim | omega) (hF19 _ (by rw [(tpg_12 hG hxo).2.1]; decide)) (by rw [hF19 _ (by rw [hims]; decide)]) (by rw [hF19 _ (by rw [hkep]; decide)]) hPm
  have l0 := m0
  have l1 := m1
  have l2 := m2
  have l3 := m3
  have l4 := m4
  have l5 := m5
  have l6 := m6
  have hRe : mo_R (mo_i (f18 (ρ mo 2))) = R_20 := by rw [hF19 _ (by rw [hrow]; decide)]; exact hRe_20.symm
  have hT := hT1
  have hP := hB.1; rw [ht] at hP; have hD := tp_ad f18 hD; clear hB hFc hz1 hk1; subst ht; generalize t.heap = H at hP hS ⊢
  refine lv_pop hx hb dL_law_280 rfl ?_
  refine lv_aload_n hx hb dL_law_281 rfl (lv_at hl 2 rfl) ?_
  refine lv_aload_n hx hb dL_law_282 rfl (lv_at hl 0 rfl) ?_
  refine lv_iload_n hx hb dL_law_283 rfl (lv_at hl 3 rfl) ?_
  refine lv_iconst (v := 1) hx hb dL_law_284 (by decide) ?_
  refine lv_iadd hx hb dL_law_285 ?_
  refine lv_topi (fun z25 ez25 => ?_)
  have iz25 : z25.toInt = i.toInt + 1 := zi_add ez25 rfl (show (1 : Int32).toInt = 1 from rfl) (by omega) (by omega)
  refine va_sld hx hb hX hbl hbA hS (vp_in_iff.mpr ⟨by omega, by omega⟩) dL_law_286 ?_
  refine lv_topi (fun y26 ey26 => ?_)
  obtain rfl : y26 = xs (9 * k + 1) := ey26.trans (congrArg xs (show z25.toInt.toNat = 9 * k + 1 by omega))
  refine lv_aload_n hx hb dL_law_287 rfl (lv_at hl 0 rfl) ?_
  refine lv_iload_n hx hb dL_law_288 rfl (lv_at hl 3 rfl) ?_
  refine lv_iconst (v := 2) hx hb dL_law_289 (by decide) ?_
  refine lv_iadd hx hb dL_law_290 ?_
  refine lv_topi (fun z27 ez27 => ?_)
  have iz27 : z27.toInt = i.toInt + 2 := zi_add ez27 rfl (show (2 : Int32).toInt = 2 from rfl) (by omega) (by omega)
  refine va_sld hx hb hX hbl hbA hS (vp_in_iff.mpr ⟨by omega, by omega⟩) dL_law_291 ?_
  refine lv_topi (fun y28 ey28 => ?_)
  obtain rfl : y28 = xs (9 * k + 2) := ey28.trans (congrArg xs (show z27.toInt.toNat = 9 * k + 2 by omega))
  refine lv_aload_n hx hb dL_law_292 rfl (lv_at hl 0 rfl) ?_
  refine lv_iload_n hx hb dL_law_293 rfl (lv_at hl 3 rfl) ?_
  refine lv_iconst (v := 3) hx hb dL_law_294 (by decide) ?_
  refine lv_iadd hx hb dL_law_295 ?_
  refine lv_topi (fun z29 ez29 => ?_)
  have iz29 : z29.toInt = i.toInt + 3 := zi_add ez29 rfl (show (3 : Int32).toInt = 3 from rfl) (by omega) (by omega)
  refine va_sld hx hb hX hbl hbA hS (vp_in_iff.mpr ⟨by omega, by omega⟩) dL_law_296 ?_
  refine lv_topi (fun y30 ey30 => ?_)
  obtain rfl : y30 = xs (9 * k + 3) := ey30.trans (congrArg xs (show z29.toInt.toNat = 9 * k + 3 by omega))
  refine tgk_13 hG hmo (fun y31 y32 y33 y34 y35 y36 y37 y38 y39 y40 y41 y42 y43 y44 y45 y46 y47 y48 y49 y50 y51 y52 y53 y54 y55 => ?_)
  refine tpk_13 hT hmo (fun o56_x0 o56_x1 o56_x7 o56_x9 o56_x10 o56_x11 o56_x12 o56_x13 o56_x14 o56_x15 o56_x16 o56_x17 o56_x18 o56_x19 o56_x20 o56_x22 o56_x25 o56_x28 o56_x29 o56_x32 o56_x33 o56_x34 o56_x35 o56_x36 o56_x37 o56_x38 o56_x47 o56_x48 hf_o56 ro56_0 ro56_1 ro56_2 ro56_3 ro56_4 ro56_5 ro56_6 ro56_7 ro56_8 ro56_9 ro56_10 ro56_11 ro56_12 ro56_13 ro56_14 => ?_)
  refine tpk_pos (tp_in hG hmo (by decide)) hf_o56 (fun q57 eq57 => ?_)
  have hFc := tp_fr hD hS hA
  have hRe_62 : R_20 = mo_R (mo_i (f18 (ρ mo 2))) := hRe.symm
  refine va_calli (va_runV (As := [.int (xs (9 * k + 1)), .int (xs (9 * k + 2)), .int (xs (9 * k + 3))]) (rest := []) ⟨hx, hb, hml, hown, hts⟩ (t_X12_ship l dC dI _ κ mo_n τ ν ρ L f18 hG hT mo (xs (9 * k + 1)) (xs (9 * k + 2)) (xs (9 * k + 3)) hmo hJ) (cwV 3 hts gz_X12_ship rfl rfl rfl ⟨rfl, pd_X12_ship⟩ ⟨Nat.le_of_ble_eq_true rfl, Nat.le_of_ble_eq_true rfl⟩) ⟨pz_blind, va_recv hK hP (ci := 12) (q0 := q57) rfl eq57, pz_pre hP hK hD hN⟩ rfl rfl hl.1 rfl (lv_room (Nat.le_of_ble_eq_true rfl)) dL_law_297 ⟨by show _ ≤ 600000; omega, by show _ ≤ 7302249; omega⟩) hS (fun q _ h => hFc q h) hFc (fun r58 f60 t H1 locs ht hvm hw59 hB hz1 hk1 hS => ?_)
  refine tn_4 hw59 (fun hT1 hF61 hw59r hw59p => ?_); clear hw59
  obtain ⟨hw_t, hw_l⟩ := (tpg_12 hG hxo).1
  obtain ⟨-, -, -, -, -, -, ⟨ht13, -, hl13⟩, ⟨ht14, -, hl14⟩, ⟨ht15, -, -, hl15⟩, -, -, ⟨ht18, -, -, hl18⟩⟩ := tpg_11 hG hw_t
  obtain ⟨hJ, hw59pb⟩ := hw59p
  obtain ⟨Rn, hRn⟩ : ∃ R, R = mo_R (mo_i (f60 (ρ mo 2))) := ⟨_, rfl⟩
  rw [← hRn, ← hRe_62] at hw59pb
  obtain ⟨hKN, hw59pbk⟩ := hw59pb
  have hIM : mo_IM (mo_R (mo_i (f60 (ρ mo 3)))) := by rw [hF61 _ (by rw [hims]; decide)]; exact hIM
  obtain ⟨pa9, pc9⟩ := hw59pbk
  have m0 : tp_fld (f60 (ρ xo 0)) 0 = Rn (11) := ((congrArg (fun q => tp_fld q 0) (hF61 (ρ xo 0) (by rw [hw_t]; decide))).trans l0).trans (hKN (11) (by decide) (by decide) (fun q9 => by have q8 : (11 : Int) = 1 := q9; omega)).symm
  have m1 : tp_fld (f60 (ρ xo 0)) 4 = Rn (0) := ((congrArg (fun q => tp_fld q 4) (hF61 (ρ xo 0) (by rw [hw_t]; decide))).trans l1).trans (hKN (0) (by decide) (by decide) (fun q9 => by have q8 : (0 : Int) = 1 := q9; omega)).symm
  have m2 : tp_fld (f60 (ρ xo 0)) 5 = Rn (1) := (congrArg (fun q => tp_fld q 5) (hF61 (ρ xo 0) (by rw [hw_t]; decide))).trans ((fun h1 h2 => tp_i h1 h2 (fun h1 h2 => tp_i h1 h2 (fun h1 h2 => tp_i h1 h2 (fun h1 h2 => h1.trans h2.symm)))) l2 pc9)
  have m3 : tp_fld (f60 (ρ (ρ xo 0) 13)) 3 = Rn (3) := ((congrArg (fun q => tp_fld q 3) (hF61 (ρ (ρ xo 0) 13) (by rw [ht13]; decide))).trans l3).trans (hKN (3) (by decide) (by decide) (fun q9 => by have q8 : (3 : Int) = 1 := q9; omega)).symm
  have m4 : tp_fld (f60 (ρ (ρ xo 0) 14)) 3 = Rn (7) := ((congrArg (fun q => tp_fld q 3) (hF61 (ρ (ρ xo 0) 14) (by rw [ht14]; decide))).trans l4).trans (hKN (7) (by decide) (by decide) (fun q9 => by have q8 : (7 : Int) = 1 := q9; omega)).symm
  have m5 : tp_fld (f60 (ρ (ρ xo 0) 15)) 2 = Rn (6) := ((congrArg (fun q => tp_fld q 2) (hF61 (ρ (ρ xo 0) 15) (by rw [ht15]; decide))).trans l5).trans (hKN (6) (by decide) (by decide) (fun q9 => by have q8 : (6 : Int) = 1 := q9; omega)).symm
  have m6 : tp_fld (f60 (ρ (ρ xo 0) 18)) 2 = Rn (10) := ((congrArg (fun q => tp_fld q 2) (hF61 (ρ (ρ xo 0) 18) (by rw [ht18]; decide))).trans l6).trans (hKN (10) (by decide) (by decide) (fun q9 => by have q8 : (10 : Int) = 1 := q9; omega)).symm
  have l0 := m0
  have l1 := m1
  have l2 := m2
  have l3 := m3
  have l4 := m4
  have l5 := m5
  have l6 := m6
  rw [hRn] at l0 l1 l2 l3 l4 l5 l6
  have hPm := lz_P.keep hG hT hxo (tp_X.of (E := fun _ => False) hF61 (by decide)) (fun n q9 => False.elim q9) (hF61 _ (by rw [(tpg_12 hG hxo).2.1]; decide)) (by rw [hF61 _ (by rw [hims]; decide)]) (by rw [hF61 _ (by rw [hkep]; decide)]) hPm
  have hT := hT1
  have hP := hB.1; rw [ht] at hP; have hD := tp_ad f60 hD; clear hB hFc hz1 hk1; subst ht; generalize t.heap = H at hP hS ⊢
  refine lv_pop hx hb dL_law_300 rfl ?_
  refine lv_goto (tgt := 1710) hx hb dL_law_301 (by decide) ?_
  refine tp_widen (cells + 110) (slots + 2634) (by omega) (by omega) ?_
  exact kk τ ν ρ L f60 _ _ _ ⟨hG, hT, hxo, hmo, hJ, hIM, ⟨l0, l1, l2, l3, l4, l5, l6⟩, hPm⟩ hP hD hS (lv_sub hl [0, 1, 2, 3] rfl)
set_option maxHeartbeats 8000000 in
set_option maxRecDepth 100000 in
theorem law_case_2 {p : Program} {l : Launch} {e : Env} {s : State} {m : MethodId} {below : List Frame} {meth : Method} {c : Code} {b N9 : Nat} {xs : Nat → Int32} {dC : Nat → ClassId} {dI : Nat → Nat → Nat} {κ : Nat → ClassId} {adK adV : Nat → Nat} {zv : Option Nat} {xo mo : Nat} {k cells slots : Nat} {i : Int32} (C0 : lw_At p s m meth c b N9 xs) (hN9 : N9 ≤ 4608) (hN : nz_ok s) (hZ : pw_Z adK adV zv (fun q : Nat => s.heap.size ≤ q) s s.heap) (hK : va_K (dC, dI) vwCl (tp_K κ) s) (hk : 9 * k + 9 ≤ N9) (hi : i.toInt = 9 * (k : Int)) (hc : cells + 110 ≤ 600000) (hs : slots + 2634 ≤ 7302249) (kk : ∀ (τ ν : Nat → Nat) (ρ : Nat → Nat → Nat) (L : List Nat) (f : Nat → va_E) (H : Heap) (locs : List Loc) (ls : Array Slot), lz_I κ xo mo τ ν ρ L f → va_P (dC, dI) vwCl (va_pl L f) H → va_D (fun q : Nat => s.heap.size ≤ q) (va_pl L f) → va_S (fun q : Nat => s.heap.size ≤ q) s.heap H locs → lv_has ls 4 [(0, .ref b), (1, .ref xo), (2, .ref mo), (3, .int i)] → W p l e room_1 s m #[Value.ref b] below meth c H locs (cells + 110) (slots + 2634) (lw_Z below #[Value.ref b] s) (F0 m 1710 ls [])) {τ ν : Nat → Nat} {ρ : Nat → Nat → Nat} {L : List Nat} {f : Nat → va_E} {H : Heap} {locs : List Loc} {ls : Array Slot}  (hI : lz_I κ xo mo τ ν ρ L f) (hP : va_P (dC, dI) vwCl (va_pl L f) H) (hD : va_D (fun q : Nat => s.heap.size ≤ q) (va_pl L f)) (hS : va_S (fun q : Nat => s.heap.size ≤ q) s.heap H locs) (hl : lv_has ls 4 [(0, .ref b), (1, .ref xo), (2, .ref mo), (3, .int i)]) : W p l e room_1 s m #[Value.ref b] below meth c H locs cells slots (lw_Z below #[Value.ref b] s) (F0 m 304 ls []) := by
  obtain ⟨hx, hb, hr, hml, hown, hts, hX, hbl, hlocks, hgv⟩ := id C0
  have hown : s.vm.findClass RL = some m.cls := hown
  have hA : ∀ q : Nat, s.heap.size ≤ q → (fun q : Nat => s.heap.size ≤ q) q := fun _ h => h
  have hbA : ¬ (fun q : Nat => s.heap.size ≤ q) b := Nat.not_le.mpr hbl
  obtain ⟨hG, hT, hxo, hmo, hJ, hIM, ⟨l0, l1, l2, l3, l4, l5, l6⟩, hPm⟩ := hI
  have hrow := (tpg_13 hG hmo).1; have hims := (tpg_13 hG hmo).2.1; have hkep := (tpg_13 hG hmo).2.2.1
  refine lv_aload_n hx hb dL_law_304 rfl (lv_at hl 1 rfl) ?_
  refine lv_aload_n hx hb dL_law_305 rfl (lv_at hl 0 rfl) ?_
  refine lv_iload_n hx hb dL_law_306 rfl (lv_at hl 3 rfl) ?_
  refine lv_iconst (v := 1) hx hb dL_law_307 (by decide) ?_
  refine lv_iadd hx hb dL_law_308 ?_
  refine lv_topi (fun z1 ez1 => ?_)
  have iz1 : z1.toInt = i.toInt + 1 := zi_add ez1 rfl (show (1 : Int32).toInt = 1 from rfl) (by omega) (by omega)
  refine va_sld hx hb hX hbl hbA hS (vp_in_iff.mpr ⟨by omega, by omega⟩) dL_law_309 ?_
  refine lv_topi (fun y2 ey2 => ?_)
  obtain rfl : y2 = xs (9 * k + 1) := ey2.trans (congrArg xs (show z1.toInt.toNat = 9 * k + 1 by omega))
  refine lv_aload_n hx hb dL_law_310 rfl (lv_at hl 0 rfl) ?_
  refine lv_iload_n hx hb dL_law_311 rfl (lv_at hl 3 rfl) ?_
  refine lv_iconst (v := 2) hx hb dL_law_312 (by decide) ?_
  refine lv_iadd hx hb dL_law_313 ?_
  refine lv_topi (fun z3 ez3 => ?_)
  have iz3 : z3.toInt = i.toInt + 2 := zi_add ez3 rfl (show (2 : Int32).toInt = 2 from rfl) (by omega) (by omega)
  refine va_sld hx hb hX hbl hbA hS (vp_in_iff.mpr ⟨by omega, by omega⟩) dL_law_314 ?_
  refine lv_topi (fun y4 ey4 => ?_)
  obtain rfl : y4 = xs (9 * k + 2) := ey4.trans (congrArg xs (show z3.toInt.toNat = 9 * k + 2 by omega))
  refine lv_aload_n hx hb dL_law_315 rfl (lv_at hl 0 rfl) ?_
  refine lv_iload_n hx hb dL_law_316 rfl (lv_at hl 3 rfl) ?_
  refine lv_iconst (v := 3) hx hb dL_law_317 (by decide) ?_
  refine lv_iadd hx hb dL_law_318 ?_
  refine lv_topi (fun z5 ez5 => ?_)
  have iz5 : z5.toInt = i.toInt + 3 := zi_add ez5 rfl (show (3 : Int32).toInt = 3 from rfl) (by omega) (by omega)
  refine va_sld hx hb hX hbl hbA hS (vp_in_iff.mpr ⟨by omega, by omega⟩) dL_law_319 ?_
  refine lv_topi (fun y6 ey6 => ?_)
  obtain rfl : y6 = xs (9 * k + 3) := ey6.trans (congrArg xs (show z5.toInt.toNat = 9 * k + 3 by omega))
  refine lv_aload_n hx hb dL_law_320 rfl (lv_at hl 0 rfl) ?_
  refine lv_iload_n hx hb dL_law_321 rfl (lv_at hl 3 rfl) ?_
  refine lv_iconst (v := 4) hx hb dL_law_322 (by decide) ?_
  refine lv_iadd hx hb dL_law_323 ?_
  refine lv_topi (fun z7 ez7 => ?_)
  have iz7 : z7.toInt = i.toInt + 4 := zi_add ez7 rfl (show (4 : Int32).toInt = 4 from rfl) (by omega) (by omega)
  refine va_sld hx hb hX hbl hbA hS (vp_in_iff.mpr ⟨by omega, by omega⟩) dL_law_324 ?_
  refine lv_topi (fun y8 ey8 => ?_)
  obtain rfl : y8 = xs (9 * k + 4) := ey8.trans (congrArg xs (show z7.toInt.toNat = 9 * k + 4 by omega))
  refine lv_if_eq (tgt := 332) hx hb dL_law_325 (by decide) (fun c9 => ?_) (fun c9 => ?_)
  · have ic9 : ((xs (9 * k + 4))).toInt = 0 := zi_eq rfl rfl c9
    refine lv_iconst (v := 0) hx hb dL_law_332 (by decide) ?_
    refine tgk_12 hG hxo (fun y10 y10l y11 y12 y13 y14 y15 y16a y16b y16c => ?_)
    refine tpk_12 hT hxo (fun o17_x6 hf_o17 => ?_)
    refine tpk_pos (tp_in hG hxo (by decide)) hf_o17 (fun q18 eq18 => ?_)
    have hFc := tp_fr hD hS hA
    obtain ⟨R_23, hRe_23⟩ : ∃ R, R = mo_R (mo_i (f (ρ mo 2))) := ⟨_, rfl⟩; rw [← hRe_23] at l0 l1 l2 l3 l4 l5 l6
    refine va_calli (va_runV (As := [.int (xs (9 * k + 1)), .int (xs (9 * k + 2)), .int (xs (9 * k + 3)), .int 0]) (rest := []) ⟨hx, hb, hml, hown, hts⟩ (t_X11_way l dC dI _ (mo_O κ mo_n) κ τ ν ρ L f hG hT xo (xs (9 * k + 1)) (xs (9 * k + 2)) (xs (9 * k + 3)) (0) hxo) (cwV 4 hts gz_X11_way rfl rfl rfl ⟨rfl, pd_X11_way⟩ ⟨Nat.le_of_ble_eq_true rfl, Nat.le_of_ble_eq_true rfl⟩) ⟨pz_blind, va_recv hK hP (ci := 11) (q0 := q18) rfl eq18, pz_pre hP hK hD hN⟩ rfl rfl hl.1 rfl (lv_room (Nat.le_of_ble_eq_true rfl)) dL_law_333 ⟨by show _ ≤ 600000; omega, by show _ ≤ 7302249; omega⟩) hS (fun q _ h => hFc q h) hFc (fun r19 f21 t H1 locs ht hvm hw20 hB hz1 hk1 hS => ?_)
    refine tn_4 hw20 (fun hT1 hF22 hw20r hw20p => ?_); clear hw20
    obtain ⟨hw_t, hw_l⟩ := (tpg_12 hG hxo).1
    obtain ⟨-, -, -, -, -, -, ⟨ht13, -, hl13⟩, ⟨ht14, -, hl14⟩, ⟨ht15, -, -, hl15⟩, -, -, ⟨ht18, -, -, hl18⟩⟩ := tpg_11 hG hw_t
    have hJ : mo_RI (-1) 0 (mo_R (mo_i (f21 (ρ mo 2)))) := by rw [hF22 _ (by rw [hrow]; decide)]; exact hJ
    have hIM : mo_IM (mo_R (mo_i (f21 (ρ mo 3)))) := by rw [hF22 _ (by rw [hims]; decide)]; exact hIM
    have hXE : tp_X τ ρ (fun n => False) f f21 := tp_X.of hF22 (by decide)
    have it24 : (((¬ (1 ≤ (xs (9 * k + 3)).toInt ∧ (xs (9 * k + 3)).toInt ≤ 400)) → r19.toInt = -1) ∧ (¬ (¬ (1 ≤ (xs (9 * k + 3)).toInt ∧ (xs (9 * k + 3)).toInt ≤ 400)) → (((¬ ((0 ≤ (xs (9 * k + 1)).toInt ∧ (xs (9 * k + 1)).toInt < R_23 (0)) ∧ (0 ≤ (xs (9 * k + 2)).toInt ∧ (xs (9 * k + 2)).toInt < R_23 (0)))) → r19.toInt = -2) ∧ (¬ (¬ ((0 ≤ (xs (9 * k + 1)).toInt ∧ (xs (9 * k + 1)).toInt < R_23 (0)) ∧ (0 ≤ (xs (9 * k + 2)).toInt ∧ (xs (9 * k + 2)).toInt < R_23 (0)))) → ((((xs (9 * k + 1)).toInt = (xs (9 * k + 2)).toInt) → r19.toInt = -3) ∧ (¬ ((xs (9 * k + 1)).toInt = (xs (9 * k + 2)).toInt) → r19.toInt = 0)))))) := by have q9 := hw20p; first | exact q9 | (simp only [l0, l1, l2, l3, l4, l5, l6] at q9; exact q9)
    have m0 : tp_fld (f21 (ρ xo 0)) 0 = R_23 (11) := (congrArg (fun q => tp_fld q 0) (hXE (ρ xo 0) (Or.inr (Or.inr hw_t)) (fun q9 => q9))).trans l0
    have m1 : tp_fld (f21 (ρ xo 0)) 4 = R_23 (0) := (congrArg (fun q => tp_fld q 4) (hXE (ρ xo 0) (Or.inr (Or.inr hw_t)) (fun q9 => q9))).trans l1
    have m2 : tp_fld (f21 (ρ xo 0)) 5 = R_23 (1) := (congrArg (fun q => tp_fld q 5) (hXE (ρ xo 0) (Or.inr (Or.inr hw_t)) (fun q9 => q9))).trans l2
    have m3 : tp_fld (f21 (ρ (ρ xo 0) 13)) 3 = R_23 (3) := (congrArg (fun q => tp_fld q 3) (hXE (ρ (ρ xo 0) 13) (Or.inr (Or.inl ht13)) (fun q9 => q9))).trans l3
    have m4 : tp_fld (f21 (ρ (ρ xo 0) 14)) 3 = R_23 (7) := (congrArg (fun q => tp_fld q 3) (hXE (ρ (ρ xo 0) 14) (Or.inr (Or.inl ht14)) (fun q9 => q9))).trans l4
    have m5 : tp_fld (f21 (ρ (ρ xo 0) 15)) 2 = R_23 (6) := (congrArg (fun q => tp_fld q 2) (hXE (ρ (ρ xo 0) 15) (Or.inl ht15) (fun q9 => q9))).trans l5
    have m6 : tp_fld (f21 (ρ (ρ xo 0) 18)) 2 = R_23 (10) := (congrArg (fun q => tp_fld q 2) (hXE (ρ (ρ xo 0) 18) (Or.inl ht18) (fun q9 => q9))).trans l6
    have hPm := lz_P.keep hG hT hxo hXE (fun n q9 => by have q8 : False := q9; first | exact q8.elim | omega) (hF22 _ (by rw [(tpg_12 hG hxo).2.1]; decide)) (by rw [hF22 _ (by rw [hims]; decide)]) (by rw [hF22 _ (by rw [hkep]; decide)]) hPm
    have l0 := m0
    have l1 := m1
    have l2 := m2
    have l3 := m3
    have l4 := m4
    have l5 := m5
    have l6 := m6
    have hRe : mo_R (mo_i (f21 (ρ mo 2))) = R_23 := by rw [hF22 _ (by rw [hrow]; decide)]; exact hRe_23.symm
    have hT := hT1
    have hP := hB.1; rw [ht] at hP; have hD := tp_ad f21 hD; clear hB hFc hz1 hk1; subst ht; generalize t.heap = H at hP hS ⊢
    refine lv_pop hx hb dL_law_336 rfl ?_
    refine lv_aload_n hx hb dL_law_337 rfl (lv_at hl 2 rfl) ?_
    refine lv_aload_n hx hb dL_law_338 rfl (lv_at hl 0 rfl) ?_
    refine lv_iload_n hx hb dL_law_339 rfl (lv_at hl 3 rfl) ?_
    refine lv_iconst (v := 1) hx hb dL_law_340 (by decide) ?_
    refine lv_iadd hx hb dL_law_341 ?_
    refine lv_topi (fun z25 ez25 => ?_)
    have iz25 : z25.toInt = i.toInt + 1 := zi_add ez25 rfl (show (1 : Int32).toInt = 1 from rfl) (by omega) (by omega)
    refine va_sld hx hb hX hbl hbA hS (vp_in_iff.mpr ⟨by omega, by omega⟩) dL_law_342 ?_
    refine lv_topi (fun y26 ey26 => ?_)
    obtain rfl : y26 = xs (9 * k + 1) := ey26.trans (congrArg xs (show z25.toInt.toNat = 9 * k + 1 by omega))
    refine lv_aload_n hx hb dL_law_343 rfl (lv_at hl 0 rfl) ?_
    refine lv_iload_n hx hb dL_law_344 rfl (lv_at hl 3 rfl) ?_
    refine lv_iconst (v := 2) hx hb dL_law_345 (by decide) ?_
    refine lv_iadd hx hb dL_law_346 ?_
    refine lv_topi (fun z27 ez27 => ?_)
    have iz27 : z27.toInt = i.toInt + 2 := zi_add ez27 rfl (show (2 : Int32).toInt = 2 from rfl) (by omega) (by omega)
    refine va_sld hx hb hX hbl hbA hS (vp_in_iff.mpr ⟨by omega, by omega⟩) dL_law_347 ?_
    refine lv_topi (fun y28 ey28 => ?_)
    obtain rfl : y28 = xs (9 * k + 2) := ey28.trans (congrArg xs (show z27.toInt.toNat = 9 * k + 2 by omega))
    refine lv_aload_n hx hb dL_law_348 rfl (lv_at hl 0 rfl) ?_
    refine lv_iload_n hx hb dL_law_349 rfl (lv_at hl 3 rfl) ?_
    refine lv_iconst (v := 3) hx hb dL_law_350 (by decide) ?_
    refine lv_iadd hx hb dL_law_351 ?_
    refine lv_topi (fun z29 ez29 => ?_)
    have iz29 : z29.toInt = i.toInt + 3 := zi_add ez29 rfl (show (3 : Int32).toInt = 3 from rfl) (by omega) (by omega)
    refine va_sld hx hb hX hbl hbA hS (vp_in_iff.mpr ⟨by omega, by omega⟩) dL_law_352 ?_
    refine lv_topi (fun y30 ey30 => ?_)
    obtain rfl : y30 = xs (9 * k + 3) := ey30.trans (congrArg xs (show z29.toInt.toNat = 9 * k + 3 by omega))
    refine lv_aload_n hx hb dL_law_353 rfl (lv_at hl 0 rfl) ?_
    refine lv_iload_n hx hb dL_law_354 rfl (lv_at hl 3 rfl) ?_
    refine lv_iconst (v := 4) hx hb dL_law_355 (by decide) ?_
    refine lv_iadd hx hb dL_law_356 ?_
    refine lv_topi (fun z31 ez31 => ?_)
    have iz31 : z31.toInt = i.toInt + 4 := zi_add ez31 rfl (show (4 : Int32).toInt = 4 from rfl) (by omega) (by omega)
    refine va_sld hx hb hX hbl hbA hS (vp_in_iff.mpr ⟨by omega, by omega⟩) dL_law_357 ?_
    refine lv_topi (fun y32 ey32 => ?_)
    obtain rfl : y32 = xs (9 * k + 4) := ey32.trans (congrArg xs (show z31.toInt.toNat = 9 * k + 4 by omega))
    refine lv_if_eq (tgt := 365) hx hb dL_law_358 (by decide) (fun c33 => ?_) (fun c33 => ?_)
    · have ic33 : ((xs (9 * k + 4))).toInt = 0 := zi_eq rfl rfl c33
      refine lv_iconst (v := 0) hx hb dL_law_365 (by decide) ?_
      refine tgk_13 hG hmo (fun y34 y35 y36 y37 y38 y39 y40 y41 y42 y43 y44 y45 y46 y47 y48 y49 y50 y51 y52 y53 y54 y55 y56 y57 y58 => ?_)
      refine tpk_13 hT hmo (fun o59_x0 o59_x1 o59_x7 o59_x9 o59_x10 o59_x11 o59_x12 o59_x13 o59_x14 o59_x15 o59_x16 o59_x17 o59_x18 o59_x19 o59_x20 o59_x22 o59_x25 o59_x28 o59_x29 o59_x32 o59_x33 o59_x34 o59_x35 o59_x36 o59_x37 o59_x38 o59_x47 o59_x48 hf_o59 ro59_0 ro59_1 ro59_2 ro59_3 ro59_4 ro59_5 ro59_6 ro59_7 ro59_8 ro59_9 ro59_10 ro59_11 ro59_12 ro59_13 ro59_14 => ?_)
      refine tpk_pos (tp_in hG hmo (by decide)) hf_o59 (fun q60 eq60 => ?_)
      have hFc := tp_fr hD hS hA
      have hRe_65 : R_23 = mo_R (mo_i (f21 (ρ mo 2))) := hRe.symm
      refine va_calli (va_runV (As := [.int (xs (9 * k + 1)), .int (xs (9 * k + 2)), .int (xs (9 * k + 3)), .int 0]) (rest := []) ⟨hx, hb, hml, hown, hts⟩ (t_X12_way l dC dI _ κ mo_n τ ν ρ L f21 hG hT mo (xs (9 * k + 1)) (xs (9 * k + 2)) (xs (9 * k + 3)) (0) hmo hJ) (cwV 4 hts gz_X12_way rfl rfl rfl ⟨rfl, pd_X12_way⟩ ⟨Nat.le_of_ble_eq_true rfl, Nat.le_of_ble_eq_true rfl⟩) ⟨pz_blind, va_recv hK hP (ci := 12) (q0 := q60) rfl eq60, pz_pre hP hK hD hN⟩ rfl rfl hl.1 rfl (lv_room (Nat.le_of_ble_eq_true rfl)) dL_law_366 ⟨by show _ ≤ 600000; omega, by show _ ≤ 7302249; omega⟩) hS (fun q _ h => hFc q h) hFc (fun r61 f63 t H1 locs ht hvm hw62 hB hz1 hk1 hS => ?_)
      refine tn_4 hw62 (fun hT1 hF64 hw62r hw62p => ?_); clear hw62
      obtain ⟨hw_t, hw_l⟩ := (tpg_12 hG hxo).1
      obtain ⟨-, -, -, -, -, -, ⟨ht13, -, hl13⟩, ⟨ht14, -, hl14⟩, ⟨ht15, -, -, hl15⟩, -, -, ⟨ht18, -, -, hl18⟩⟩ := tpg_11 hG hw_t
      obtain ⟨hJ, hw62pb⟩ := hw62p
      obtain ⟨Rn, hRn⟩ : ∃ R, R = mo_R (mo_i (f63 (ρ mo 2))) := ⟨_, rfl⟩
      rw [← hRn, ← hRe_65] at hw62pb
      obtain ⟨hKN, hw62pbk⟩ := hw62pb
      have hIM : mo_IM (mo_R (mo_i (f63 (ρ mo 3)))) := by rw [hF64 _ (by rw [hims]; decide)]; exact hIM
      have m0 : tp_fld (f63 (ρ xo 0)) 0 = Rn (11) := ((congrArg (fun q => tp_fld q 0) (hF64 (ρ xo 0) (by rw [hw_t]; decide))).trans l0).trans (hKN (11) (by decide) (by decide) (fun q9 => by have q8 : False := q9; omega)).symm
      have m1 : tp_fld (f63 (ρ xo 0)) 4 = Rn (0) := ((congrArg (fun q => tp_fld q 4) (hF64 (ρ xo 0) (by rw [hw_t]; decide))).trans l1).trans (hKN (0) (by decide) (by decide) (fun q9 => by have q8 : False := q9; omega)).symm
      have m2 : tp_fld (f63 (ρ xo 0)) 5 = Rn (1) := ((congrArg (fun q => tp_fld q 5) (hF64 (ρ xo 0) (by rw [hw_t]; decide))).trans l2).trans (hKN (1) (by decide) (by decide) (fun q9 => by have q8 : False := q9; omega)).symm
      have m3 : tp_fld (f63 (ρ (ρ xo 0) 13)) 3 = Rn (3) := ((congrArg (fun q => tp_fld q 3) (hF64 (ρ (ρ xo 0) 13) (by rw [ht13]; decide))).trans l3).trans (hKN (3) (by decide) (by decide) (fun q9 => by have q8 : False := q9; omega)).symm
      have m4 : tp_fld (f63 (ρ (ρ xo 0) 14)) 3 = Rn (7) := ((congrArg (fun q => tp_fld q 3) (hF64 (ρ (ρ xo 0) 14) (by rw [ht14]; decide))).trans l4).trans (hKN (7) (by decide) (by decide) (fun q9 => by have q8 : False := q9; omega)).symm
      have m5 : tp_fld (f63 (ρ (ρ xo 0) 15)) 2 = Rn (6) := ((congrArg (fun q => tp_fld q 2) (hF64 (ρ (ρ xo 0) 15) (by rw [ht15]; decide))).trans l5).trans (hKN (6) (by decide) (by decide) (fun q9 => by have q8 : False := q9; omega)).symm
      have m6 : tp_fld (f63 (ρ (ρ xo 0) 18)) 2 = Rn (10) := ((congrArg (fun q => tp_fld q 2) (hF64 (ρ (ρ xo 0) 18) (by rw [ht18]; decide))).trans l6).trans (hKN (10) (by decide) (by decide) (fun q9 => by have q8 : False := q9; omega)).symm
      have l0 := m0
      have l1 := m1
      have l2 := m2
      have l3 := m3
      have l4 := m4
      have l5 := m5
      have l6 := m6
      rw [hRn] at l0 l1 l2 l3 l4 l5 l6
      have hPm := lz_P.keep hG hT hxo (tp_X.of (E := fun _ => False) hF64 (by decide)) (fun n q9 => False.elim q9) (hF64 _ (by rw [(tpg_12 hG hxo).2.1]; decide)) (by rw [hF64 _ (by rw [hims]; decide)]) (by rw [hF64 _ (by rw [hkep]; decide)]) hPm
      have hT := hT1
      have hP := hB.1; rw [ht] at hP; have hD := tp_ad f63 hD; clear hB hFc hz1 hk1; subst ht; generalize t.heap = H at hP hS ⊢
      refine lv_pop hx hb dL_law_369 rfl ?_
      refine lv_goto (tgt := 1710) hx hb dL_law_370 (by decide) ?_
      refine tp_widen (cells + 110) (slots + 2634) (by omega) (by omega) ?_
      exact kk τ ν ρ L f63 _ _ _ ⟨hG, hT, hxo, hmo, hJ, hIM, ⟨l0, l1, l2, l3, l4, l5, l6⟩, hPm⟩ hP hD hS (lv_sub hl [0, 1, 2, 3] rfl)
    · have ic33 : ((xs (9 * k + 4))).toInt ≠ 0 := zi_eqf rfl rfl c33
      exfalso; omega
  · have ic9 : ((xs (9 * k + 4))).toInt ≠ 0 := zi_eqf rfl rfl c9
    refine lv_iconst (v := 1) hx hb dL_law_328 (by decide) ?_
    refine lv_goto (tgt := 333) hx hb dL_law_329 (by decide) ?_
    refine tgk_12 hG hxo (fun y66 y66l y67 y68 y69 y70 y71 y72a y72b y72c => ?_)
    refine tpk_12 hT hxo (fun o73_x6 hf_o73 => ?_)
    refine tpk_pos (tp_in hG hxo (by decide)) hf_o73 (fun q74 eq74 => ?_)
    have hFc := tp_fr hD hS hA
    obtain ⟨R_79, hRe_79⟩ : ∃ R, R = mo_R (mo_i (f (ρ mo 2))) := ⟨_, rfl⟩; rw [← hRe_79] at l0 l1 l2 l3 l4 l5 l6
    refine va_calli (va_runV (As := [.int (xs (9 * k + 1)), .int (xs (9 * k + 2)), .int (xs (9 * k + 3)), .int 1]) (rest := []) ⟨hx, hb, hml, hown, hts⟩ (t_X11_way l dC dI _ (mo_O κ mo_n) κ τ ν ρ L f hG hT xo (xs (9 * k + 1)) (xs (9 * k + 2)) (xs (9 * k + 3)) (1) hxo) (cwV 4 hts gz_X11_way rfl rfl rfl ⟨rfl, pd_X11_way⟩ ⟨Nat.le_of_ble_eq_true rfl, Nat.le_of_ble_eq_true rfl⟩) ⟨pz_blind, va_recv hK hP (ci := 11) (q0 := q74) rfl eq74, pz_pre hP hK hD hN⟩ rfl rfl hl.1 rfl (lv_room (Nat.le_of_ble_eq_true rfl)) dL_law_333 ⟨by show _ ≤ 600000; omega, by show _ ≤ 7302249; omega⟩) hS (fun q _ h => hFc q h) hFc (fun r75 f77 t H1 locs ht hvm hw76 hB hz1 hk1 hS => ?_)
    refine tn_4 hw76 (fun hT1 hF78 hw76r hw76p => ?_); clear hw76
    obtain ⟨hw_t, hw_l⟩ := (tpg_12 hG hxo).1
    obtain ⟨-, -, -, -, -, -, ⟨ht13, -, hl13⟩, ⟨ht14, -, hl14⟩, ⟨ht15, -, -, hl15⟩, -, -, ⟨ht18, -, -, hl18⟩⟩ := tpg_11 hG hw_t
    have hJ : mo_RI (-1) 0 (mo_R (mo_i (f77 (ρ mo 2)))) := by rw [hF78 _ (by rw [hrow]; decide)]; exact hJ
    have hIM : mo_IM (mo_R (mo_i (f77 (ρ mo 3)))) := by rw [hF78 _ (by rw [hims]; decide)]; exact hIM
    have hXE : tp_X τ ρ (fun n => False) f f77 := tp_X.of hF78 (by decide)
    have it80 : (((¬ (1 ≤ (xs (9 * k + 3)).toInt ∧ (xs (9 * k + 3)).toInt ≤ 400)) → r75.toInt = -1) ∧ (¬ (¬ (1 ≤ (xs (9 * k + 3)).toInt ∧ (xs (9 * k + 3)).toInt ≤ 400)) → (((¬ ((0 ≤ (xs (9 * k + 1)).toInt ∧ (xs (9 * k + 1)).toInt < R_79 (0)) ∧ (0 ≤ (xs (9 * k + 2)).toInt ∧ (xs (9 * k + 2)).toInt < R_79 (0)))) → r75.toInt = -2) ∧ (¬ (¬ ((0 ≤ (xs (9 * k + 1)).toInt ∧ (xs (9 * k + 1)).toInt < R_79 (0)) ∧ (0 ≤ (xs (9 * k + 2)).toInt ∧ (xs (9 * k + 2)).toInt < R_79 (0)))) → ((((xs (9 * k + 1)).toInt = (xs (9 * k + 2)).toInt) → r75.toInt = -3) ∧ (¬ ((xs (9 * k + 1)).toInt = (xs (9 * k + 2)).toInt) → r75.toInt = 0)))))) := by have q9 := hw76p; first | exact q9 | (simp only [l0, l1, l2, l3, l4, l5, l6] at q9; exact q9)
    have m0 : tp_fld (f77 (ρ xo 0)) 0 = R_79 (11) := (congrArg (fun q => tp_fld q 0) (hXE (ρ xo 0) (Or.inr (Or.inr hw_t)) (fun q9 => q9))).trans l0
    have m1 : tp_fld (f77 (ρ xo 0)) 4 = R_79 (0) := (congrArg (fun q => tp_fld q 4) (hXE (ρ xo 0) (Or.inr (Or.inr hw_t)) (fun q9 => q9))).trans l1
    have m2 : tp_fld (f77 (ρ xo 0)) 5 = R_79 (1) := (congrArg (fun q => tp_fld q 5) (hXE (ρ xo 0) (Or.inr (Or.inr hw_t)) (fun q9 => q9))).trans l2
    have m3 : tp_fld (f77 (ρ (ρ xo 0) 13)) 3 = R_79 (3) := (congrArg (fun q => tp_fld q 3) (hXE (ρ (ρ xo 0) 13) (Or.inr (Or.inl ht13)) (fun q9 => q9))).trans l3
    have m4 : tp_fld (f77 (ρ (ρ xo 0) 14)) 3 = R_79 (7) := (congrArg (fun q => tp_fld q 3) (hXE (ρ (ρ xo 0) 14) (Or.inr (Or.inl ht14)) (fun q9 => q9))).trans l4
    have m5 : tp_fld (f77 (ρ (ρ xo 0) 15)) 2 = R_79 (6) := (congrArg (fun q => tp_fld q 2) (hXE (ρ (ρ xo 0) 15) (Or.inl ht15) (fun q9 => q9))).trans l5
    have m6 : tp_fld (f77 (ρ (ρ xo 0) 18)) 2 = R_79 (10) := (congrArg (fun q => tp_fld q 2) (hXE (ρ (ρ xo 0) 18) (Or.inl ht18) (fun q9 => q9))).trans l6
    have hPm := lz_P.keep hG hT hxo hXE (fun n q9 => by have q8 : False := q9; first | exact q8.elim | omega) (hF78 _ (by rw [(tpg_12 hG hxo).2.1]; decide)) (by rw [hF78 _ (by rw [hims]; decide)]) (by rw [hF78 _ (by rw [hkep]; decide)]) hPm
    have l0 := m0
    have l1 := m1
    have l2 := m2
    have l3 := m3
    have l4 := m4
    have l5 := m5
    have l6 := m6
    have hRe : mo_R (mo_i (f77 (ρ mo 2))) = R_79 := by rw [hF78 _ (by rw [hrow]; decide)]; exact hRe_79.symm
    have hT := hT1
    have hP := hB.1; rw [ht] at hP; have hD := tp_ad f77 hD; clear hB hFc hz1 hk1; subst ht; generalize t.heap = H at hP hS ⊢
    refine lv_pop hx hb dL_law_336 rfl ?_
    refine lv_aload_n hx hb dL_law_337 rfl (lv_at hl 2 rfl) ?_
    refine lv_aload_n hx hb dL_law_338 rfl (lv_at hl 0 rfl) ?_
    refine lv_iload_n hx hb dL_law_339 rfl (lv_at hl 3 rfl) ?_
    refine lv_iconst (v := 1) hx hb dL_law_340 (by decide) ?_
    refine lv_iadd hx hb dL_law_341 ?_
    refine lv_topi (fun z81 ez81 => ?_)
    have iz81 : z81.toInt = i.toInt + 1 := zi_add ez81 rfl (show (1 : Int32).toInt = 1 from rfl) (by omega) (by omega)
    refine va_sld hx hb hX hbl hbA hS (vp_in_iff.mpr ⟨by omega, by omega⟩) dL_law_342 ?_
    refine lv_topi (fun y82 ey82 => ?_)
    obtain rfl : y82 = xs (9 * k + 1) := ey82.trans (congrArg xs (show z81.toInt.toNat = 9 * k + 1 by omega))
    refine lv_aload_n hx hb dL_law_343 rfl (lv_at hl 0 rfl) ?_
    refine lv_iload_n hx hb dL_law_344 rfl (lv_at hl 3 rfl) ?_
    refine lv_iconst (v := 2) hx hb dL_law_345 (by decide) ?_
    refine lv_iadd hx hb dL_law_346 ?_
    refine lv_topi (fun z83 ez83 => ?_)
    have iz83 : z83.toInt = i.toInt + 2 := zi_add ez83 rfl (show (2 : Int32).toInt = 2 from rfl) (by omega) (by omega)
    refine va_sld hx hb hX hbl hbA hS (vp_in_iff.mpr ⟨by omega, by omega⟩) dL_law_347 ?_
    refine lv_topi (fun y84 ey84 => ?_)
    obtain rfl : y84 = xs (9 * k + 2) := ey84.trans (congrArg xs (show z83.toInt.toNat = 9 * k + 2 by omega))
    refine lv_aload_n hx hb dL_law_348 rfl (lv_at hl 0 rfl) ?_
    refine lv_iload_n hx hb dL_law_349 rfl (lv_at hl 3 rfl) ?_
    refine lv_iconst (v := 3) hx hb dL_law_350 (by decide) ?_
    refine lv_iadd hx hb dL_law_351 ?_
    refine lv_topi (fun z85 ez85 => ?_)
    have iz85 : z85.toInt = i.toInt + 3 := zi_add ez85 rfl (show (3 : Int32).toInt = 3 from rfl) (by omega) (by omega)
    refine va_sld hx hb hX hbl hbA hS (vp_in_iff.mpr ⟨by omega, by omega⟩) dL_law_352 ?_
    refine lv_topi (fun y86 ey86 => ?_)
    obtain rfl : y86 = xs (9 * k + 3) := ey86.trans (congrArg xs (show z85.toInt.toNat = 9 * k + 3 by omega))
    refine lv_aload_n hx hb dL_law_353 rfl (lv_at hl 0 rfl) ?_
    refine lv_iload_n hx hb dL_law_354 rfl (lv_at hl 3 rfl) ?_
    refine lv_iconst (v := 4) hx hb dL_law_355 (by decide) ?_
    refine lv_iadd hx hb dL_law_356 ?_
    refine lv_topi (fun z87 ez87 => ?_)
    have iz87 : z87.toInt = i.toInt + 4 := zi_add ez87 rfl (show (4 : Int32).toInt = 4 from rfl) (by omega) (by omega)
    refine va_sld hx hb hX hbl hbA hS (vp_in_iff.mpr ⟨by omega, by omega⟩) dL_law_357 ?_
    refine lv_topi (fun y88 ey88 => ?_)
    obtain rfl : y88 = xs (9 * k + 4) := ey88.trans (congrArg xs (show z87.toInt.toNat = 9 * k + 4 by omega))
    refine lv_if_eq (tgt := 365) hx hb dL_law_358 (by decide) (fun c89 => ?_) (fun c89 => ?_)
    · have ic89 : ((xs (9 * k + 4))).toInt = 0 := zi_eq rfl rfl c89
      refine lv_iconst (v := 0) hx hb dL_law_365 (by decide) ?_
      refine tgk_13 hG hmo (fun y90 y91 y92 y93 y94 y95 y96 y97 y98 y99 y100 y101 y102 y103 y104 y105 y106 y107 y108 y109 y110 y111 y112 y113 y114 => ?_)
      refine tpk_13 hT hmo (fun o115_x0 o115_x1 o115_x7 o115_x9 o115_x10 o115_x11 o115_x12 o115_x13 o115_x14 o115_x15 o115_x16 o115_x17 o115_x18 o115_x19 o115_x20 o115_x22 o115_x25 o115_x28 o115_x29 o115_x32 o115_x33 o115_x34 o115_x35 o115_x36 o115_x37 o115_x38 o115_x47 o115_x48 hf_o115 ro115_0 ro115_1 ro115_2 ro115_3 ro115_4 ro115_5 ro115_6 ro115_7 ro115_8 ro115_9 ro115_10 ro115_11 ro115_12 ro115_13 ro115_14 => ?_)
      refine tpk_pos (tp_in hG hmo (by decide)) hf_o115 (fun q116 eq116 => ?_)
      have hFc := tp_fr hD hS hA
      have hRe_121 : R_79 = mo_R (mo_i (f77 (ρ mo 2))) := hRe.symm
      refine va_calli (va_runV (As := [.int (xs (9 * k + 1)), .int (xs (9 * k + 2)), .int (xs (9 * k + 3)), .int 0]) (rest := []) ⟨hx, hb, hml, hown, hts⟩ (t_X12_way l dC dI _ κ mo_n τ ν ρ L f77 hG hT mo (xs (9 * k + 1)) (xs (9 * k + 2)) (xs (9 * k + 3)) (0) hmo hJ) (cwV 4 hts gz_X12_way rfl rfl rfl ⟨rfl, pd_X12_way⟩ ⟨Nat.le_of_ble_eq_true rfl, Nat.le_of_ble_eq_true rfl⟩) ⟨pz_blind, va_recv hK hP (ci := 12) (q0 := q116) rfl eq116, pz_pre hP hK hD hN⟩ rfl rfl hl.1 rfl (lv_room (Nat.le_of_ble_eq_true rfl)) dL_law_366 ⟨by show _ ≤ 600000; omega, by show _ ≤ 7302249; omega⟩) hS (fun q _ h => hFc q h) hFc (fun r117 f119 t H1 locs ht hvm hw118 hB hz1 hk1 hS => ?_)
      refine tn_4 hw118 (fun hT1 hF120 hw118r hw118p => ?_); clear hw118
      obtain ⟨hw_t, hw_l⟩ := (tpg_12 hG hxo).1
      obtain ⟨-, -, -, -, -, -, ⟨ht13, -, hl13⟩, ⟨ht14, -, hl14⟩, ⟨ht15, -, -, hl15⟩, -, -, ⟨ht18, -, -, hl18⟩⟩ := tpg_11 hG hw_t
      obtain ⟨hJ, hw118pb⟩ := hw118p
      obtain ⟨Rn, hRn⟩ : ∃ R, R = mo_R (mo_i (f119 (ρ mo 2))) := ⟨_, rfl⟩
      rw [← hRn, ← hRe_121] at hw118pb
      obtain ⟨hKN, hw118pbk⟩ := hw118pb
      have hIM : mo_IM (mo_R (mo_i (f119 (ρ mo 3)))) := by rw [hF120 _ (by rw [hims]; decide)]; exact hIM
      have m0 : tp_fld (f119 (ρ xo 0)) 0 = Rn (11) := ((congrArg (fun q => tp_fld q 0) (hF120 (ρ xo 0) (by rw [hw_t]; decide))).trans l0).trans (hKN (11) (by decide) (by decide) (fun q9 => by have q8 : False := q9; omega)).symm
      have m1 : tp_fld (f119 (ρ xo 0)) 4 = Rn (0) := ((congrArg (fun q => tp_fld q 4) (hF120 (ρ xo 0) (by rw [hw_t]; decide))).trans l1).trans (hKN (0) (by decide) (by decide) (fun q9 => by have q8 : False := q9; omega)).symm
      have m2 : tp_fld (f119 (ρ xo 0)) 5 = Rn (1) := ((congrArg (fun q => tp_fld q 5) (hF120 (ρ xo 0) (by rw [hw_t]; decide))).trans l2).trans (hKN (1) (by decide) (by decide) (fun q9 => by have q8 : False := q9; omega)).symm
      have m3 : tp_fld (f119 (ρ (ρ xo 0) 13)) 3 = Rn (3) := ((congrArg (fun q => tp_fld q 3) (hF120 (ρ (ρ xo 0) 13) (by rw [ht13]; decide))).trans l3).trans (hKN (3) (by decide) (by decide) (fun q9 => by have q8 : False := q9; omega)).symm
      have m4 : tp_fld (f119 (ρ (ρ xo 0) 14)) 3 = Rn (7) := ((congrArg (fun q => tp_fld q 3) (hF120 (ρ (ρ xo 0) 14) (by rw [ht14]; decide))).trans l4).trans (hKN (7) (by decide) (by decide) (fun q9 => by have q8 : False := q9; omega)).symm
      have m5 : tp_fld (f119 (ρ (ρ xo 0) 15)) 2 = Rn (6) := ((congrArg (fun q => tp_fld q 2) (hF120 (ρ (ρ xo 0) 15) (by rw [ht15]; decide))).trans l5).trans (hKN (6) (by decide) (by decide) (fun q9 => by have q8 : False := q9; omega)).symm
      have m6 : tp_fld (f119 (ρ (ρ xo 0) 18)) 2 = Rn (10) := ((congrArg (fun q => tp_fld q 2) (hF120 (ρ (ρ xo 0) 18) (by rw [ht18]; decide))).trans l6).trans (hKN (10) (by decide) (by decide) (fun q9 => by have q8 : False := q9; omega)).symm
      have l0 := m0
      have l1 := m1
      have l2 := m2
      have l3 := m3
      have l4 := m4
      have l5 := m5
      have l6 := m6
      rw [hRn] at l0 l1 l2 l3 l4 l5 l6
      have hPm := lz_P.keep hG hT hxo (tp_X.of (E := fun _ => False) hF120 (by decide)) (fun n q9 => False.elim q9) (hF120 _ (by rw [(tpg_12 hG hxo).2.1]; decide)) (by rw [hF120 _ (by rw [hims]; decide)]) (by rw [hF120 _ (by rw [hkep]; decide)]) hPm
      have hT := hT1
      have hP := hB.1; rw [ht] at hP; have hD := tp_ad f119 hD; clear hB hFc hz1 hk1; subst ht; generalize t.heap = H at hP hS ⊢
      refine lv_pop hx hb dL_law_369 rfl ?_
      refine lv_goto (tgt := 1710) hx hb dL_law_370 (by decide) ?_
      refine tp_widen (cells + 110) (slots + 2634) (by omega) (by omega) ?_
      exact kk τ ν ρ L f119 _ _ _ ⟨hG, hT, hxo, hmo, hJ, hIM, ⟨l0, l1, l2, l3, l4, l5, l6⟩, hPm⟩ hP hD hS (lv_sub hl [0, 1, 2, 3] rfl)
    · have ic89 : ((xs (9 * k + 4))).toInt ≠ 0 := zi_eqf rfl rfl c89
      refine lv_iconst (v := 1) hx hb dL_law_361 (by decide) ?_
      refine lv_goto (tgt := 366) hx hb dL_law_362 (by decide) ?_
      refine tgk_13 hG hmo (fun y122 y123 y124 y125 y126 y127 y128 y129 y130 y131 y132 y133 y134 y135 y136 y137 y138 y139 y140 y141 y142 y143 y144 y145 y146 => ?_)
      refine tpk_13 hT hmo (fun o147_x0 o147_x1 o147_x7 o147_x9 o147_x10 o147_x11 o147_x12 o147_x13 o147_x14 o147_x15 o147_x16 o147_x17 o147_x18 o147_x19 o147_x20 o147_x22 o147_x25 o147_x28 o147_x29 o147_x32 o147_x33 o147_x34 o147_x35 o147_x36 o147_x37 o147_x38 o147_x47 o147_x48 hf_o147 ro147_0 ro147_1 ro147_2 ro147_3 ro147_4 ro147_5 ro147_6 ro147_7 ro147_8 ro147_9 ro147_10 ro147_11 ro147_12 ro147_13 ro147_14 => ?_)
      refine tpk_pos (tp_in hG hmo (by decide)) hf_o147 (fun q148 eq148 => ?_)
      have hFc := tp_fr hD hS hA
      have hRe_153 : R_79 = mo_R (mo_i (f77 (ρ mo 2))) := hRe.symm
      refine va_calli (va_runV (As := [.int (xs (9 * k + 1)), .int (xs (9 * k + 2)), .int (xs (9 * k + 3)), .int 1]) (rest := []) ⟨hx, hb, hml, hown, hts⟩ (t_X12_way l dC dI _ κ mo_n τ ν ρ L f77 hG hT mo (xs (9 * k + 1)) (xs (9 * k + 2)) (xs (9 * k + 3)) (1) hmo hJ) (cwV 4 hts gz_X12_way rfl rfl rfl ⟨rfl, pd_X12_way⟩ ⟨Nat.le_of_ble_eq_true rfl, Nat.le_of_ble_eq_true rfl⟩) ⟨pz_blind, va_recv hK hP (ci := 12) (q0 := q148) rfl eq148, pz_pre hP hK hD hN⟩ rfl rfl hl.1 rfl (lv_room (Nat.le_of_ble_eq_true rfl)) dL_law_366 ⟨by show _ ≤ 600000; omega, by show _ ≤ 7302249; omega⟩) hS (fun q _ h => hFc q h) hFc (fun r149 f151 t H1 locs ht hvm hw150 hB hz1 hk1 hS => ?_)
      refine tn_4 hw150 (fun hT1 hF152 hw150r hw150p => ?_); clear hw150
      obtain ⟨hw_t, hw_l⟩ := (tpg_12 hG hxo).1
      obtain ⟨-, -, -, -, -, -, ⟨ht13, -, hl13⟩, ⟨ht14, -, hl14⟩, ⟨ht15, -, -, hl15⟩, -, -, ⟨ht18, -, -, hl18⟩⟩ := tpg_11 hG hw_t
      obtain ⟨hJ, hw150pb⟩ := hw150p
      obtain ⟨Rn, hRn⟩ : ∃ R, R = mo_R (mo_i (f151 (ρ mo 2))) := ⟨_, rfl⟩
      rw [← hRn, ← hRe_153] at hw150pb
      obtain ⟨hKN, hw150pbk⟩ := hw150pb
      have hIM : mo_IM (mo_R (mo_i (f151 (ρ mo 3)))) := by rw [hF152 _ (by rw [hims]; decide)]; exact hIM
      have m0 : tp_fld (f151 (ρ xo 0)) 0 = Rn (11) := ((congrArg (fun q => tp_fld q 0) (hF152 (ρ xo 0) (by rw [hw_t]; decide))).trans l0).trans (hKN (11) (by decide) (by decide) (fun q9 => by have q8 : False := q9; omega)).symm
      have m1 : tp_fld (f151 (ρ xo 0)) 4 = Rn (0) := ((congrArg (fun q => tp_fld q 4) (hF152 (ρ xo 0) (by rw [hw_t]; decide))).trans l1).trans (hKN (0) (by decide) (by decide) (fun q9 => by have q8 : False := q9; omega)).symm
      have m2 : tp_fld (f151 (ρ xo 0)) 5 = Rn (1) := ((congrArg (fun q => tp_fld q 5) (hF152 (ρ xo 0) (by rw [hw_t]; decide))).trans l2).trans (hKN (1) (by decide) (by decide) (fun q9 => by have q8 : False := q9; omega)).symm
      have m3 : tp_fld (f151 (ρ (ρ xo 0) 13)) 3 = Rn (3) := ((congrArg (fun q => tp_fld q 3) (hF152 (ρ (ρ xo 0) 13) (by rw [ht13]; decide))).trans l3).trans (hKN (3) (by decide) (by decide) (fun q9 => by have q8 : False := q9; omega)).symm
      have m4 : tp_fld (f151 (ρ (ρ xo 0) 14)) 3 = Rn (7) := ((congrArg (fun q => tp_fld q 3) (hF152 (ρ (ρ xo 0) 14) (by rw [ht14]; decide))).trans l4).trans (hKN (7) (by decide) (by decide) (fun q9 => by have q8 : False := q9; omega)).symm
      have m5 : tp_fld (f151 (ρ (ρ xo 0) 15)) 2 = Rn (6) := ((congrArg (fun q => tp_fld q 2) (hF152 (ρ (ρ xo 0) 15) (by rw [ht15]; decide))).trans l5).trans (hKN (6) (by decide) (by decide) (fun q9 => by have q8 : False := q9; omega)).symm
      have m6 : tp_fld (f151 (ρ (ρ xo 0) 18)) 2 = Rn (10) := ((congrArg (fun q => tp_fld q 2) (hF152 (ρ (ρ xo 0) 18) (by rw [ht18]; decide))).trans l6).trans (hKN (10) (by decide) (by decide) (fun q9 => by have q8 : False := q9; omega)).symm
      have l0 := m0
      have l1 := m1
      have l2 := m2
      have l3 := m3
      have l4 := m4
      have l5 := m5
      have l6 := m6
      rw [hRn] at l0 l1 l2 l3 l4 l5 l6
      have hPm := lz_P.keep hG hT hxo (tp_X.of (E := fun _ => False) hF152 (by decide)) (fun n q9 => False.elim q9) (hF152 _ (by rw [(tpg_12 hG hxo).2.1]; decide)) (by rw [hF152 _ (by rw [hims]; decide)]) (by rw [hF152 _ (by rw [hkep]; decide)]) hPm
      have hT := hT1
      have hP := hB.1; rw [ht] at hP; have hD := tp_ad f151 hD; clear hB hFc hz1 hk1; subst ht; generalize t.heap = H at hP hS ⊢
      refine lv_pop hx hb dL_law_369 rfl ?_
      refine lv_goto (tgt := 1710) hx hb dL_law_370 (by decide) ?_
      refine tp_widen (cells + 110) (slots + 2634) (by omega) (by omega) ?_
      exact kk τ ν ρ L f151 _ _ _ ⟨hG, hT, hxo, hmo, hJ, hIM, ⟨l0, l1, l2, l3, l4, l5, l6⟩, hPm⟩ hP hD hS (lv_sub hl [0, 1, 2, 3] rfl)
end
section
set_option maxHeartbeats 8000000 in
set_option maxRecDepth 100000 in
theorem law_case_3 {p : Program} {l : Launch} {e : Env} {s : State} {m : MethodId} {below : List Frame} {meth : Method} {c : Code} {b N9 : Nat} {xs : Nat → Int32} {dC : Nat → ClassId} {dI : Nat → Nat → Nat} {κ : Nat → ClassId} {adK adV : Nat → Nat} {zv : Option Nat} {xo mo : Nat} {k cells slots : Nat} {i : Int32} (C0 : lw_At p s m meth c b N9 xs) (hN9 : N9 ≤ 4608) (hN : nz_ok s) (hZ : pw_Z adK adV zv (fun q : Nat => s.heap.size ≤ q) s s.heap) (hK : va_K (dC, dI) vwCl (tp_K κ) s) (hk : 9 * k + 9 ≤ N9) (hi : i.toInt = 9 * (k : Int)) (hc : cells + 110 ≤ 600000) (hs : slots + 2634 ≤ 7302249) (kk : ∀ (τ ν : Nat → Nat) (ρ : Nat → Nat → Nat) (L : List Nat) (f : Nat → va_E) (H : Heap) (locs : List Loc) (ls : Array Slot), lz_I κ xo mo τ ν ρ L f → va_P (dC, dI) vwCl (va_pl L f) H → va_D (fun q : Nat => s.heap.size ≤ q) (va_pl L f) → va_S (fun q : Nat => s.heap.size ≤ q) s.heap H locs → lv_has ls 4 [(0, .ref b), (1, .ref xo), (2, .ref mo), (3, .int i)] → W p l e room_1 s m #[Value.ref b] below meth c H locs (cells + 110) (slots + 2634) (lw_Z below #[Value.ref b] s) (F0 m 1710 ls [])) {τ ν : Nat → Nat} {ρ : Nat → Nat → Nat} {L : List Nat} {f : Nat → va_E} {H : Heap} {locs : List Loc} {ls : Array Slot}  (hI : lz_I κ xo mo τ ν ρ L f) (hP : va_P (dC, dI) vwCl (va_pl L f) H) (hD : va_D (fun q : Nat => s.heap.size ≤ q) (va_pl L f)) (hS : va_S (fun q : Nat => s.heap.size ≤ q) s.heap H locs) (hl : lv_has ls 4 [(0, .ref b), (1, .ref xo), (2, .ref mo), (3, .int i)]) : W p l e room_1 s m #[Value.ref b] below meth c H locs cells slots (lw_Z below #[Value.ref b] s) (F0 m 373 ls []) := by
  obtain ⟨hx, hb, hr, hml, hown, hts, hX, hbl, hlocks, hgv⟩ := id C0
  have hown : s.vm.findClass RL = some m.cls := hown
  have hA : ∀ q : Nat, s.heap.size ≤ q → (fun q : Nat => s.heap.size ≤ q) q := fun _ h => h
  have hbA : ¬ (fun q : Nat => s.heap.size ≤ q) b := Nat.not_le.mpr hbl
  obtain ⟨hG, hT, hxo, hmo, hJ, hIM, ⟨l0, l1, l2, l3, l4, l5, l6⟩, hPm⟩ := hI
  have hrow := (tpg_13 hG hmo).1; have hims := (tpg_13 hG hmo).2.1; have hkep := (tpg_13 hG hmo).2.2.1
  refine lv_aload_n hx hb dL_law_373 rfl (lv_at hl 1 rfl) ?_
  refine lv_aload_n hx hb dL_law_374 rfl (lv_at hl 0 rfl) ?_
  refine lv_iload_n hx hb dL_law_375 rfl (lv_at hl 3 rfl) ?_
  refine lv_iconst (v := 1) hx hb dL_law_376 (by decide) ?_
  refine lv_iadd hx hb dL_law_377 ?_
  refine lv_topi (fun z1 ez1 => ?_)
  have iz1 : z1.toInt = i.toInt + 1 := zi_add ez1 rfl (show (1 : Int32).toInt = 1 from rfl) (by omega) (by omega)
  refine va_sld hx hb hX hbl hbA hS (vp_in_iff.mpr ⟨by omega, by omega⟩) dL_law_378 ?_
  refine lv_topi (fun y2 ey2 => ?_)
  obtain rfl : y2 = xs (9 * k + 1) := ey2.trans (congrArg xs (show z1.toInt.toNat = 9 * k + 1 by omega))
  refine lv_aload_n hx hb dL_law_379 rfl (lv_at hl 0 rfl) ?_
  refine lv_iload_n hx hb dL_law_380 rfl (lv_at hl 3 rfl) ?_
  refine lv_iconst (v := 2) hx hb dL_law_381 (by decide) ?_
  refine lv_iadd hx hb dL_law_382 ?_
  refine lv_topi (fun z3 ez3 => ?_)
  have iz3 : z3.toInt = i.toInt + 2 := zi_add ez3 rfl (show (2 : Int32).toInt = 2 from rfl) (by omega) (by omega)
  refine va_sld hx hb hX hbl hbA hS (vp_in_iff.mpr ⟨by omega, by omega⟩) dL_law_383 ?_
  refine lv_topi (fun y4 ey4 => ?_)
  obtain rfl : y4 = xs (9 * k + 2) := ey4.trans (congrArg xs (show z3.toInt.toNat = 9 * k + 2 by omega))
  refine tgk_12 hG hxo (fun y5 y5l y6 y7 y8 y9 y10 y11a y11b y11c => ?_)
  refine tpk_12 hT hxo (fun o12_x6 hf_o12 => ?_)
  refine tpk_pos (tp_in hG hxo (by decide)) hf_o12 (fun q13 eq13 => ?_)
  have hFc := tp_fr hD hS hA
  obtain ⟨R_18, hRe_18⟩ : ∃ R, R = mo_R (mo_i (f (ρ mo 2))) := ⟨_, rfl⟩; rw [← hRe_18] at l0 l1 l2 l3 l4 l5 l6
  refine va_calli (va_runV (As := [.int (xs (9 * k + 1)), .int (xs (9 * k + 2))]) (rest := []) ⟨hx, hb, hml, hown, hts⟩ (t_X11_tide l dC dI _ (mo_O κ mo_n) κ τ ν ρ L f hG hT xo (xs (9 * k + 1)) (xs (9 * k + 2)) hxo) (cwV 2 hts gz_X11_tide rfl rfl rfl ⟨rfl, pd_X11_tide⟩ ⟨Nat.le_of_ble_eq_true rfl, Nat.le_of_ble_eq_true rfl⟩) ⟨pz_blind, va_recv hK hP (ci := 11) (q0 := q13) rfl eq13, pz_pre hP hK hD hN⟩ rfl rfl hl.1 rfl (lv_room (Nat.le_of_ble_eq_true rfl)) dL_law_384 ⟨by show _ ≤ 600000; omega, by show _ ≤ 7302249; omega⟩) hS (fun q _ h => hFc q h) hFc (fun r14 f16 t H1 locs ht hvm hw15 hB hz1 hk1 hS => ?_)
  refine tn_4 hw15 (fun hT1 hF17 hw15r hw15p => ?_); clear hw15
  obtain ⟨hw_t, hw_l⟩ := (tpg_12 hG hxo).1
  obtain ⟨-, -, -, -, -, -, ⟨ht13, -, hl13⟩, ⟨ht14, -, hl14⟩, ⟨ht15, -, -, hl15⟩, -, -, ⟨ht18, -, -, hl18⟩⟩ := tpg_11 hG hw_t
  have hJ : mo_RI (-1) 0 (mo_R (mo_i (f16 (ρ mo 2)))) := by rw [hF17 _ (by rw [hrow]; decide)]; exact hJ
  have hIM : mo_IM (mo_R (mo_i (f16 (ρ mo 3)))) := by rw [hF17 _ (by rw [hims]; decide)]; exact hIM
  have hXE : tp_X τ ρ (fun n => False) f f16 := tp_X.of hF17 (by decide)
  have it19 : (((¬ ((0 ≤ (xs (9 * k + 1)).toInt ∧ (xs (9 * k + 1)).toInt ≤ 24) ∧ (0 ≤ (xs (9 * k + 2)).toInt ∧ (xs (9 * k + 2)).toInt ≤ 9))) → r14.toInt = -1) ∧ (¬ (¬ ((0 ≤ (xs (9 * k + 1)).toInt ∧ (xs (9 * k + 1)).toInt ≤ 24) ∧ (0 ≤ (xs (9 * k + 2)).toInt ∧ (xs (9 * k + 2)).toInt ≤ 9))) → r14.toInt = 0)) := by have q9 := hw15p; first | exact q9 | (simp only [l0, l1, l2, l3, l4, l5, l6] at q9; exact q9)
  have m0 : tp_fld (f16 (ρ xo 0)) 0 = R_18 (11) := (congrArg (fun q => tp_fld q 0) (hXE (ρ xo 0) (Or.inr (Or.inr hw_t)) (fun q9 => q9))).trans l0
  have m1 : tp_fld (f16 (ρ xo 0)) 4 = R_18 (0) := (congrArg (fun q => tp_fld q 4) (hXE (ρ xo 0) (Or.inr (Or.inr hw_t)) (fun q9 => q9))).trans l1
  have m2 : tp_fld (f16 (ρ xo 0)) 5 = R_18 (1) := (congrArg (fun q => tp_fld q 5) (hXE (ρ xo 0) (Or.inr (Or.inr hw_t)) (fun q9 => q9))).trans l2
  have m3 : tp_fld (f16 (ρ (ρ xo 0) 13)) 3 = R_18 (3) := (congrArg (fun q => tp_fld q 3) (hXE (ρ (ρ xo 0) 13) (Or.inr (Or.inl ht13)) (fun q9 => q9))).trans l3
  have m4 : tp_fld (f16 (ρ (ρ xo 0) 14)) 3 = R_18 (7) := (congrArg (fun q => tp_fld q 3) (hXE (ρ (ρ xo 0) 14) (Or.inr (Or.inl ht14)) (fun q9 => q9))).trans l4
  have m5 : tp_fld (f16 (ρ (ρ xo 0) 15)) 2 = R_18 (6) := (congrArg (fun q => tp_fld q 2) (hXE (ρ (ρ xo 0) 15) (Or.inl ht15) (fun q9 => q9))).trans l5
  have m6 : tp_fld (f16 (ρ (ρ xo 0) 18)) 2 = R_18 (10) := (congrArg (fun q => tp_fld q 2) (hXE (ρ (ρ xo 0) 18) (Or.inl ht18) (fun q9 => q9))).trans l6
  have hPm := lz_P.keep hG hT hxo hXE (fun n q9 => by have q8 : False := q9; first | exact q8.elim | omega) (hF17 _ (by rw [(tpg_12 hG hxo).2.1]; decide)) (by rw [hF17 _ (by rw [hims]; decide)]) (by rw [hF17 _ (by rw [hkep]; decide)]) hPm
  have l0 := m0
  have l1 := m1
  have l2 := m2
  have l3 := m3
  have l4 := m4
  have l5 := m5
  have l6 := m6
  have hRe : mo_R (mo_i (f16 (ρ mo 2))) = R_18 := by rw [hF17 _ (by rw [hrow]; decide)]; exact hRe_18.symm
  have hT := hT1
  have hP := hB.1; rw [ht] at hP; have hD := tp_ad f16 hD; clear hB hFc hz1 hk1; subst ht; generalize t.heap = H at hP hS ⊢
  refine lv_pop hx hb dL_law_387 rfl ?_
  refine lv_aload_n hx hb dL_law_388 rfl (lv_at hl 2 rfl) ?_
  refine lv_aload_n hx hb dL_law_389 rfl (lv_at hl 0 rfl) ?_
  refine lv_iload_n hx hb dL_law_390 rfl (lv_at hl 3 rfl) ?_
  refine lv_iconst (v := 1) hx hb dL_law_391 (by decide) ?_
  refine lv_iadd hx hb dL_law_392 ?_
  refine lv_topi (fun z20 ez20 => ?_)
  have iz20 : z20.toInt = i.toInt + 1 := zi_add ez20 rfl (show (1 : Int32).toInt = 1 from rfl) (by omega) (by omega)
  refine va_sld hx hb hX hbl hbA hS (vp_in_iff.mpr ⟨by omega, by omega⟩) dL_law_393 ?_
  refine lv_topi (fun y21 ey21 => ?_)
  obtain rfl : y21 = xs (9 * k + 1) := ey21.trans (congrArg xs (show z20.toInt.toNat = 9 * k + 1 by omega))
  refine lv_aload_n hx hb dL_law_394 rfl (lv_at hl 0 rfl) ?_
  refine lv_iload_n hx hb dL_law_395 rfl (lv_at hl 3 rfl) ?_
  refine lv_iconst (v := 2) hx hb dL_law_396 (by decide) ?_
  refine lv_iadd hx hb dL_law_397 ?_
  refine lv_topi (fun z22 ez22 => ?_)
  have iz22 : z22.toInt = i.toInt + 2 := zi_add ez22 rfl (show (2 : Int32).toInt = 2 from rfl) (by omega) (by omega)
  refine va_sld hx hb hX hbl hbA hS (vp_in_iff.mpr ⟨by omega, by omega⟩) dL_law_398 ?_
  refine lv_topi (fun y23 ey23 => ?_)
  obtain rfl : y23 = xs (9 * k + 2) := ey23.trans (congrArg xs (show z22.toInt.toNat = 9 * k + 2 by omega))
  refine tgk_13 hG hmo (fun y24 y25 y26 y27 y28 y29 y30 y31 y32 y33 y34 y35 y36 y37 y38 y39 y40 y41 y42 y43 y44 y45 y46 y47 y48 => ?_)
  refine tpk_13 hT hmo (fun o49_x0 o49_x1 o49_x7 o49_x9 o49_x10 o49_x11 o49_x12 o49_x13 o49_x14 o49_x15 o49_x16 o49_x17 o49_x18 o49_x19 o49_x20 o49_x22 o49_x25 o49_x28 o49_x29 o49_x32 o49_x33 o49_x34 o49_x35 o49_x36 o49_x37 o49_x38 o49_x47 o49_x48 hf_o49 ro49_0 ro49_1 ro49_2 ro49_3 ro49_4 ro49_5 ro49_6 ro49_7 ro49_8 ro49_9 ro49_10 ro49_11 ro49_12 ro49_13 ro49_14 => ?_)
  refine tpk_pos (tp_in hG hmo (by decide)) hf_o49 (fun q50 eq50 => ?_)
  have hFc := tp_fr hD hS hA
  have hRe_55 : R_18 = mo_R (mo_i (f16 (ρ mo 2))) := hRe.symm
  refine va_calli (va_runV (As := [.int (xs (9 * k + 1)), .int (xs (9 * k + 2))]) (rest := []) ⟨hx, hb, hml, hown, hts⟩ (t_X12_tide l dC dI _ κ mo_n τ ν ρ L f16 hG hT mo (xs (9 * k + 1)) (xs (9 * k + 2)) hmo hJ) (cwV 2 hts gz_X12_tide rfl rfl rfl ⟨rfl, pd_X12_tide⟩ ⟨Nat.le_of_ble_eq_true rfl, Nat.le_of_ble_eq_true rfl⟩) ⟨pz_blind, va_recv hK hP (ci := 12) (q0 := q50) rfl eq50, pz_pre hP hK hD hN⟩ rfl rfl hl.1 rfl (lv_room (Nat.le_of_ble_eq_true rfl)) dL_law_399 ⟨by show _ ≤ 600000; omega, by show _ ≤ 7302249; omega⟩) hS (fun q _ h => hFc q h) hFc (fun r51 f53 t H1 locs ht hvm hw52 hB hz1 hk1 hS => ?_)
  refine tn_4 hw52 (fun hT1 hF54 hw52r hw52p => ?_); clear hw52
  obtain ⟨hw_t, hw_l⟩ := (tpg_12 hG hxo).1
  obtain ⟨-, -, -, -, -, -, ⟨ht13, -, hl13⟩, ⟨ht14, -, hl14⟩, ⟨ht15, -, -, hl15⟩, -, -, ⟨ht18, -, -, hl18⟩⟩ := tpg_11 hG hw_t
  obtain ⟨hJ, hw52pb⟩ := hw52p
  obtain ⟨Rn, hRn⟩ : ∃ R, R = mo_R (mo_i (f53 (ρ mo 2))) := ⟨_, rfl⟩
  rw [← hRn, ← hRe_55] at hw52pb
  obtain ⟨hKN, hw52pbk⟩ := hw52pb
  have hIM : mo_IM (mo_R (mo_i (f53 (ρ mo 3)))) := by rw [hF54 _ (by rw [hims]; decide)]; exact hIM
  have m0 : tp_fld (f53 (ρ xo 0)) 0 = Rn (11) := ((congrArg (fun q => tp_fld q 0) (hF54 (ρ xo 0) (by rw [hw_t]; decide))).trans l0).trans (hKN (11) (by decide) (by decide) (fun q9 => by have q8 : False := q9; omega)).symm
  have m1 : tp_fld (f53 (ρ xo 0)) 4 = Rn (0) := ((congrArg (fun q => tp_fld q 4) (hF54 (ρ xo 0) (by rw [hw_t]; decide))).trans l1).trans (hKN (0) (by decide) (by decide) (fun q9 => by have q8 : False := q9; omega)).symm
  have m2 : tp_fld (f53 (ρ xo 0)) 5 = Rn (1) := ((congrArg (fun q => tp_fld q 5) (hF54 (ρ xo 0) (by rw [hw_t]; decide))).trans l2).trans (hKN (1) (by decide) (by decide) (fun q9 => by have q8 : False := q9; omega)).symm
  have m3 : tp_fld (f53 (ρ (ρ xo 0) 13)) 3 = Rn (3) := ((congrArg (fun q => tp_fld q 3) (hF54 (ρ (ρ xo 0) 13) (by rw [ht13]; decide))).trans l3).trans (hKN (3) (by decide) (by decide) (fun q9 => by have q8 : False := q9; omega)).symm
  have m4 : tp_fld (f53 (ρ (ρ xo 0) 14)) 3 = Rn (7) := ((congrArg (fun q => tp_fld q 3) (hF54 (ρ (ρ xo 0) 14) (by rw [ht14]; decide))).trans l4).trans (hKN (7) (by decide) (by decide) (fun q9 => by have q8 : False := q9; omega)).symm
  have m5 : tp_fld (f53 (ρ (ρ xo 0) 15)) 2 = Rn (6) := ((congrArg (fun q => tp_fld q 2) (hF54 (ρ (ρ xo 0) 15) (by rw [ht15]; decide))).trans l5).trans (hKN (6) (by decide) (by decide) (fun q9 => by have q8 : False := q9; omega)).symm
  have m6 : tp_fld (f53 (ρ (ρ xo 0) 18)) 2 = Rn (10) := ((congrArg (fun q => tp_fld q 2) (hF54 (ρ (ρ xo 0) 18) (by rw [ht18]; decide))).trans l6).trans (hKN (10) (by decide) (by decide) (fun q9 => by have q8 : False := q9; omega)).symm
  have l0 := m0
  have l1 := m1
  have l2 := m2
  have l3 := m3
  have l4 := m4
  have l5 := m5
  have l6 := m6
  rw [hRn] at l0 l1 l2 l3 l4 l5 l6
  have hPm := lz_P.keep hG hT hxo (tp_X.of (E := fun _ => False) hF54 (by decide)) (fun n q9 => False.elim q9) (hF54 _ (by rw [(tpg_12 hG hxo).2.1]; decide)) (by rw [hF54 _ (by rw [hims]; decide)]) (by rw [hF54 _ (by rw [hkep]; decide)]) hPm
  have hT := hT1
  have hP := hB.1; rw [ht] at hP; have hD := tp_ad f53 hD; clear hB hFc hz1 hk1; subst ht; generalize t.heap = H at hP hS ⊢
  refine lv_pop hx hb dL_law_402 rfl ?_
  refine lv_goto (tgt := 1710) hx hb dL_law_403 (by decide) ?_
  refine tp_widen (cells + 110) (slots + 2634) (by omega) (by omega) ?_
  exact kk τ ν ρ L f53 _ _ _ ⟨hG, hT, hxo, hmo, hJ, hIM, ⟨l0, l1, l2, l3, l4, l5, l6⟩, hPm⟩ hP hD hS (lv_sub hl [0, 1, 2, 3] rfl)
set_option maxHeartbeats 8000000 in
set_option maxRecDepth 100000 in
theorem law_case_4 {p : Program} {l : Launch} {e : Env} {s : State} {m : MethodId} {below : List Frame} {meth : Method} {c : Code} {b N9 : Nat} {xs : Nat → Int32} {dC : Nat → ClassId} {dI : Nat → Nat → Nat} {κ : Nat → ClassId} {adK adV : Nat → Nat} {zv : Option Nat} {xo mo : Nat} {k cells slots : Nat} {i : Int32} (C0 : lw_At p s m meth c b N9 xs) (hN9 : N9 ≤ 4608) (hN : nz_ok s) (hZ : pw_Z adK adV zv (fun q : Nat => s.heap.size ≤ q) s s.heap) (hK : va_K (dC, dI) vwCl (tp_K κ) s) (hk : 9 * k + 9 ≤ N9) (hi : i.toInt = 9 * (k : Int)) (hc : cells + 110 ≤ 600000) (hs : slots + 2634 ≤ 7302249) (kk : ∀ (τ ν : Nat → Nat) (ρ : Nat → Nat → Nat) (L : List Nat) (f : Nat → va_E) (H : Heap) (locs : List Loc) (ls : Array Slot), lz_I κ xo mo τ ν ρ L f → va_P (dC, dI) vwCl (va_pl L f) H → va_D (fun q : Nat => s.heap.size ≤ q) (va_pl L f) → va_S (fun q : Nat => s.heap.size ≤ q) s.heap H locs → lv_has ls 4 [(0, .ref b), (1, .ref xo), (2, .ref mo), (3, .int i)] → W p l e room_1 s m #[Value.ref b] below meth c H locs (cells + 110) (slots + 2634) (lw_Z below #[Value.ref b] s) (F0 m 1710 ls [])) {τ ν : Nat → Nat} {ρ : Nat → Nat → Nat} {L : List Nat} {f : Nat → va_E} {H : Heap} {locs : List Loc} {ls : Array Slot}  (hI : lz_I κ xo mo τ ν ρ L f) (hP : va_P (dC, dI) vwCl (va_pl L f) H) (hD : va_D (fun q : Nat => s.heap.size ≤ q) (va_pl L f)) (hS : va_S (fun q : Nat => s.heap.size ≤ q) s.heap H locs) (hl : lv_has ls 4 [(0, .ref b), (1, .ref xo), (2, .ref mo), (3, .int i)]) : W p l e room_1 s m #[Value.ref b] below meth c H locs cells slots (lw_Z below #[Value.ref b] s) (F0 m 406 ls []) := by
  obtain ⟨hx, hb, hr, hml, hown, hts, hX, hbl, hlocks, hgv⟩ := id C0
  have hown : s.vm.findClass RL = some m.cls := hown
  have hA : ∀ q : Nat, s.heap.size ≤ q → (fun q : Nat => s.heap.size ≤ q) q := fun _ h => h
  have hbA : ¬ (fun q : Nat => s.heap.size ≤ q) b := Nat.not_le.mpr hbl
  obtain ⟨hG, hT, hxo, hmo, hJ, hIM, ⟨l0, l1, l2, l3, l4, l5, l6⟩, hPm⟩ := hI
  have hrow := (tpg_13 hG hmo).1; have hims := (tpg_13 hG hmo).2.1; have hkep := (tpg_13 hG hmo).2.2.1
  refine lv_aload_n hx hb dL_law_406 rfl (lv_at hl 1 rfl) ?_
  refine lv_aload_n hx hb dL_law_407 rfl (lv_at hl 0 rfl) ?_
  refine lv_iload_n hx hb dL_law_408 rfl (lv_at hl 3 rfl) ?_
  refine lv_iconst (v := 1) hx hb dL_law_409 (by decide) ?_
  refine lv_iadd hx hb dL_law_410 ?_
  refine lv_topi (fun z1 ez1 => ?_)
  have iz1 : z1.toInt = i.toInt + 1 := zi_add ez1 rfl (show (1 : Int32).toInt = 1 from rfl) (by omega) (by omega)
  refine va_sld hx hb hX hbl hbA hS (vp_in_iff.mpr ⟨by omega, by omega⟩) dL_law_411 ?_
  refine lv_topi (fun y2 ey2 => ?_)
  obtain rfl : y2 = xs (9 * k + 1) := ey2.trans (congrArg xs (show z1.toInt.toNat = 9 * k + 1 by omega))
  refine lv_aload_n hx hb dL_law_412 rfl (lv_at hl 0 rfl) ?_
  refine lv_iload_n hx hb dL_law_413 rfl (lv_at hl 3 rfl) ?_
  refine lv_iconst (v := 2) hx hb dL_law_414 (by decide) ?_
  refine lv_iadd hx hb dL_law_415 ?_
  refine lv_topi (fun z3 ez3 => ?_)
  have iz3 : z3.toInt = i.toInt + 2 := zi_add ez3 rfl (show (2 : Int32).toInt = 2 from rfl) (by omega) (by omega)
  refine va_sld hx hb hX hbl hbA hS (vp_in_iff.mpr ⟨by omega, by omega⟩) dL_law_416 ?_
  refine lv_topi (fun y4 ey4 => ?_)
  obtain rfl : y4 = xs (9 * k + 2) := ey4.trans (congrArg xs (show z3.toInt.toNat = 9 * k + 2 by omega))
  refine tgk_12 hG hxo (fun y5 y5l y6 y7 y8 y9 y10 y11a y11b y11c => ?_)
  refine tpk_12 hT hxo (fun o12_x6 hf_o12 => ?_)
  refine tpk_pos (tp_in hG hxo (by decide)) hf_o12 (fun q13 eq13 => ?_)
  have hFc := tp_fr hD hS hA
  obtain ⟨R_18, hRe_18⟩ : ∃ R, R = mo_R (mo_i (f (ρ mo 2))) := ⟨_, rfl⟩; rw [← hRe_18] at l0 l1 l2 l3 l4 l5 l6
  refine va_calli (va_runV (As := [.int (xs (9 * k + 1)), .int (xs (9 * k + 2))]) (rest := []) ⟨hx, hb, hml, hown, hts⟩ (t_X11_sea l dC dI _ (mo_O κ mo_n) κ τ ν ρ L f hG hT xo (xs (9 * k + 1)) (xs (9 * k + 2)) hxo) (cwV 2 hts gz_X11_sea rfl rfl rfl ⟨rfl, pd_X11_sea⟩ ⟨Nat.le_of_ble_eq_true rfl, Nat.le_of_ble_eq_true rfl⟩) ⟨pz_blind, va_recv hK hP (ci := 11) (q0 := q13) rfl eq13, pz_pre hP hK hD hN⟩ rfl rfl hl.1 rfl (lv_room (Nat.le_of_ble_eq_true rfl)) dL_law_417 ⟨by show _ ≤ 600000; omega, by show _ ≤ 7302249; omega⟩) hS (fun q _ h => hFc q h) hFc (fun r14 f16 t H1 locs ht hvm hw15 hB hz1 hk1 hS => ?_)
  refine tn_4 hw15 (fun hT1 hF17 hw15r hw15p => ?_); clear hw15
  obtain ⟨hw_t, hw_l⟩ := (tpg_12 hG hxo).1
  obtain ⟨-, -, -, -, -, -, ⟨ht13, -, hl13⟩, ⟨ht14, -, hl14⟩, ⟨ht15, -, -, hl15⟩, -, -, ⟨ht18, -, -, hl18⟩⟩ := tpg_11 hG hw_t
  have hJ : mo_RI (-1) 0 (mo_R (mo_i (f16 (ρ mo 2)))) := by rw [hF17 _ (by rw [hrow]; decide)]; exact hJ
  have hIM : mo_IM (mo_R (mo_i (f16 (ρ mo 3)))) := by rw [hF17 _ (by rw [hims]; decide)]; exact hIM
  have hXE : tp_X τ ρ (fun n => False) f f16 := tp_X.of hF17 (by decide)
  have it19 : (((¬ ((0 ≤ (xs (9 * k + 1)).toInt ∧ (xs (9 * k + 1)).toInt ≤ 99) ∧ (0 ≤ (xs (9 * k + 2)).toInt ∧ (xs (9 * k + 2)).toInt ≤ 9))) → r14.toInt = -1) ∧ (¬ (¬ ((0 ≤ (xs (9 * k + 1)).toInt ∧ (xs (9 * k + 1)).toInt ≤ 99) ∧ (0 ≤ (xs (9 * k + 2)).toInt ∧ (xs (9 * k + 2)).toInt ≤ 9))) → r14.toInt = 0)) := by have q9 := hw15p; first | exact q9 | (simp only [l0, l1, l2, l3, l4, l5, l6] at q9; exact q9)
  have m0 : tp_fld (f16 (ρ xo 0)) 0 = R_18 (11) := (congrArg (fun q => tp_fld q 0) (hXE (ρ xo 0) (Or.inr (Or.inr hw_t)) (fun q9 => q9))).trans l0
  have m1 : tp_fld (f16 (ρ xo 0)) 4 = R_18 (0) := (congrArg (fun q => tp_fld q 4) (hXE (ρ xo 0) (Or.inr (Or.inr hw_t)) (fun q9 => q9))).trans l1
  have m2 : tp_fld (f16 (ρ xo 0)) 5 = R_18 (1) := (congrArg (fun q => tp_fld q 5) (hXE (ρ xo 0) (Or.inr (Or.inr hw_t)) (fun q9 => q9))).trans l2
  have m3 : tp_fld (f16 (ρ (ρ xo 0) 13)) 3 = R_18 (3) := (congrArg (fun q => tp_fld q 3) (hXE (ρ (ρ xo 0) 13) (Or.inr (Or.inl ht13)) (fun q9 => q9))).trans l3
  have m4 : tp_fld (f16 (ρ (ρ xo 0) 14)) 3 = R_18 (7) := (congrArg (fun q => tp_fld q 3) (hXE (ρ (ρ xo 0) 14) (Or.inr (Or.inl ht14)) (fun q9 => q9))).trans l4
  have m5 : tp_fld (f16 (ρ (ρ xo 0) 15)) 2 = R_18 (6) := (congrArg (fun q => tp_fld q 2) (hXE (ρ (ρ xo 0) 15) (Or.inl ht15) (fun q9 => q9))).trans l5
  have m6 : tp_fld (f16 (ρ (ρ xo 0) 18)) 2 = R_18 (10) := (congrArg (fun q => tp_fld q 2) (hXE (ρ (ρ xo 0) 18) (Or.inl ht18) (fun q9 => q9))).trans l6
  have hPm := lz_P.keep hG hT hxo hXE (fun n q9 => by have q8 : False := q9; first | exact q8.elim | omega) (hF17 _ (by rw [(tpg_12 hG hxo).2.1]; decide)) (by rw [hF17 _ (by rw [hims]; decide)]) (by rw [hF17 _ (by rw [hkep]; decide)]) hPm
  have l0 := m0
  have l1 := m1
  have l2 := m2
  have l3 := m3
  have l4 := m4
  have l5 := m5
  have l6 := m6
  have hRe : mo_R (mo_i (f16 (ρ mo 2))) = R_18 := by rw [hF17 _ (by rw [hrow]; decide)]; exact hRe_18.symm
  have hT := hT1
  have hP := hB.1; rw [ht] at hP; have hD := tp_ad f16 hD; clear hB hFc hz1 hk1; subst ht; generalize t.heap = H at hP hS ⊢
  refine lv_pop hx hb dL_law_420 rfl ?_
  refine lv_aload_n hx hb dL_law_421 rfl (lv_at hl 2 rfl) ?_
  refine lv_aload_n hx hb dL_law_422 rfl (lv_at hl 0 rfl) ?_
  refine lv_iload_n hx hb dL_law_423 rfl (lv_at hl 3 rfl) ?_
  refine lv_iconst (v := 1) hx hb dL_law_424 (by decide) ?_
  refine lv_iadd hx hb dL_law_425 ?_
  refine lv_topi (fun z20 ez20 => ?_)
  have iz20 : z20.toInt = i.toInt + 1 := zi_add ez20 rfl (show (1 : Int32).toInt = 1 from rfl) (by omega) (by omega)
  refine va_sld hx hb hX hbl hbA hS (vp_in_iff.mpr ⟨by omega, by omega⟩) dL_law_426 ?_
  refine lv_topi (fun y21 ey21 => ?_)
  obtain rfl : y21 = xs (9 * k + 1) := ey21.trans (congrArg xs (show z20.toInt.toNat = 9 * k + 1 by omega))
  refine lv_aload_n hx hb dL_law_427 rfl (lv_at hl 0 rfl) ?_
  refine lv_iload_n hx hb dL_law_428 rfl (lv_at hl 3 rfl) ?_
  refine lv_iconst (v := 2) hx hb dL_law_429 (by decide) ?_
  refine lv_iadd hx hb dL_law_430 ?_
  refine lv_topi (fun z22 ez22 => ?_)
  have iz22 : z22.toInt = i.toInt + 2 := zi_add ez22 rfl (show (2 : Int32).toInt = 2 from rfl) (by omega) (by omega)
  refine va_sld hx hb hX hbl hbA hS (vp_in_iff.mpr ⟨by omega, by omega⟩) dL_law_431 ?_
  refine lv_topi (fun y23 ey23 => ?_)
  obtain rfl : y23 = xs (9 * k + 2) := ey23.trans (congrArg xs (show z22.toInt.toNat = 9 * k + 2 by omega))
  refine tgk_13 hG hmo (fun y24 y25 y26 y27 y28 y29 y30 y31 y32 y33 y34 y35 y36 y37 y38 y39 y40 y41 y42 y43 y44 y45 y46 y47 y48 => ?_)
  refine tpk_13 hT hmo (fun o49_x0 o49_x1 o49_x7 o49_x9 o49_x10 o49_x11 o49_x12 o49_x13 o49_x14 o49_x15 o49_x16 o49_x17 o49_x18 o49_x19 o49_x20 o49_x22 o49_x25 o49_x28 o49_x29 o49_x32 o49_x33 o49_x34 o49_x35 o49_x36 o49_x37 o49_x38 o49_x47 o49_x48 hf_o49 ro49_0 ro49_1 ro49_2 ro49_3 ro49_4 ro49_5 ro49_6 ro49_7 ro49_8 ro49_9 ro49_10 ro49_11 ro49_12 ro49_13 ro49_14 => ?_)
  refine tpk_pos (tp_in hG hmo (by decide)) hf_o49 (fun q50 eq50 => ?_)
  have hFc := tp_fr hD hS hA
  have hRe_55 : R_18 = mo_R (mo_i (f16 (ρ mo 2))) := hRe.symm
  refine va_calli (va_runV (As := [.int (xs (9 * k + 1)), .int (xs (9 * k + 2))]) (rest := []) ⟨hx, hb, hml, hown, hts⟩ (t_X12_sea l dC dI _ κ mo_n τ ν ρ L f16 hG hT mo (xs (9 * k + 1)) (xs (9 * k + 2)) hmo hJ) (cwV 2 hts gz_X12_sea rfl rfl rfl ⟨rfl, pd_X12_sea⟩ ⟨Nat.le_of_ble_eq_true rfl, Nat.le_of_ble_eq_true rfl⟩) ⟨pz_blind, va_recv hK hP (ci := 12) (q0 := q50) rfl eq50, pz_pre hP hK hD hN⟩ rfl rfl hl.1 rfl (lv_room (Nat.le_of_ble_eq_true rfl)) dL_law_432 ⟨by show _ ≤ 600000; omega, by show _ ≤ 7302249; omega⟩) hS (fun q _ h => hFc q h) hFc (fun r51 f53 t H1 locs ht hvm hw52 hB hz1 hk1 hS => ?_)
  refine tn_4 hw52 (fun hT1 hF54 hw52r hw52p => ?_); clear hw52
  obtain ⟨hw_t, hw_l⟩ := (tpg_12 hG hxo).1
  obtain ⟨-, -, -, -, -, -, ⟨ht13, -, hl13⟩, ⟨ht14, -, hl14⟩, ⟨ht15, -, -, hl15⟩, -, -, ⟨ht18, -, -, hl18⟩⟩ := tpg_11 hG hw_t
  obtain ⟨hJ, hw52pb⟩ := hw52p
  obtain ⟨Rn, hRn⟩ : ∃ R, R = mo_R (mo_i (f53 (ρ mo 2))) := ⟨_, rfl⟩
  rw [← hRn, ← hRe_55] at hw52pb
  obtain ⟨hKN, hw52pbk⟩ := hw52pb
  have hIM : mo_IM (mo_R (mo_i (f53 (ρ mo 3)))) := by rw [hF54 _ (by rw [hims]; decide)]; exact hIM
  have m0 : tp_fld (f53 (ρ xo 0)) 0 = Rn (11) := ((congrArg (fun q => tp_fld q 0) (hF54 (ρ xo 0) (by rw [hw_t]; decide))).trans l0).trans (hKN (11) (by decide) (by decide) (fun q9 => by have q8 : False := q9; omega)).symm
  have m1 : tp_fld (f53 (ρ xo 0)) 4 = Rn (0) := ((congrArg (fun q => tp_fld q 4) (hF54 (ρ xo 0) (by rw [hw_t]; decide))).trans l1).trans (hKN (0) (by decide) (by decide) (fun q9 => by have q8 : False := q9; omega)).symm
  have m2 : tp_fld (f53 (ρ xo 0)) 5 = Rn (1) := ((congrArg (fun q => tp_fld q 5) (hF54 (ρ xo 0) (by rw [hw_t]; decide))).trans l2).trans (hKN (1) (by decide) (by decide) (fun q9 => by have q8 : False := q9; omega)).symm
  have m3 : tp_fld (f53 (ρ (ρ xo 0) 13)) 3 = Rn (3) := ((congrArg (fun q => tp_fld q 3) (hF54 (ρ (ρ xo 0) 13) (by rw [ht13]; decide))).trans l3).trans (hKN (3) (by decide) (by decide) (fun q9 => by have q8 : False := q9; omega)).symm
  have m4 : tp_fld (f53 (ρ (ρ xo 0) 14)) 3 = Rn (7) := ((congrArg (fun q => tp_fld q 3) (hF54 (ρ (ρ xo 0) 14) (by rw [ht14]; decide))).trans l4).trans (hKN (7) (by decide) (by decide) (fun q9 => by have q8 : False := q9; omega)).symm
  have m5 : tp_fld (f53 (ρ (ρ xo 0) 15)) 2 = Rn (6) := ((congrArg (fun q => tp_fld q 2) (hF54 (ρ (ρ xo 0) 15) (by rw [ht15]; decide))).trans l5).trans (hKN (6) (by decide) (by decide) (fun q9 => by have q8 : False := q9; omega)).symm
  have m6 : tp_fld (f53 (ρ (ρ xo 0) 18)) 2 = Rn (10) := ((congrArg (fun q => tp_fld q 2) (hF54 (ρ (ρ xo 0) 18) (by rw [ht18]; decide))).trans l6).trans (hKN (10) (by decide) (by decide) (fun q9 => by have q8 : False := q9; omega)).symm
  have l0 := m0
  have l1 := m1
  have l2 := m2
  have l3 := m3
  have l4 := m4
  have l5 := m5
  have l6 := m6
  rw [hRn] at l0 l1 l2 l3 l4 l5 l6
  have hPm := lz_P.keep hG hT hxo (tp_X.of (E := fun _ => False) hF54 (by decide)) (fun n q9 => False.elim q9) (hF54 _ (by rw [(tpg_12 hG hxo).2.1]; decide)) (by rw [hF54 _ (by rw [hims]; decide)]) (by rw [hF54 _ (by rw [hkep]; decide)]) hPm
  have hT := hT1
  have hP := hB.1; rw [ht] at hP; have hD := tp_ad f53 hD; clear hB hFc hz1 hk1; subst ht; generalize t.heap = H at hP hS ⊢
  refine lv_pop hx hb dL_law_435 rfl ?_
  refine lv_goto (tgt := 1710) hx hb dL_law_436 (by decide) ?_
  refine tp_widen (cells + 110) (slots + 2634) (by omega) (by omega) ?_
  exact kk τ ν ρ L f53 _ _ _ ⟨hG, hT, hxo, hmo, hJ, hIM, ⟨l0, l1, l2, l3, l4, l5, l6⟩, hPm⟩ hP hD hS (lv_sub hl [0, 1, 2, 3] rfl)
set_option maxHeartbeats 8000000 in
set_option maxRecDepth 100000 in
theorem law_case_5 {p : Program} {l : Launch} {e : Env} {s : State} {m : MethodId} {below : List Frame} {meth : Method} {c : Code} {b N9 : Nat} {xs : Nat → Int32} {dC : Nat → ClassId} {dI : Nat → Nat → Nat} {κ : Nat → ClassId} {adK adV : Nat → Nat} {zv : Option Nat} {xo mo : Nat} {k cells slots : Nat} {i : Int32} (C0 : lw_At p s m meth c b N9 xs) (hN9 : N9 ≤ 4608) (hN : nz_ok s) (hZ : pw_Z adK adV zv (fun q : Nat => s.heap.size ≤ q) s s.heap) (hK : va_K (dC, dI) vwCl (tp_K κ) s) (hk : 9 * k + 9 ≤ N9) (hi : i.toInt = 9 * (k : Int)) (hc : cells + 110 ≤ 600000) (hs : slots + 2634 ≤ 7302249) (kk : ∀ (τ ν : Nat → Nat) (ρ : Nat → Nat → Nat) (L : List Nat) (f : Nat → va_E) (H : Heap) (locs : List Loc) (ls : Array Slot), lz_I κ xo mo τ ν ρ L f → va_P (dC, dI) vwCl (va_pl L f) H → va_D (fun q : Nat => s.heap.size ≤ q) (va_pl L f) → va_S (fun q : Nat => s.heap.size ≤ q) s.heap H locs → lv_has ls 4 [(0, .ref b), (1, .ref xo), (2, .ref mo), (3, .int i)] → W p l e room_1 s m #[Value.ref b] below meth c H locs (cells + 110) (slots + 2634) (lw_Z below #[Value.ref b] s) (F0 m 1710 ls [])) {τ ν : Nat → Nat} {ρ : Nat → Nat → Nat} {L : List Nat} {f : Nat → va_E} {H : Heap} {locs : List Loc} {ls : Array Slot}  (hI : lz_I κ xo mo τ ν ρ L f) (hP : va_P (dC, dI) vwCl (va_pl L f) H) (hD : va_D (fun q : Nat => s.heap.size ≤ q) (va_pl L f)) (hS : va_S (fun q : Nat => s.heap.size ≤ q) s.heap H locs) (hl : lv_has ls 4 [(0, .ref b), (1, .ref xo), (2, .ref mo), (3, .int i)]) : W p l e room_1 s m #[Value.ref b] below meth c H locs cells slots (lw_Z below #[Value.ref b] s) (F0 m 439 ls []) := by
  obtain ⟨hx, hb, hr, hml, hown, hts, hX, hbl, hlocks, hgv⟩ := id C0
  have hown : s.vm.findClass RL = some m.cls := hown
  have hA : ∀ q : Nat, s.heap.size ≤ q → (fun q : Nat => s.heap.size ≤ q) q := fun _ h => h
  have hbA : ¬ (fun q : Nat => s.heap.size ≤ q) b := Nat.not_le.mpr hbl
  obtain ⟨hG, hT, hxo, hmo, hJ, hIM, ⟨l0, l1, l2, l3, l4, l5, l6⟩, hPm⟩ := hI
  have hrow := (tpg_13 hG hmo).1; have hims := (tpg_13 hG hmo).2.1; have hkep := (tpg_13 hG hmo).2.2.1
  refine lv_aload_n hx hb dL_law_439 rfl (lv_at hl 1 rfl) ?_
  refine lv_aload_n hx hb dL_law_440 rfl (lv_at hl 0 rfl) ?_
  refine lv_iload_n hx hb dL_law_441 rfl (lv_at hl 3 rfl) ?_
  refine lv_iconst (v := 1) hx hb dL_law_442 (by decide) ?_
  refine lv_iadd hx hb dL_law_443 ?_
  refine lv_topi (fun z1 ez1 => ?_)
  have iz1 : z1.toInt = i.toInt + 1 := zi_add ez1 rfl (show (1 : Int32).toInt = 1 from rfl) (by omega) (by omega)
  refine va_sld hx hb hX hbl hbA hS (vp_in_iff.mpr ⟨by omega, by omega⟩) dL_law_444 ?_
  refine lv_topi (fun y2 ey2 => ?_)
  obtain rfl : y2 = xs (9 * k + 1) := ey2.trans (congrArg xs (show z1.toInt.toNat = 9 * k + 1 by omega))
  refine lv_aload_n hx hb dL_law_445 rfl (lv_at hl 0 rfl) ?_
  refine lv_iload_n hx hb dL_law_446 rfl (lv_at hl 3 rfl) ?_
  refine lv_iconst (v := 2) hx hb dL_law_447 (by decide) ?_
  refine lv_iadd hx hb dL_law_448 ?_
  refine lv_topi (fun z3 ez3 => ?_)
  have iz3 : z3.toInt = i.toInt + 2 := zi_add ez3 rfl (show (2 : Int32).toInt = 2 from rfl) (by omega) (by omega)
  refine va_sld hx hb hX hbl hbA hS (vp_in_iff.mpr ⟨by omega, by omega⟩) dL_law_449 ?_
  refine lv_topi (fun y4 ey4 => ?_)
  obtain rfl : y4 = xs (9 * k + 2) := ey4.trans (congrArg xs (show z3.toInt.toNat = 9 * k + 2 by omega))
  refine lv_aload_n hx hb dL_law_450 rfl (lv_at hl 0 rfl) ?_
  refine lv_iload_n hx hb dL_law_451 rfl (lv_at hl 3 rfl) ?_
  refine lv_iconst (v := 3) hx hb dL_law_452 (by decide) ?_
  refine lv_iadd hx hb dL_law_453 ?_
  refine lv_topi (fun z5 ez5 => ?_)
  have iz5 : z5.toInt = i.toInt + 3 := zi_add ez5 rfl (show (3 : Int32).toInt = 3 from rfl) (by omega) (by omega)
  refine va_sld hx hb hX hbl hbA hS (vp_in_iff.mpr ⟨by omega, by omega⟩) dL_law_454 ?_
  refine lv_topi (fun y6 ey6 => ?_)
  obtain rfl : y6 = xs (9 * k + 3) := ey6.trans (congrArg xs (show z5.toInt.toNat = 9 * k + 3 by omega))
  refine lv_aload_n hx hb dL_law_455 rfl (lv_at hl 0 rfl) ?_
  refine lv_iload_n hx hb dL_law_456 rfl (lv_at hl 3 rfl) ?_
  refine lv_iconst (v := 4) hx hb dL_law_457 (by decide) ?_
  refine lv_iadd hx hb dL_law_458 ?_
  refine lv_topi (fun z7 ez7 => ?_)
  have iz7 : z7.toInt = i.toInt + 4 := zi_add ez7 rfl (show (4 : Int32).toInt = 4 from rfl) (by omega) (by omega)
  refine va_sld hx hb hX hbl hbA hS (vp_in_iff.mpr ⟨by omega, by omega⟩) dL_law_459 ?_
  refine lv_topi (fun y8 ey8 => ?_)
  obtain rfl : y8 = xs (9 * k + 4) := ey8.trans (congrArg xs (show z7.toInt.toNat = 9 * k + 4 by omega))
  refine tgk_12 hG hxo (fun y9 y9l y10 y11 y12 y13 y14 y15a y15b y15c => ?_)
  refine tpk_12 hT hxo (fun o16_x6 hf_o16 => ?_)
  refine tpk_pos (tp_in hG hxo (by decide)) hf_o16 (fun q17 eq17 => ?_)
  have hFc := tp_fr hD hS hA
  obtain ⟨R_22, hRe_22⟩ : ∃ R, R = mo_R (mo_i (f (ρ mo 2))) := ⟨_, rfl⟩; rw [← hRe_22] at l0 l1 l2 l3 l4 l5 l6
  refine va_calli (va_runV (As := [.int (xs (9 * k + 1)), .int (xs (9 * k + 2)), .int (xs (9 * k + 3)), .int (xs (9 * k + 4))]) (rest := []) ⟨hx, hb, hml, hown, hts⟩ (t_X11_slot l dC dI _ (mo_O κ mo_n) κ τ ν ρ L f hG hT xo (xs (9 * k + 1)) (xs (9 * k + 2)) (xs (9 * k + 3)) (xs (9 * k + 4)) hxo) (cwV 4 hts gz_X11_slot rfl rfl rfl ⟨rfl, pd_X11_slot⟩ ⟨Nat.le_of_ble_eq_true rfl, Nat.le_of_ble_eq_true rfl⟩) ⟨pz_blind, va_recv hK hP (ci := 11) (q0 := q17) rfl eq17, pz_pre hP hK hD hN⟩ rfl rfl hl.1 rfl (lv_room (Nat.le_of_ble_eq_true rfl)) dL_law_460 ⟨by show _ ≤ 600000; omega, by show _ ≤ 7302249; omega⟩) hS (fun q _ h => hFc q h) hFc (fun r18 f20 t H1 locs ht hvm hw19 hB hz1 hk1 hS => ?_)
  refine tn_4 hw19 (fun hT1 hF21 hw19r hw19p => ?_); clear hw19
  obtain ⟨hw_t, hw_l⟩ := (tpg_12 hG hxo).1
  obtain ⟨-, -, -, -, -, -, ⟨ht13, -, hl13⟩, ⟨ht14, -, hl14⟩, ⟨ht15, -, -, hl15⟩, -, -, ⟨ht18, -, -, hl18⟩⟩ := tpg_11 hG hw_t
  have hJ : mo_RI (-1) 0 (mo_R (mo_i (f20 (ρ mo 2)))) := by rw [hF21 _ (by rw [hrow]; decide)]; exact hJ
  have hIM : mo_IM (mo_R (mo_i (f20 (ρ mo 3)))) := by rw [hF21 _ (by rw [hims]; decide)]; exact hIM
  have hXE := hw19p
  have m0 : tp_fld (f20 (ρ xo 0)) 0 = R_22 (11) := (congrArg (fun q => tp_fld q 0) (hXE (ρ xo 0) (Or.inr (Or.inr hw_t)) (fun q9 => by have q8 : (ρ (ρ xo 0) 30) = 12 := q9; omega))).trans l0
  have m1 : tp_fld (f20 (ρ xo 0)) 4 = R_22 (0) := (congrArg (fun q => tp_fld q 4) (hXE (ρ xo 0) (Or.inr (Or.inr hw_t)) (fun q9 => by have q8 : (ρ (ρ xo 0) 30) = 12 := q9; omega))).trans l1
  have m2 : tp_fld (f20 (ρ xo 0)) 5 = R_22 (1) := (congrArg (fun q => tp_fld q 5) (hXE (ρ xo 0) (Or.inr (Or.inr hw_t)) (fun q9 => by have q8 : (ρ (ρ xo 0) 30) = 12 := q9; omega))).trans l2
  have m3 : tp_fld (f20 (ρ (ρ xo 0) 13)) 3 = R_22 (3) := (congrArg (fun q => tp_fld q 3) (hXE (ρ (ρ xo 0) 13) (Or.inr (Or.inl ht13)) (fun q9 => by have q8 : (ρ (ρ (ρ xo 0) 13) 30) = 12 := q9; omega))).trans l3
  have m4 : tp_fld (f20 (ρ (ρ xo 0) 14)) 3 = R_22 (7) := (congrArg (fun q => tp_fld q 3) (hXE (ρ (ρ xo 0) 14) (Or.inr (Or.inl ht14)) (fun q9 => by have q8 : (ρ (ρ (ρ xo 0) 14) 30) = 12 := q9; omega))).trans l4
  have m5 : tp_fld (f20 (ρ (ρ xo 0) 15)) 2 = R_22 (6) := (congrArg (fun q => tp_fld q 2) (hXE (ρ (ρ xo 0) 15) (Or.inl ht15) (fun q9 => by have q8 : (ρ (ρ (ρ xo 0) 15) 30) = 12 := q9; omega))).trans l5
  have m6 : tp_fld (f20 (ρ (ρ xo 0) 18)) 2 = R_22 (10) := (congrArg (fun q => tp_fld q 2) (hXE (ρ (ρ xo 0) 18) (Or.inl ht18) (fun q9 => by have q8 : (ρ (ρ (ρ xo 0) 18) 30) = 12 := q9; omega))).trans l6
  have hPm := lz_P.keep hG hT hxo hXE (fun n q9 => by have q8 : n = 12 := q9; first | exact q8.elim | omega) (hF21 _ (by rw [(tpg_12 hG hxo).2.1]; decide)) (by rw [hF21 _ (by rw [hims]; decide)]) (by rw [hF21 _ (by rw [hkep]; decide)]) hPm
  have l0 := m0
  have l1 := m1
  have l2 := m2
  have l3 := m3
  have l4 := m4
  have l5 := m5
  have l6 := m6
  have hRe : mo_R (mo_i (f20 (ρ mo 2))) = R_22 := by rw [hF21 _ (by rw [hrow]; decide)]; exact hRe_22.symm
  have hT := hT1
  have hP := hB.1; rw [ht] at hP; have hD := tp_ad f20 hD; clear hB hFc hz1 hk1; subst ht; generalize t.heap = H at hP hS ⊢
  refine lv_pop hx hb dL_law_463 rfl ?_
  refine lv_aload_n hx hb dL_law_464 rfl (lv_at hl 2 rfl) ?_
  refine lv_aload_n hx hb dL_law_465 rfl (lv_at hl 0 rfl) ?_
  refine lv_iload_n hx hb dL_law_466 rfl (lv_at hl 3 rfl) ?_
  refine lv_iconst (v := 1) hx hb dL_law_467 (by decide) ?_
  refine lv_iadd hx hb dL_law_468 ?_
  refine lv_topi (fun z23 ez23 => ?_)
  have iz23 : z23.toInt = i.toInt + 1 := zi_add ez23 rfl (show (1 : Int32).toInt = 1 from rfl) (by omega) (by omega)
  refine va_sld hx hb hX hbl hbA hS (vp_in_iff.mpr ⟨by omega, by omega⟩) dL_law_469 ?_
  refine lv_topi (fun y24 ey24 => ?_)
  obtain rfl : y24 = xs (9 * k + 1) := ey24.trans (congrArg xs (show z23.toInt.toNat = 9 * k + 1 by omega))
  refine lv_aload_n hx hb dL_law_470 rfl (lv_at hl 0 rfl) ?_
  refine lv_iload_n hx hb dL_law_471 rfl (lv_at hl 3 rfl) ?_
  refine lv_iconst (v := 2) hx hb dL_law_472 (by decide) ?_
  refine lv_iadd hx hb dL_law_473 ?_
  refine lv_topi (fun z25 ez25 => ?_)
  have iz25 : z25.toInt = i.toInt + 2 := zi_add ez25 rfl (show (2 : Int32).toInt = 2 from rfl) (by omega) (by omega)
  refine va_sld hx hb hX hbl hbA hS (vp_in_iff.mpr ⟨by omega, by omega⟩) dL_law_474 ?_
  refine lv_topi (fun y26 ey26 => ?_)
  obtain rfl : y26 = xs (9 * k + 2) := ey26.trans (congrArg xs (show z25.toInt.toNat = 9 * k + 2 by omega))
  refine lv_aload_n hx hb dL_law_475 rfl (lv_at hl 0 rfl) ?_
  refine lv_iload_n hx hb dL_law_476 rfl (lv_at hl 3 rfl) ?_
  refine lv_iconst (v := 3) hx hb dL_law_477 (by decide) ?_
  refine lv_iadd hx hb dL_law_478 ?_
  refine lv_topi (fun z27 ez27 => ?_)
  have iz27 : z27.toInt = i.toInt + 3 := zi_add ez27 rfl (show (3 : Int32).toInt = 3 from rfl) (by omega) (by omega)
  refine va_sld hx hb hX hbl hbA hS (vp_in_iff.mpr ⟨by omega, by omega⟩) dL_law_479 ?_
  refine lv_topi (fun y28 ey28 => ?_)
  obtain rfl : y28 = xs (9 * k + 3) := ey28.trans (congrArg xs (show z27.toInt.toNat = 9 * k + 3 by omega))
  refine lv_aload_n hx hb dL_law_480 rfl (lv_at hl 0 rfl) ?_
  refine lv_iload_n hx hb dL_law_481 rfl (lv_at hl 3 rfl) ?_
  refine lv_iconst (v := 4) hx hb dL_law_482 (by decide) ?_
  refine lv_iadd hx hb dL_law_483 ?_
  refine lv_topi (fun z29 ez29 => ?_)
  have iz29 : z29.toInt = i.toInt + 4 := zi_add ez29 rfl (show (4 : Int32).toInt = 4 from rfl) (by omega) (by omega)
  refine va_sld hx hb hX hbl hbA hS (vp_in_iff.mpr ⟨by omega, by omega⟩) dL_law_484 ?_
  refine lv_topi (fun y30 ey30 => ?_)
  obtain rfl : y30 = xs (9 * k + 4) := ey30.trans (congrArg xs (show z29.toInt.toNat = 9 * k + 4 by omega))
  refine tgk_13 hG hmo (fun y31 y32 y33 y34 y35 y36 y37 y38 y39 y40 y41 y42 y43 y44 y45 y46 y47 y48 y49 y50 y51 y52 y53 y54 y55 => ?_)
  refine tpk_13 hT hmo (fun o56_x0 o56_x1 o56_x7 o56_x9 o56_x10 o56_x11 o56_x12 o56_x13 o56_x14 o56_x15 o56_x16 o56_x17 o56_x18 o56_x19 o56_x20 o56_x22 o56_x25 o56_x28 o56_x29 o56_x32 o56_x33 o56_x34 o56_x35 o56_x36 o56_x37 o56_x38 o56_x47 o56_x48 hf_o56 ro56_0 ro56_1 ro56_2 ro56_3 ro56_4 ro56_5 ro56_6 ro56_7 ro56_8 ro56_9 ro56_10 ro56_11 ro56_12 ro56_13 ro56_14 => ?_)
  refine tpk_pos (tp_in hG hmo (by decide)) hf_o56 (fun q57 eq57 => ?_)
  have hFc := tp_fr hD hS hA
  have hRe_62 : R_22 = mo_R (mo_i (f20 (ρ mo 2))) := hRe.symm
  refine va_calli (va_runV (As := [.int (xs (9 * k + 1)), .int (xs (9 * k + 2)), .int (xs (9 * k + 3)), .int (xs (9 * k + 4))]) (rest := []) ⟨hx, hb, hml, hown, hts⟩ (t_X12_slot l dC dI _ κ mo_n τ ν ρ L f20 hG hT mo (xs (9 * k + 1)) (xs (9 * k + 2)) (xs (9 * k + 3)) (xs (9 * k + 4)) hmo hJ) (cwV 4 hts gz_X12_slot rfl rfl rfl ⟨rfl, pd_X12_slot⟩ ⟨Nat.le_of_ble_eq_true rfl, Nat.le_of_ble_eq_true rfl⟩) ⟨pz_blind, va_recv hK hP (ci := 12) (q0 := q57) rfl eq57, pz_pre hP hK hD hN⟩ rfl rfl hl.1 rfl (lv_room (Nat.le_of_ble_eq_true rfl)) dL_law_485 ⟨by show _ ≤ 600000; omega, by show _ ≤ 7302249; omega⟩) hS (fun q _ h => hFc q h) hFc (fun r58 f60 t H1 locs ht hvm hw59 hB hz1 hk1 hS => ?_)
  refine tn_4 hw59 (fun hT1 hF61 hw59r hw59p => ?_); clear hw59
  obtain ⟨hw_t, hw_l⟩ := (tpg_12 hG hxo).1
  obtain ⟨-, -, -, -, -, -, ⟨ht13, -, hl13⟩, ⟨ht14, -, hl14⟩, ⟨ht15, -, -, hl15⟩, -, -, ⟨ht18, -, -, hl18⟩⟩ := tpg_11 hG hw_t
  obtain ⟨hJ, hw59pb⟩ := hw59p
  obtain ⟨Rn, hRn⟩ : ∃ R, R = mo_R (mo_i (f60 (ρ mo 2))) := ⟨_, rfl⟩
  rw [← hRn, ← hRe_62] at hw59pb
  have hKN := hw59pb
  have hIM : mo_IM (mo_R (mo_i (f60 (ρ mo 3)))) := by rw [hF61 _ (by rw [hims]; decide)]; exact hIM
  have m0 : tp_fld (f60 (ρ xo 0)) 0 = Rn (11) := ((congrArg (fun q => tp_fld q 0) (hF61 (ρ xo 0) (by rw [hw_t]; decide))).trans l0).trans (hKN (11) (by decide) (by decide) (fun q9 => by have q8 : (11 : Int) = 2 := q9; omega)).symm
  have m1 : tp_fld (f60 (ρ xo 0)) 4 = Rn (0) := ((congrArg (fun q => tp_fld q 4) (hF61 (ρ xo 0) (by rw [hw_t]; decide))).trans l1).trans (hKN (0) (by decide) (by decide) (fun q9 => by have q8 : (0 : Int) = 2 := q9; omega)).symm
  have m2 : tp_fld (f60 (ρ xo 0)) 5 = Rn (1) := ((congrArg (fun q => tp_fld q 5) (hF61 (ρ xo 0) (by rw [hw_t]; decide))).trans l2).trans (hKN (1) (by decide) (by decide) (fun q9 => by have q8 : (1 : Int) = 2 := q9; omega)).symm
  have m3 : tp_fld (f60 (ρ (ρ xo 0) 13)) 3 = Rn (3) := ((congrArg (fun q => tp_fld q 3) (hF61 (ρ (ρ xo 0) 13) (by rw [ht13]; decide))).trans l3).trans (hKN (3) (by decide) (by decide) (fun q9 => by have q8 : (3 : Int) = 2 := q9; omega)).symm
  have m4 : tp_fld (f60 (ρ (ρ xo 0) 14)) 3 = Rn (7) := ((congrArg (fun q => tp_fld q 3) (hF61 (ρ (ρ xo 0) 14) (by rw [ht14]; decide))).trans l4).trans (hKN (7) (by decide) (by decide) (fun q9 => by have q8 : (7 : Int) = 2 := q9; omega)).symm
  have m5 : tp_fld (f60 (ρ (ρ xo 0) 15)) 2 = Rn (6) := ((congrArg (fun q => tp_fld q 2) (hF61 (ρ (ρ xo 0) 15) (by rw [ht15]; decide))).trans l5).trans (hKN (6) (by decide) (by decide) (fun q9 => by have q8 : (6 : Int) = 2 := q9; omega)).symm
  have m6 : tp_fld (f60 (ρ (ρ xo 0) 18)) 2 = Rn (10) := ((congrArg (fun q => tp_fld q 2) (hF61 (ρ (ρ xo 0) 18) (by rw [ht18]; decide))).trans l6).trans (hKN (10) (by decide) (by decide) (fun q9 => by have q8 : (10 : Int) = 2 := q9; omega)).symm
  have l0 := m0
  have l1 := m1
  have l2 := m2
  have l3 := m3
  have l4 := m4
  have l5 := m5
  have l6 := m6
  rw [hRn] at l0 l1 l2 l3 l4 l5 l6
  have hPm := lz_P.keep hG hT hxo (tp_X.of (E := fun _ => False) hF61 (by decide)) (fun n q9 => False.elim q9) (hF61 _ (by rw [(tpg_12 hG hxo).2.1]; decide)) (by rw [hF61 _ (by rw [hims]; decide)]) (by rw [hF61 _ (by rw [hkep]; decide)]) hPm
  have hT := hT1
  have hP := hB.1; rw [ht] at hP; have hD := tp_ad f60 hD; clear hB hFc hz1 hk1; subst ht; generalize t.heap = H at hP hS ⊢
  refine lv_pop hx hb dL_law_488 rfl ?_
  refine lv_goto (tgt := 1710) hx hb dL_law_489 (by decide) ?_
  refine tp_widen (cells + 110) (slots + 2634) (by omega) (by omega) ?_
  exact kk τ ν ρ L f60 _ _ _ ⟨hG, hT, hxo, hmo, hJ, hIM, ⟨l0, l1, l2, l3, l4, l5, l6⟩, hPm⟩ hP hD hS (lv_sub hl [0, 1, 2, 3] rfl)
set_option maxHeartbeats 8000000 in
set_option maxRecDepth 100000 in
theorem law_case_6 {p : Program} {l : Launch} {e : Env} {s : State} {m : MethodId} {below : List Frame} {meth : Method} {c : Code} {b N9 : Nat} {xs : Nat → Int32} {dC : Nat → ClassId} {dI : Nat → Nat → Nat} {κ : Nat → ClassId} {adK adV : Nat → Nat} {zv : Option Nat} {xo mo : Nat} {k cells slots : Nat} {i : Int32} (C0 : lw_At p s m meth c b N9 xs) (hN9 : N9 ≤ 4608) (hN : nz_ok s) (hZ : pw_Z adK adV zv (fun q : Nat => s.heap.size ≤ q) s s.heap) (hK : va_K (dC, dI) vwCl (tp_K κ) s) (hk : 9 * k + 9 ≤ N9) (hi : i.toInt = 9 * (k : Int)) (hc : cells + 110 ≤ 600000) (hs : slots + 2634 ≤ 7302249) (kk : ∀ (τ ν : Nat → Nat) (ρ : Nat → Nat → Nat) (L : List Nat) (f : Nat → va_E) (H : Heap) (locs : List Loc) (ls : Array Slot), lz_I κ xo mo τ ν ρ L f → va_P (dC, dI) vwCl (va_pl L f) H → va_D (fun q : Nat => s.heap.size ≤ q) (va_pl L f) → va_S (fun q : Nat => s.heap.size ≤ q) s.heap H locs → lv_has ls 4 [(0, .ref b), (1, .ref xo), (2, .ref mo), (3, .int i)] → W p l e room_1 s m #[Value.ref b] below meth c H locs (cells + 110) (slots + 2634) (lw_Z below #[Value.ref b] s) (F0 m 1710 ls [])) {τ ν : Nat → Nat} {ρ : Nat → Nat → Nat} {L : List Nat} {f : Nat → va_E} {H : Heap} {locs : List Loc} {ls : Array Slot}  (hI : lz_I κ xo mo τ ν ρ L f) (hP : va_P (dC, dI) vwCl (va_pl L f) H) (hD : va_D (fun q : Nat => s.heap.size ≤ q) (va_pl L f)) (hS : va_S (fun q : Nat => s.heap.size ≤ q) s.heap H locs) (hl : lv_has ls 4 [(0, .ref b), (1, .ref xo), (2, .ref mo), (3, .int i)]) : W p l e room_1 s m #[Value.ref b] below meth c H locs cells slots (lw_Z below #[Value.ref b] s) (F0 m 492 ls []) := by
  obtain ⟨hx, hb, hr, hml, hown, hts, hX, hbl, hlocks, hgv⟩ := id C0
  have hown : s.vm.findClass RL = some m.cls := hown
  have hA : ∀ q : Nat, s.heap.size ≤ q → (fun q : Nat => s.heap.size ≤ q) q := fun _ h => h
  have hbA : ¬ (fun q : Nat => s.heap.size ≤ q) b := Nat.not_le.mpr hbl
  obtain ⟨hG, hT, hxo, hmo, hJ, hIM, ⟨l0, l1, l2, l3, l4, l5, l6⟩, hPm⟩ := hI
  have hrow := (tpg_13 hG hmo).1; have hims := (tpg_13 hG hmo).2.1; have hkep := (tpg_13 hG hmo).2.2.1
  refine lv_aload_n hx hb dL_law_492 rfl (lv_at hl 1 rfl) ?_
  refine lv_aload_n hx hb dL_law_493 rfl (lv_at hl 0 rfl) ?_
  refine lv_iload_n hx hb dL_law_494 rfl (lv_at hl 3 rfl) ?_
  refine lv_iconst (v := 1) hx hb dL_law_495 (by decide) ?_
  refine lv_iadd hx hb dL_law_496 ?_
  refine lv_topi (fun z1 ez1 => ?_)
  have iz1 : z1.toInt = i.toInt + 1 := zi_add ez1 rfl (show (1 : Int32).toInt = 1 from rfl) (by omega) (by omega)
  refine va_sld hx hb hX hbl hbA hS (vp_in_iff.mpr ⟨by omega, by omega⟩) dL_law_497 ?_
  refine lv_topi (fun y2 ey2 => ?_)
  obtain rfl : y2 = xs (9 * k + 1) := ey2.trans (congrArg xs (show z1.toInt.toNat = 9 * k + 1 by omega))
  refine lv_aload_n hx hb dL_law_498 rfl (lv_at hl 0 rfl) ?_
  refine lv_iload_n hx hb dL_law_499 rfl (lv_at hl 3 rfl) ?_
  refine lv_iconst (v := 2) hx hb dL_law_500 (by decide) ?_
  refine lv_iadd hx hb dL_law_501 ?_
  refine lv_topi (fun z3 ez3 => ?_)
  have iz3 : z3.toInt = i.toInt + 2 := zi_add ez3 rfl (show (2 : Int32).toInt = 2 from rfl) (by omega) (by omega)
  refine va_sld hx hb hX hbl hbA hS (vp_in_iff.mpr ⟨by omega, by omega⟩) dL_law_502 ?_
  refine lv_topi (fun y4 ey4 => ?_)
  obtain rfl : y4 = xs (9 * k + 2) := ey4.trans (congrArg xs (show z3.toInt.toNat = 9 * k + 2 by omega))
  refine lv_aload_n hx hb dL_law_503 rfl (lv_at hl 0 rfl) ?_
  refine lv_iload_n hx hb dL_law_504 rfl (lv_at hl 3 rfl) ?_
  refine lv_iconst (v := 3) hx hb dL_law_505 (by decide) ?_
  refine lv_iadd hx hb dL_law_506 ?_
  refine lv_topi (fun z5 ez5 => ?_)
  have iz5 : z5.toInt = i.toInt + 3 := zi_add ez5 rfl (show (3 : Int32).toInt = 3 from rfl) (by omega) (by omega)
  refine va_sld hx hb hX hbl hbA hS (vp_in_iff.mpr ⟨by omega, by omega⟩) dL_law_507 ?_
  refine lv_topi (fun y6 ey6 => ?_)
  obtain rfl : y6 = xs (9 * k + 3) := ey6.trans (congrArg xs (show z5.toInt.toNat = 9 * k + 3 by omega))
  refine tgk_12 hG hxo (fun y7 y7l y8 y9 y10 y11 y12 y13a y13b y13c => ?_)
  refine tpk_12 hT hxo (fun o14_x6 hf_o14 => ?_)
  refine tpk_pos (tp_in hG hxo (by decide)) hf_o14 (fun q15 eq15 => ?_)
  have hFc := tp_fr hD hS hA
  obtain ⟨R_20, hRe_20⟩ : ∃ R, R = mo_R (mo_i (f (ρ mo 2))) := ⟨_, rfl⟩; rw [← hRe_20] at l0 l1 l2 l3 l4 l5 l6
  refine va_calli (va_runV (As := [.int (xs (9 * k + 1)), .int (xs (9 * k + 2)), .int (xs (9 * k + 3))]) (rest := []) ⟨hx, hb, hml, hown, hts⟩ (t_X11_broken l dC dI _ (mo_O κ mo_n) κ τ ν ρ L f hG hT xo (xs (9 * k + 1)) (xs (9 * k + 2)) (xs (9 * k + 3)) hxo) (cwV 3 hts gz_X11_broken rfl rfl rfl ⟨rfl, pd_X11_broken⟩ ⟨Nat.le_of_ble_eq_true rfl, Nat.le_of_ble_eq_true rfl⟩) ⟨pz_blind, va_recv hK hP (ci := 11) (q0 := q15) rfl eq15, pz_pre hP hK hD hN⟩ rfl rfl hl.1 rfl (lv_room (Nat.le_of_ble_eq_true rfl)) dL_law_508 ⟨by show _ ≤ 600000; omega, by show _ ≤ 7302249; omega⟩) hS (fun q _ h => hFc q h) hFc (fun r16 f18 t H1 locs ht hvm hw17 hB hz1 hk1 hS => ?_)
  refine tn_4 hw17 (fun hT1 hF19 hw17r hw17p => ?_); clear hw17
  obtain ⟨hw_t, hw_l⟩ := (tpg_12 hG hxo).1
  obtain ⟨-, -, -, -, -, -, ⟨ht13, -, hl13⟩, ⟨ht14, -, hl14⟩, ⟨ht15, -, -, hl15⟩, -, -, ⟨ht18, -, -, hl18⟩⟩ := tpg_11 hG hw_t
  have hJ : mo_RI (-1) 0 (mo_R (mo_i (f18 (ρ mo 2)))) := by rw [hF19 _ (by rw [hrow]; decide)]; exact hJ
  have hIM : mo_IM (mo_R (mo_i (f18 (ρ mo 3)))) := by rw [hF19 _ (by rw [hims]; decide)]; exact hIM
  obtain ⟨hXE, hw17pq⟩ := hw17p
  have it21 : (((¬ ((0 ≤ (xs (9 * k + 2)).toInt ∧ (xs (9 * k + 2)).toInt ≤ 2399) ∧ (0 ≤ (xs (9 * k + 3)).toInt ∧ (xs (9 * k + 3)).toInt ≤ 2399) ∧ (xs (9 * k + 2)).toInt ≤ (xs (9 * k + 3)).toInt)) → r16.toInt = -1) ∧ (¬ (¬ ((0 ≤ (xs (9 * k + 2)).toInt ∧ (xs (9 * k + 2)).toInt ≤ 2399) ∧ (0 ≤ (xs (9 * k + 3)).toInt ∧ (xs (9 * k + 3)).toInt ≤ 2399) ∧ (xs (9 * k + 2)).toInt ≤ (xs (9 * k + 3)).toInt)) → (((¬ (0 ≤ (xs (9 * k + 1)).toInt ∧ (xs (9 * k + 1)).toInt < R_20 (0))) → r16.toInt = -2) ∧ (¬ (¬ (0 ≤ (xs (9 * k + 1)).toInt ∧ (xs (9 * k + 1)).toInt < R_20 (0))) → (((R_20 (3) = 20) → r16.toInt = -5) ∧ (¬ (R_20 (3) = 20) → r16.toInt = R_20 (3) + 1)))))) := by have q9 := hw17pq.1; first | exact q9 | (simp only [l0, l1, l2, l3, l4, l5, l6] at q9; exact q9)
  have it22 : (((¬ ((0 ≤ (xs (9 * k + 2)).toInt ∧ (xs (9 * k + 2)).toInt ≤ 2399) ∧ (0 ≤ (xs (9 * k + 3)).toInt ∧ (xs (9 * k + 3)).toInt ≤ 2399) ∧ (xs (9 * k + 2)).toInt ≤ (xs (9 * k + 3)).toInt)) → (tp_fld (f18 (ρ (ρ xo 0) 13)) 3) = R_20 (3)) ∧ (¬ (¬ ((0 ≤ (xs (9 * k + 2)).toInt ∧ (xs (9 * k + 2)).toInt ≤ 2399) ∧ (0 ≤ (xs (9 * k + 3)).toInt ∧ (xs (9 * k + 3)).toInt ≤ 2399) ∧ (xs (9 * k + 2)).toInt ≤ (xs (9 * k + 3)).toInt)) → (((¬ (0 ≤ (xs (9 * k + 1)).toInt ∧ (xs (9 * k + 1)).toInt < R_20 (0))) → (tp_fld (f18 (ρ (ρ xo 0) 13)) 3) = R_20 (3)) ∧ (¬ (¬ (0 ≤ (xs (9 * k + 1)).toInt ∧ (xs (9 * k + 1)).toInt < R_20 (0))) → (((R_20 (3) = 20) → (tp_fld (f18 (ρ (ρ xo 0) 13)) 3) = R_20 (3)) ∧ (¬ (R_20 (3) = 20) → (tp_fld (f18 (ρ (ρ xo 0) 13)) 3) = R_20 (3) + 1)))))) := by have q9 := hw17pq.2; first | exact q9 | (simp only [l0, l1, l2, l3, l4, l5, l6] at q9; exact q9)
  have m0 : tp_fld (f18 (ρ xo 0)) 0 = R_20 (11) := (congrArg (fun q => tp_fld q 0) (hXE (ρ xo 0) (Or.inr (Or.inr hw_t)) (fun q9 => by have q8 : (ρ (ρ xo 0) 30) = 13 := q9; omega))).trans l0
  have m1 : tp_fld (f18 (ρ xo 0)) 4 = R_20 (0) := (congrArg (fun q => tp_fld q 4) (hXE (ρ xo 0) (Or.inr (Or.inr hw_t)) (fun q9 => by have q8 : (ρ (ρ xo 0) 30) = 13 := q9; omega))).trans l1
  have m2 : tp_fld (f18 (ρ xo 0)) 5 = R_20 (1) := (congrArg (fun q => tp_fld q 5) (hXE (ρ xo 0) (Or.inr (Or.inr hw_t)) (fun q9 => by have q8 : (ρ (ρ xo 0) 30) = 13 := q9; omega))).trans l2
  have m4 : tp_fld (f18 (ρ (ρ xo 0) 14)) 3 = R_20 (7) := (congrArg (fun q => tp_fld q 3) (hXE (ρ (ρ xo 0) 14) (Or.inr (Or.inl ht14)) (fun q9 => by have q8 : (ρ (ρ (ρ xo 0) 14) 30) = 13 := q9; omega))).trans l4
  have m5 : tp_fld (f18 (ρ (ρ xo 0) 15)) 2 = R_20 (6) := (congrArg (fun q => tp_fld q 2) (hXE (ρ (ρ xo 0) 15) (Or.inl ht15) (fun q9 => by have q8 : (ρ (ρ (ρ xo 0) 15) 30) = 13 := q9; omega))).trans l5
  have m6 : tp_fld (f18 (ρ (ρ xo 0) 18)) 2 = R_20 (10) := (congrArg (fun q => tp_fld q 2) (hXE (ρ (ρ xo 0) 18) (Or.inl ht18) (fun q9 => by have q8 : (ρ (ρ (ρ xo 0) 18) 30) = 13 := q9; omega))).trans l6
  have m3 := it22
  have hPm := lz_P.keep hG hT hxo hXE (fun n q9 => by have q8 : n = 13 := q9; first | exact q8.elim | omega) (hF19 _ (by rw [(tpg_12 hG hxo).2.1]; decide)) (by rw [hF19 _ (by rw [hims]; decide)]) (by rw [hF19 _ (by rw [hkep]; decide)]) hPm
  have l0 := m0
  have l1 := m1
  have l2 := m2
  have l3 := m3
  have l4 := m4
  have l5 := m5
  have l6 := m6
  have hRe : mo_R (mo_i (f18 (ρ mo 2))) = R_20 := by rw [hF19 _ (by rw [hrow]; decide)]; exact hRe_20.symm
  have hT := hT1
  have hP := hB.1; rw [ht] at hP; have hD := tp_ad f18 hD; clear hB hFc hz1 hk1; subst ht; generalize t.heap = H at hP hS ⊢
  refine lv_pop hx hb dL_law_511 rfl ?_
  refine lv_aload_n hx hb dL_law_512 rfl (lv_at hl 2 rfl) ?_
  refine lv_aload_n hx hb dL_law_513 rfl (lv_at hl 0 rfl) ?_
  refine lv_iload_n hx hb dL_law_514 rfl (lv_at hl 3 rfl) ?_
  refine lv_iconst (v := 1) hx hb dL_law_515 (by decide) ?_
  refine lv_iadd hx hb dL_law_516 ?_
  refine lv_topi (fun z23 ez23 => ?_)
  have iz23 : z23.toInt = i.toInt + 1 := zi_add ez23 rfl (show (1 : Int32).toInt = 1 from rfl) (by omega) (by omega)
  refine va_sld hx hb hX hbl hbA hS (vp_in_iff.mpr ⟨by omega, by omega⟩) dL_law_517 ?_
  refine lv_topi (fun y24 ey24 => ?_)
  obtain rfl : y24 = xs (9 * k + 1) := ey24.trans (congrArg xs (show z23.toInt.toNat = 9 * k + 1 by omega))
  refine lv_aload_n hx hb dL_law_518 rfl (lv_at hl 0 rfl) ?_
  refine lv_iload_n hx hb dL_law_519 rfl (lv_at hl 3 rfl) ?_
  refine lv_iconst (v := 2) hx hb dL_law_520 (by decide) ?_
  refine lv_iadd hx hb dL_law_521 ?_
  refine lv_topi (fun z25 ez25 => ?_)
  have iz25 : z25.toInt = i.toInt + 2 := zi_add ez25 rfl (show (2 : Int32).toInt = 2 from rfl) (by omega) (by omega)
  refine va_sld hx hb hX hbl hbA hS (vp_in_iff.mpr ⟨by omega, by omega⟩) dL_law_522 ?_
  refine lv_topi (fun y26 ey26 => ?_)
  obtain rfl : y26 = xs (9 * k + 2) := ey26.trans (congrArg xs (show z25.toInt.toNat = 9 * k + 2 by omega))
  refine lv_aload_n hx hb dL_law_523 rfl (lv_at hl 0 rfl) ?_
  refine lv_iload_n hx hb dL_law_524 rfl (lv_at hl 3 rfl) ?_
  refine lv_iconst (v := 3) hx hb dL_law_525 (by decide) ?_
  refine lv_iadd hx hb dL_law_526 ?_
  refine lv_topi (fun z27 ez27 => ?_)
  have iz27 : z27.toInt = i.toInt + 3 := zi_add ez27 rfl (show (3 : Int32).toInt = 3 from rfl) (by omega) (by omega)
  refine va_sld hx hb hX hbl hbA hS (vp_in_iff.mpr ⟨by omega, by omega⟩) dL_law_527 ?_
  refine lv_topi (fun y28 ey28 => ?_)
  obtain rfl : y28 = xs (9 * k + 3) := ey28.trans (congrArg xs (show z27.toInt.toNat = 9 * k + 3 by omega))
  refine tgk_13 hG hmo (fun y29 y30 y31 y32 y33 y34 y35 y36 y37 y38 y39 y40 y41 y42 y43 y44 y45 y46 y47 y48 y49 y50 y51 y52 y53 => ?_)
  refine tpk_13 hT hmo (fun o54_x0 o54_x1 o54_x7 o54_x9 o54_x10 o54_x11 o54_x12 o54_x13 o54_x14 o54_x15 o54_x16 o54_x17 o54_x18 o54_x19 o54_x20 o54_x22 o54_x25 o54_x28 o54_x29 o54_x32 o54_x33 o54_x34 o54_x35 o54_x36 o54_x37 o54_x38 o54_x47 o54_x48 hf_o54 ro54_0 ro54_1 ro54_2 ro54_3 ro54_4 ro54_5 ro54_6 ro54_7 ro54_8 ro54_9 ro54_10 ro54_11 ro54_12 ro54_13 ro54_14 => ?_)
  refine tpk_pos (tp_in hG hmo (by decide)) hf_o54 (fun q55 eq55 => ?_)
  have hFc := tp_fr hD hS hA
  have hRe_60 : R_20 = mo_R (mo_i (f18 (ρ mo 2))) := hRe.symm
  refine va_calli (va_runV (As := [.int (xs (9 * k + 1)), .int (xs (9 * k + 2)), .int (xs (9 * k + 3))]) (rest := []) ⟨hx, hb, hml, hown, hts⟩ (t_X12_broken l dC dI _ κ mo_n τ ν ρ L f18 hG hT mo (xs (9 * k + 1)) (xs (9 * k + 2)) (xs (9 * k + 3)) hmo hJ) (cwV 3 hts gz_X12_broken rfl rfl rfl ⟨rfl, pd_X12_broken⟩ ⟨Nat.le_of_ble_eq_true rfl, Nat.le_of_ble_eq_true rfl⟩) ⟨pz_blind, va_recv hK hP (ci := 12) (q0 := q55) rfl eq55, pz_pre hP hK hD hN⟩ rfl rfl hl.1 rfl (lv_room (Nat.le_of_ble_eq_true rfl)) dL_law_528 ⟨by show _ ≤ 600000; omega, by show _ ≤ 7302249; omega⟩) hS (fun q _ h => hFc q h) hFc (fun r56 f58 t H1 locs ht hvm hw57 hB hz1 hk1 hS => ?_)
  refine tn_4 hw57 (fun hT1 hF59 hw57r hw57p => ?_); clear hw57
  obtain ⟨hw_t, hw_l⟩ := (tpg_12 hG hxo).1
  obtain ⟨-, -, -, -, -, -, ⟨ht13, -, hl13⟩, ⟨ht14, -, hl14⟩, ⟨ht15, -, -, hl15⟩, -, -, ⟨ht18, -, -, hl18⟩⟩ := tpg_11 hG hw_t
  obtain ⟨hJ, hw57pb⟩ := hw57p
  obtain ⟨Rn, hRn⟩ : ∃ R, R = mo_R (mo_i (f58 (ρ mo 2))) := ⟨_, rfl⟩
  rw [← hRn, ← hRe_60] at hw57pb
  obtain ⟨hKN, hw57pbk⟩ := hw57pb
  have hIM : mo_IM (mo_R (mo_i (f58 (ρ mo 3)))) := by rw [hF59 _ (by rw [hims]; decide)]; exact hIM
  obtain ⟨pa9, pc9⟩ := hw57pbk
  have m0 : tp_fld (f58 (ρ xo 0)) 0 = Rn (11) := ((congrArg (fun q => tp_fld q 0) (hF59 (ρ xo 0) (by rw [hw_t]; decide))).trans l0).trans (hKN (11) (by decide) (by decide) (fun q9 => by have q8 : (11 : Int) = 3 := q9; omega)).symm
  have m1 : tp_fld (f58 (ρ xo 0)) 4 = Rn (0) := ((congrArg (fun q => tp_fld q 4) (hF59 (ρ xo 0) (by rw [hw_t]; decide))).trans l1).trans (hKN (0) (by decide) (by decide) (fun q9 => by have q8 : (0 : Int) = 3 := q9; omega)).symm
  have m2 : tp_fld (f58 (ρ xo 0)) 5 = Rn (1) := ((congrArg (fun q => tp_fld q 5) (hF59 (ρ xo 0) (by rw [hw_t]; decide))).trans l2).trans (hKN (1) (by decide) (by decide) (fun q9 => by have q8 : (1 : Int) = 3 := q9; omega)).symm
  have m3 : tp_fld (f58 (ρ (ρ xo 0) 13)) 3 = Rn (3) := (congrArg (fun q => tp_fld q 3) (hF59 (ρ (ρ xo 0) 13) (by rw [ht13]; decide))).trans ((fun h1 h2 => tp_i h1 h2 (fun h1 h2 => tp_i h1 h2 (fun h1 h2 => tp_i h1 h2 (fun h1 h2 => h1.trans h2.symm)))) l3 pc9)
  have m4 : tp_fld (f58 (ρ (ρ xo 0) 14)) 3 = Rn (7) := ((congrArg (fun q => tp_fld q 3) (hF59 (ρ (ρ xo 0) 14) (by rw [ht14]; decide))).trans l4).trans (hKN (7) (by decide) (by decide) (fun q9 => by have q8 : (7 : Int) = 3 := q9; omega)).symm
  have m5 : tp_fld (f58 (ρ (ρ xo 0) 15)) 2 = Rn (6) := ((congrArg (fun q => tp_fld q 2) (hF59 (ρ (ρ xo 0) 15) (by rw [ht15]; decide))).trans l5).trans (hKN (6) (by decide) (by decide) (fun q9 => by have q8 : (6 : Int) = 3 := q9; omega)).symm
  have m6 : tp_fld (f58 (ρ (ρ xo 0) 18)) 2 = Rn (10) := ((congrArg (fun q => tp_fld q 2) (hF59 (ρ (ρ xo 0) 18) (by rw [ht18]; decide))).trans l6).trans (hKN (10) (by decide) (by decide) (fun q9 => by have q8 : (10 : Int) = 3 := q9; omega)).symm
  have l0 := m0
  have l1 := m1
  have l2 := m2
  have l3 := m3
  have l4 := m4
  have l5 := m5
  have l6 := m6
  rw [hRn] at l0 l1 l2 l3 l4 l5 l6
  have hPm := lz_P.keep hG hT hxo (tp_X.of (E := fun _ => False) hF59 (by decide)) (fun n q9 => False.elim q9) (hF59 _ (by rw [(tpg_12 hG hxo).2.1]; decide)) (by rw [hF59 _ (by rw [hims]; decide)]) (by rw [hF59 _ (by rw [hkep]; decide)]) hPm
  have hT := hT1
  have hP := hB.1; rw [ht] at hP; have hD := tp_ad f58 hD; clear hB hFc hz1 hk1; subst ht; generalize t.heap = H at hP hS ⊢
  refine lv_pop hx hb dL_law_531 rfl ?_
  refine lv_goto (tgt := 1710) hx hb dL_law_532 (by decide) ?_
  refine tp_widen (cells + 110) (slots + 2634) (by omega) (by omega) ?_
  exact kk τ ν ρ L f58 _ _ _ ⟨hG, hT, hxo, hmo, hJ, hIM, ⟨l0, l1, l2, l3, l4, l5, l6⟩, hPm⟩ hP hD hS (lv_sub hl [0, 1, 2, 3] rfl)
set_option maxHeartbeats 8000000 in
set_option maxRecDepth 100000 in
theorem law_case_7 {p : Program} {l : Launch} {e : Env} {s : State} {m : MethodId} {below : List Frame} {meth : Method} {c : Code} {b N9 : Nat} {xs : Nat → Int32} {dC : Nat → ClassId} {dI : Nat → Nat → Nat} {κ : Nat → ClassId} {adK adV : Nat → Nat} {zv : Option Nat} {xo mo : Nat} {k cells slots : Nat} {i : Int32} (C0 : lw_At p s m meth c b N9 xs) (hN9 : N9 ≤ 4608) (hN : nz_ok s) (hZ : pw_Z adK adV zv (fun q : Nat => s.heap.size ≤ q) s s.heap) (hK : va_K (dC, dI) vwCl (tp_K κ) s) (hk : 9 * k + 9 ≤ N9) (hi : i.toInt = 9 * (k : Int)) (hc : cells + 110 ≤ 600000) (hs : slots + 2634 ≤ 7302249) (kk : ∀ (τ ν : Nat → Nat) (ρ : Nat → Nat → Nat) (L : List Nat) (f : Nat → va_E) (H : Heap) (locs : List Loc) (ls : Array Slot), lz_I κ xo mo τ ν ρ L f → va_P (dC, dI) vwCl (va_pl L f) H → va_D (fun q : Nat => s.heap.size ≤ q) (va_pl L f) → va_S (fun q : Nat => s.heap.size ≤ q) s.heap H locs → lv_has ls 4 [(0, .ref b), (1, .ref xo), (2, .ref mo), (3, .int i)] → W p l e room_1 s m #[Value.ref b] below meth c H locs (cells + 110) (slots + 2634) (lw_Z below #[Value.ref b] s) (F0 m 1710 ls [])) {τ ν : Nat → Nat} {ρ : Nat → Nat → Nat} {L : List Nat} {f : Nat → va_E} {H : Heap} {locs : List Loc} {ls : Array Slot}  (hI : lz_I κ xo mo τ ν ρ L f) (hP : va_P (dC, dI) vwCl (va_pl L f) H) (hD : va_D (fun q : Nat => s.heap.size ≤ q) (va_pl L f)) (hS : va_S (fun q : Nat => s.heap.size ≤ q) s.heap H locs) (hl : lv_has ls 4 [(0, .ref b), (1, .ref xo), (2, .ref mo), (3, .int i)]) : W p l e room_1 s m #[Value.ref b] below meth c H locs cells slots (lw_Z below #[Value.ref b] s) (F0 m 535 ls []) := by
  obtain ⟨hx, hb, hr, hml, hown, hts, hX, hbl, hlocks, hgv⟩ := id C0
  have hown : s.vm.findClass RL = some m.cls := hown
  have hA : ∀ q : Nat, s.heap.size ≤ q → (fun q : Nat => s.heap.size ≤ q) q := fun _ h => h
  have hbA : ¬ (fun q : Nat => s.heap.size ≤ q) b := Nat.not_le.mpr hbl
  obtain ⟨hG, hT, hxo, hmo, hJ, hIM, ⟨l0, l1, l2, l3, l4, l5, l6⟩, hPm⟩ := hI
  have hrow := (tpg_13 hG hmo).1; have hims := (tpg_13 hG hmo).2.1; have hkep := (tpg_13 hG hmo).2.2.1
  refine lv_aload_n hx hb dL_law_535 rfl (lv_at hl 1 rfl) ?_
  refine lv_aload_n hx hb dL_law_536 rfl (lv_at hl 0 rfl) ?_
  refine lv_iload_n hx hb dL_law_537 rfl (lv_at hl 3 rfl) ?_
  refine lv_iconst (v := 1) hx hb dL_law_538 (by decide) ?_
  refine lv_iadd hx hb dL_law_539 ?_
  refine lv_topi (fun z1 ez1 => ?_)
  have iz1 : z1.toInt = i.toInt + 1 := zi_add ez1 rfl (show (1 : Int32).toInt = 1 from rfl) (by omega) (by omega)
  refine va_sld hx hb hX hbl hbA hS (vp_in_iff.mpr ⟨by omega, by omega⟩) dL_law_540 ?_
  refine lv_topi (fun y2 ey2 => ?_)
  obtain rfl : y2 = xs (9 * k + 1) := ey2.trans (congrArg xs (show z1.toInt.toNat = 9 * k + 1 by omega))
  refine lv_aload_n hx hb dL_law_541 rfl (lv_at hl 0 rfl) ?_
  refine lv_iload_n hx hb dL_law_542 rfl (lv_at hl 3 rfl) ?_
  refine lv_iconst (v := 2) hx hb dL_law_543 (by decide) ?_
  refine lv_iadd hx hb dL_law_544 ?_
  refine lv_topi (fun z3 ez3 => ?_)
  have iz3 : z3.toInt = i.toInt + 2 := zi_add ez3 rfl (show (2 : Int32).toInt = 2 from rfl) (by omega) (by omega)
  refine va_sld hx hb hX hbl hbA hS (vp_in_iff.mpr ⟨by omega, by omega⟩) dL_law_545 ?_
  refine lv_topi (fun y4 ey4 => ?_)
  obtain rfl : y4 = xs (9 * k + 2) := ey4.trans (congrArg xs (show z3.toInt.toNat = 9 * k + 2 by omega))
  refine tgk_12 hG hxo (fun y5 y5l y6 y7 y8 y9 y10 y11a y11b y11c => ?_)
  refine tpk_12 hT hxo (fun o12_x6 hf_o12 => ?_)
  refine tpk_pos (tp_in hG hxo (by decide)) hf_o12 (fun q13 eq13 => ?_)
  have hFc := tp_fr hD hS hA
  obtain ⟨R_18, hRe_18⟩ : ∃ R, R = mo_R (mo_i (f (ρ mo 2))) := ⟨_, rfl⟩; rw [← hRe_18] at l0 l1 l2 l3 l4 l5 l6
  refine va_calli (va_runV (As := [.int (xs (9 * k + 1)), .int (xs (9 * k + 2))]) (rest := []) ⟨hx, hb, hml, hown, hts⟩ (t_X11_terms l dC dI _ (mo_O κ mo_n) κ τ ν ρ L f hG hT xo (xs (9 * k + 1)) (xs (9 * k + 2)) hxo) (cwV 2 hts gz_X11_terms rfl rfl rfl ⟨rfl, pd_X11_terms⟩ ⟨Nat.le_of_ble_eq_true rfl, Nat.le_of_ble_eq_true rfl⟩) ⟨pz_blind, va_recv hK hP (ci := 11) (q0 := q13) rfl eq13, pz_pre hP hK hD hN⟩ rfl rfl hl.1 rfl (lv_room (Nat.le_of_ble_eq_true rfl)) dL_law_546 ⟨by show _ ≤ 600000; omega, by show _ ≤ 7302249; omega⟩) hS (fun q _ h => hFc q h) hFc (fun r14 f16 t H1 locs ht hvm hw15 hB hz1 hk1 hS => ?_)
  refine tn_4 hw15 (fun hT1 hF17 hw15r hw15p => ?_); clear hw15
  obtain ⟨hw_t, hw_l⟩ := (tpg_12 hG hxo).1
  obtain ⟨-, -, -, -, -, -, ⟨ht13, -, hl13⟩, ⟨ht14, -, hl14⟩, ⟨ht15, -, -, hl15⟩, -, -, ⟨ht18, -, -, hl18⟩⟩ := tpg_11 hG hw_t
  have hJ : mo_RI (-1) 0 (mo_R (mo_i (f16 (ρ mo 2)))) := by rw [hF17 _ (by rw [hrow]; decide)]; exact hJ
  have hIM : mo_IM (mo_R (mo_i (f16 (ρ mo 3)))) := by rw [hF17 _ (by rw [hims]; decide)]; exact hIM
  obtain ⟨hXE, hw15pq⟩ := hw15p
  have it19 : (((¬ ((0 ≤ (xs (9 * k + 1)).toInt ∧ (xs (9 * k + 1)).toInt ≤ 100) ∧ (1 ≤ (xs (9 * k + 2)).toInt ∧ (xs (9 * k + 2)).toInt ≤ 1000))) → r14.toInt = -1) ∧ (¬ (¬ ((0 ≤ (xs (9 * k + 1)).toInt ∧ (xs (9 * k + 1)).toInt ≤ 100) ∧ (1 ≤ (xs (9 * k + 2)).toInt ∧ (xs (9 * k + 2)).toInt ≤ 1000))) → r14.toInt = 0)) := by have q9 := hw15pq.1; first | exact q9 | (simp only [l0, l1, l2, l3, l4, l5, l6] at q9; exact q9)
  have it20 : (tp_fld (f16 (ρ xo 0)) 0) = R_18 (11) := by have q9 := hw15pq.2.1; first | exact q9 | (simp only [l0, l1, l2, l3, l4, l5, l6] at q9; exact q9)
  have it21 : (tp_fld (f16 (ρ xo 0)) 4) = R_18 (0) := by have q9 := hw15pq.2.2.1; first | exact q9 | (simp only [l0, l1, l2, l3, l4, l5, l6] at q9; exact q9)
  have it22 : (tp_fld (f16 (ρ xo 0)) 5) = R_18 (1) := by have q9 := hw15pq.2.2.2; first | exact q9 | (simp only [l0, l1, l2, l3, l4, l5, l6] at q9; exact q9)
  have m0 := it20
  have m1 := it21
  have m2 := it22
  have m3 : tp_fld (f16 (ρ (ρ xo 0) 13)) 3 = R_18 (3) := (congrArg (fun q => tp_fld q 3) (hXE (ρ (ρ xo 0) 13) (Or.inr (Or.inl ht13)) (fun q9 => by have q8 : (ρ (ρ (ρ xo 0) 13) 30) = 0 := q9; omega))).trans l3
  have m4 : tp_fld (f16 (ρ (ρ xo 0) 14)) 3 = R_18 (7) := (congrArg (fun q => tp_fld q 3) (hXE (ρ (ρ xo 0) 14) (Or.inr (Or.inl ht14)) (fun q9 => by have q8 : (ρ (ρ (ρ xo 0) 14) 30) = 0 := q9; omega))).trans l4
  have m5 : tp_fld (f16 (ρ (ρ xo 0) 15)) 2 = R_18 (6) := (congrArg (fun q => tp_fld q 2) (hXE (ρ (ρ xo 0) 15) (Or.inl ht15) (fun q9 => by have q8 : (ρ (ρ (ρ xo 0) 15) 30) = 0 := q9; omega))).trans l5
  have m6 : tp_fld (f16 (ρ (ρ xo 0) 18)) 2 = R_18 (10) := (congrArg (fun q => tp_fld q 2) (hXE (ρ (ρ xo 0) 18) (Or.inl ht18) (fun q9 => by have q8 : (ρ (ρ (ρ xo 0) 18) 30) = 0 := q9; omega))).trans l6
  have hPm := lz_P.keep hG hT hxo hXE (fun n q9 => by have q8 : n = 0 := q9; first | exact q8.elim | omega) (hF17 _ (by rw [(tpg_12 hG hxo).2.1]; decide)) (by rw [hF17 _ (by rw [hims]; decide)]) (by rw [hF17 _ (by rw [hkep]; decide)]) hPm
  have l0 := m0
  have l1 := m1
  have l2 := m2
  have l3 := m3
  have l4 := m4
  have l5 := m5
  have l6 := m6
  have hRe : mo_R (mo_i (f16 (ρ mo 2))) = R_18 := by rw [hF17 _ (by rw [hrow]; decide)]; exact hRe_18.symm
  have hT := hT1
  have hP := hB.1; rw [ht] at hP; have hD := tp_ad f16 hD; clear hB hFc hz1 hk1; subst ht; generalize t.heap = H at hP hS ⊢
  refine lv_aload_n hx hb dL_law_549 rfl (lv_at hl 2 rfl) ?_
  refine lv_aload_n hx hb dL_law_550 rfl (lv_at hl 0 rfl) ?_
  refine lv_iload_n hx hb dL_law_551 rfl (lv_at hl 3 rfl) ?_
  refine lv_iconst (v := 1) hx hb dL_law_552 (by decide) ?_
  refine lv_iadd hx hb dL_law_553 ?_
  refine lv_topi (fun z23 ez23 => ?_)
  have iz23 : z23.toInt = i.toInt + 1 := zi_add ez23 rfl (show (1 : Int32).toInt = 1 from rfl) (by omega) (by omega)
  refine va_sld hx hb hX hbl hbA hS (vp_in_iff.mpr ⟨by omega, by omega⟩) dL_law_554 ?_
  refine lv_topi (fun y24 ey24 => ?_)
  obtain rfl : y24 = xs (9 * k + 1) := ey24.trans (congrArg xs (show z23.toInt.toNat = 9 * k + 1 by omega))
  refine lv_aload_n hx hb dL_law_555 rfl (lv_at hl 0 rfl) ?_
  refine lv_iload_n hx hb dL_law_556 rfl (lv_at hl 3 rfl) ?_
  refine lv_iconst (v := 2) hx hb dL_law_557 (by decide) ?_
  refine lv_iadd hx hb dL_law_558 ?_
  refine lv_topi (fun z25 ez25 => ?_)
  have iz25 : z25.toInt = i.toInt + 2 := zi_add ez25 rfl (show (2 : Int32).toInt = 2 from rfl) (by omega) (by omega)
  refine va_sld hx hb hX hbl hbA hS (vp_in_iff.mpr ⟨by omega, by omega⟩) dL_law_559 ?_
  refine lv_topi (fun y26 ey26 => ?_)
  obtain rfl : y26 = xs (9 * k + 2) := ey26.trans (congrArg xs (show z25.toInt.toNat = 9 * k + 2 by omega))
  refine tgk_13 hG hmo (fun y27 y28 y29 y30 y31 y32 y33 y34 y35 y36 y37 y38 y39 y40 y41 y42 y43 y44 y45 y46 y47 y48 y49 y50 y51 => ?_)
  refine tpk_13 hT hmo (fun o52_x0 o52_x1 o52_x7 o52_x9 o52_x10 o52_x11 o52_x12 o52_x13 o52_x14 o52_x15 o52_x16 o52_x17 o52_x18 o52_x19 o52_x20 o52_x22 o52_x25 o52_x28 o52_x29 o52_x32 o52_x33 o52_x34 o52_x35 o52_x36 o52_x37 o52_x38 o52_x47 o52_x48 hf_o52 ro52_0 ro52_1 ro52_2 ro52_3 ro52_4 ro52_5 ro52_6 ro52_7 ro52_8 ro52_9 ro52_10 ro52_11 ro52_12 ro52_13 ro52_14 => ?_)
  refine tpk_pos (tp_in hG hmo (by decide)) hf_o52 (fun q53 eq53 => ?_)
  have hFc := tp_fr hD hS hA
  have hRe_58 : R_18 = mo_R (mo_i (f16 (ρ mo 2))) := hRe.symm
  refine va_calli (va_runV (As := [.int (xs (9 * k + 1)), .int (xs (9 * k + 2))]) (rest := [.int r14]) ⟨hx, hb, hml, hown, hts⟩ (t_X12_terms l dC dI _ κ mo_n τ ν ρ L f16 hG hT mo (xs (9 * k + 1)) (xs (9 * k + 2)) hmo hJ) (cwV 2 hts gz_X12_terms rfl rfl rfl ⟨rfl, pd_X12_terms⟩ ⟨Nat.le_of_ble_eq_true rfl, Nat.le_of_ble_eq_true rfl⟩) ⟨pz_blind, va_recv hK hP (ci := 12) (q0 := q53) rfl eq53, pz_pre hP hK hD hN⟩ rfl rfl hl.1 rfl (lv_room (Nat.le_of_ble_eq_true rfl)) dL_law_560 ⟨by show _ ≤ 600000; omega, by show _ ≤ 7302249; omega⟩) hS (fun q _ h => hFc q h) hFc (fun r54 f56 t H1 locs ht hvm hw55 hB hz1 hk1 hS => ?_)
  refine tn_4 hw55 (fun hT1 hF57 hw55r hw55p => ?_); clear hw55
  obtain ⟨hw_t, hw_l⟩ := (tpg_12 hG hxo).1
  obtain ⟨-, -, -, -, -, -, ⟨ht13, -, hl13⟩, ⟨ht14, -, hl14⟩, ⟨ht15, -, -, hl15⟩, -, -, ⟨ht18, -, -, hl18⟩⟩ := tpg_11 hG hw_t
  obtain ⟨hJ, hw55pb⟩ := hw55p
  obtain ⟨Rn, hRn⟩ : ∃ R, R = mo_R (mo_i (f56 (ρ mo 2))) := ⟨_, rfl⟩
  rw [← hRn, ← hRe_58] at hw55pb
  obtain ⟨hKN, hw55pbk⟩ := hw55pb
  have hIM : mo_IM (mo_R (mo_i (f56 (ρ mo 3)))) := by rw [hF57 _ (by rw [hims]; decide)]; exact hIM
  have m0 : tp_fld (f56 (ρ xo 0)) 0 = Rn (11) := ((congrArg (fun q => tp_fld q 0) (hF57 (ρ xo 0) (by rw [hw_t]; decide))).trans l0).trans (hKN (11) (by decide) (by decide) (fun q9 => by have q8 : ((11 : Int) = 12 ∨ (11 : Int) = 13) := q9; omega)).symm
  have m1 : tp_fld (f56 (ρ xo 0)) 4 = Rn (0) := ((congrArg (fun q => tp_fld q 4) (hF57 (ρ xo 0) (by rw [hw_t]; decide))).trans l1).trans (hKN (0) (by decide) (by decide) (fun q9 => by have q8 : ((0 : Int) = 12 ∨ (0 : Int) = 13) := q9; omega)).symm
  have m2 : tp_fld (f56 (ρ xo 0)) 5 = Rn (1) := ((congrArg (fun q => tp_fld q 5) (hF57 (ρ xo 0) (by rw [hw_t]; decide))).trans l2).trans (hKN (1) (by decide) (by decide) (fun q9 => by have q8 : ((1 : Int) = 12 ∨ (1 : Int) = 13) := q9; omega)).symm
  have m3 : tp_fld (f56 (ρ (ρ xo 0) 13)) 3 = Rn (3) := ((congrArg (fun q => tp_fld q 3) (hF57 (ρ (ρ xo 0) 13) (by rw [ht13]; decide))).trans l3).trans (hKN (3) (by decide) (by decide) (fun q9 => by have q8 : ((3 : Int) = 12 ∨ (3 : Int) = 13) := q9; omega)).symm
  have m4 : tp_fld (f56 (ρ (ρ xo 0) 14)) 3 = Rn (7) := ((congrArg (fun q => tp_fld q 3) (hF57 (ρ (ρ xo 0) 14) (by rw [ht14]; decide))).trans l4).trans (hKN (7) (by decide) (by decide) (fun q9 => by have q8 : ((7 : Int) = 12 ∨ (7 : Int) = 13) := q9; omega)).symm
  have m5 : tp_fld (f56 (ρ (ρ xo 0) 15)) 2 = Rn (6) := ((congrArg (fun q => tp_fld q 2) (hF57 (ρ (ρ xo 0) 15) (by rw [ht15]; decide))).trans l5).trans (hKN (6) (by decide) (by decide) (fun q9 => by have q8 : ((6 : Int) = 12 ∨ (6 : Int) = 13) := q9; omega)).symm
  have m6 : tp_fld (f56 (ρ (ρ xo 0) 18)) 2 = Rn (10) := ((congrArg (fun q => tp_fld q 2) (hF57 (ρ (ρ xo 0) 18) (by rw [ht18]; decide))).trans l6).trans (hKN (10) (by decide) (by decide) (fun q9 => by have q8 : ((10 : Int) = 12 ∨ (10 : Int) = 13) := q9; omega)).symm
  have l0 := m0
  have l1 := m1
  have l2 := m2
  have l3 := m3
  have l4 := m4
  have l5 := m5
  have l6 := m6
  rw [hRn] at l0 l1 l2 l3 l4 l5 l6
  have hPm := lz_P.keep hG hT hxo (tp_X.of (E := fun _ => False) hF57 (by decide)) (fun n q9 => False.elim q9) (hF57 _ (by rw [(tpg_12 hG hxo).2.1]; decide)) (by rw [hF57 _ (by rw [hims]; decide)]) (by rw [hF57 _ (by rw [hkep]; decide)]) hPm
  have hT := hT1
  have hP := hB.1; rw [ht] at hP; have hD := tp_ad f56 hD; clear hB hFc hz1 hk1; subst ht; generalize t.heap = H at hP hS ⊢
  have heq9 : r14 = r54 := Int32.toInt_inj.mp ((fun h1 h2 => tp_i h1 h2 (fun h1 h2 => h1.trans h2.symm)) it19 hw55pbk)
  refine lv_icmp_eq (tgt := 1710) hx hb dL_law_563 (by decide) (fun _ => ?_) (fun c9 => absurd heq9 c9)
  refine tp_widen (cells + 110) (slots + 2634) (by omega) (by omega) ?_
  exact kk τ ν ρ L f56 _ _ _ ⟨hG, hT, hxo, hmo, hJ, hIM, ⟨l0, l1, l2, l3, l4, l5, l6⟩, hPm⟩ hP hD hS (lv_sub hl [0, 1, 2, 3] rfl)
end
section
set_option maxHeartbeats 8000000 in
set_option maxRecDepth 100000 in
theorem law_case_8 {p : Program} {l : Launch} {e : Env} {s : State} {m : MethodId} {below : List Frame} {meth : Method} {c : Code} {b N9 : Nat} {xs : Nat → Int32} {dC : Nat → ClassId} {dI : Nat → Nat → Nat} {κ : Nat → ClassId} {adK adV : Nat → Nat} {zv : Option Nat} {xo mo : Nat} {k cells slots : Nat} {i : Int32} (C0 : lw_At p s m meth c b N9 xs) (hN9 : N9 ≤ 4608) (hN : nz_ok s) (hZ : pw_Z adK adV zv (fun q : Nat => s.heap.size ≤ q) s s.heap) (hK : va_K (dC, dI) vwCl (tp_K κ) s) (hk : 9 * k + 9 ≤ N9) (hi : i.toInt = 9 * (k : Int)) (hc : cells + 110 ≤ 600000) (hs : slots + 2634 ≤ 7302249) (kk : ∀ (τ ν : Nat → Nat) (ρ : Nat → Nat → Nat) (L : List Nat) (f : Nat → va_E) (H : Heap) (locs : List Loc) (ls : Array Slot), lz_I κ xo mo τ ν ρ L f → va_P (dC, dI) vwCl (va_pl L f) H → va_D (fun q : Nat => s.heap.size ≤ q) (va_pl L f) → va_S (fun q : Nat => s.heap.size ≤ q) s.heap H locs → lv_has ls 4 [(0, .ref b), (1, .ref xo), (2, .ref mo), (3, .int i)] → W p l e room_1 s m #[Value.ref b] below meth c H locs (cells + 110) (slots + 2634) (lw_Z below #[Value.ref b] s) (F0 m 1710 ls [])) {τ ν : Nat → Nat} {ρ : Nat → Nat → Nat} {L : List Nat} {f : Nat → va_E} {H : Heap} {locs : List Loc} {ls : Array Slot}  (hI : lz_I κ xo mo τ ν ρ L f) (hP : va_P (dC, dI) vwCl (va_pl L f) H) (hD : va_D (fun q : Nat => s.heap.size ≤ q) (va_pl L f)) (hS : va_S (fun q : Nat => s.heap.size ≤ q) s.heap H locs) (hl : lv_has ls 4 [(0, .ref b), (1, .ref xo), (2, .ref mo), (3, .int i)]) : W p l e room_1 s m #[Value.ref b] below meth c H locs cells slots (lw_Z below #[Value.ref b] s) (F0 m 568 ls []) := by
  obtain ⟨hx, hb, hr, hml, hown, hts, hX, hbl, hlocks, hgv⟩ := id C0
  have hown : s.vm.findClass RL = some m.cls := hown
  have hA : ∀ q : Nat, s.heap.size ≤ q → (fun q : Nat => s.heap.size ≤ q) q := fun _ h => h
  have hbA : ¬ (fun q : Nat => s.heap.size ≤ q) b := Nat.not_le.mpr hbl
  obtain ⟨hG, hT, hxo, hmo, hJ, hIM, ⟨l0, l1, l2, l3, l4, l5, l6⟩, hPm⟩ := hI
  have hrow := (tpg_13 hG hmo).1; have hims := (tpg_13 hG hmo).2.1; have hkep := (tpg_13 hG hmo).2.2.1
  refine lv_aload_n hx hb dL_law_568 rfl (lv_at hl 1 rfl) ?_
  refine lv_aload_n hx hb dL_law_569 rfl (lv_at hl 0 rfl) ?_
  refine lv_iload_n hx hb dL_law_570 rfl (lv_at hl 3 rfl) ?_
  refine lv_iconst (v := 1) hx hb dL_law_571 (by decide) ?_
  refine lv_iadd hx hb dL_law_572 ?_
  refine lv_topi (fun z1 ez1 => ?_)
  have iz1 : z1.toInt = i.toInt + 1 := zi_add ez1 rfl (show (1 : Int32).toInt = 1 from rfl) (by omega) (by omega)
  refine va_sld hx hb hX hbl hbA hS (vp_in_iff.mpr ⟨by omega, by omega⟩) dL_law_573 ?_
  refine lv_topi (fun y2 ey2 => ?_)
  obtain rfl : y2 = xs (9 * k + 1) := ey2.trans (congrArg xs (show z1.toInt.toNat = 9 * k + 1 by omega))
  refine lv_aload_n hx hb dL_law_574 rfl (lv_at hl 0 rfl) ?_
  refine lv_iload_n hx hb dL_law_575 rfl (lv_at hl 3 rfl) ?_
  refine lv_iconst (v := 2) hx hb dL_law_576 (by decide) ?_
  refine lv_iadd hx hb dL_law_577 ?_
  refine lv_topi (fun z3 ez3 => ?_)
  have iz3 : z3.toInt = i.toInt + 2 := zi_add ez3 rfl (show (2 : Int32).toInt = 2 from rfl) (by omega) (by omega)
  refine va_sld hx hb hX hbl hbA hS (vp_in_iff.mpr ⟨by omega, by omega⟩) dL_law_578 ?_
  refine lv_topi (fun y4 ey4 => ?_)
  obtain rfl : y4 = xs (9 * k + 2) := ey4.trans (congrArg xs (show z3.toInt.toNat = 9 * k + 2 by omega))
  refine lv_aload_n hx hb dL_law_579 rfl (lv_at hl 0 rfl) ?_
  refine lv_iload_n hx hb dL_law_580 rfl (lv_at hl 3 rfl) ?_
  refine lv_iconst (v := 3) hx hb dL_law_581 (by decide) ?_
  refine lv_iadd hx hb dL_law_582 ?_
  refine lv_topi (fun z5 ez5 => ?_)
  have iz5 : z5.toInt = i.toInt + 3 := zi_add ez5 rfl (show (3 : Int32).toInt = 3 from rfl) (by omega) (by omega)
  refine va_sld hx hb hX hbl hbA hS (vp_in_iff.mpr ⟨by omega, by omega⟩) dL_law_583 ?_
  refine lv_topi (fun y6 ey6 => ?_)
  obtain rfl : y6 = xs (9 * k + 3) := ey6.trans (congrArg xs (show z5.toInt.toNat = 9 * k + 3 by omega))
  refine tgk_12 hG hxo (fun y7 y7l y8 y9 y10 y11 y12 y13a y13b y13c => ?_)
  refine tpk_12 hT hxo (fun o14_x6 hf_o14 => ?_)
  refine tpk_pos (tp_in hG hxo (by decide)) hf_o14 (fun q15 eq15 => ?_)
  have hFc := tp_fr hD hS hA
  obtain ⟨R_20, hRe_20⟩ : ∃ R, R = mo_R (mo_i (f (ρ mo 2))) := ⟨_, rfl⟩; rw [← hRe_20] at l0 l1 l2 l3 l4 l5 l6
  refine va_calli (va_runV (As := [.int (xs (9 * k + 1)), .int (xs (9 * k + 2)), .int (xs (9 * k + 3))]) (rest := []) ⟨hx, hb, hml, hown, hts⟩ (t_X11_order l dC dI _ (mo_O κ mo_n) κ τ ν ρ L f hG hT xo (xs (9 * k + 1)) (xs (9 * k + 2)) (xs (9 * k + 3)) hxo) (cwV 3 hts gz_X11_order rfl rfl rfl ⟨rfl, pd_X11_order⟩ ⟨Nat.le_of_ble_eq_true rfl, Nat.le_of_ble_eq_true rfl⟩) ⟨pz_blind, va_recv hK hP (ci := 11) (q0 := q15) rfl eq15, pz_pre hP hK hD hN⟩ rfl rfl hl.1 rfl (lv_room (Nat.le_of_ble_eq_true rfl)) dL_law_584 ⟨by show _ ≤ 600000; omega, by show _ ≤ 7302249; omega⟩) hS (fun q _ h => hFc q h) hFc (fun r16 f18 t H1 locs ht hvm hw17 hB hz1 hk1 hS => ?_)
  refine tn_4 hw17 (fun hT1 hF19 hw17r hw17p => ?_); clear hw17
  obtain ⟨hw_t, hw_l⟩ := (tpg_12 hG hxo).1
  obtain ⟨-, -, -, -, -, -, ⟨ht13, -, hl13⟩, ⟨ht14, -, hl14⟩, ⟨ht15, -, -, hl15⟩, -, -, ⟨ht18, -, -, hl18⟩⟩ := tpg_11 hG hw_t
  have hJ : mo_RI (-1) 0 (mo_R (mo_i (f18 (ρ mo 2)))) := by rw [hF19 _ (by rw [hrow]; decide)]; exact hJ
  have hIM : mo_IM (mo_R (mo_i (f18 (ρ mo 3)))) := by rw [hF19 _ (by rw [hims]; decide)]; exact hIM
  obtain ⟨hXE, hw17pq⟩ := hw17p
  have it21 : (tp_fld (f18 (ρ xo 0)) 0) = R_20 (11) := by have q9 := hw17pq.1; first | exact q9 | (simp only [l0, l1, l2, l3, l4, l5, l6] at q9; exact q9)
  have it22 : (tp_fld (f18 (ρ xo 0)) 4) = R_20 (0) := by have q9 := hw17pq.2.1; first | exact q9 | (simp only [l0, l1, l2, l3, l4, l5, l6] at q9; exact q9)
  have it23 : (tp_fld (f18 (ρ xo 0)) 5) = R_20 (1) := by have q9 := hw17pq.2.2; first | exact q9 | (simp only [l0, l1, l2, l3, l4, l5, l6] at q9; exact q9)
  have m0 := it21
  have m1 := it22
  have m2 := it23
  have m3 : tp_fld (f18 (ρ (ρ xo 0) 13)) 3 = R_20 (3) := (congrArg (fun q => tp_fld q 3) (hXE (ρ (ρ xo 0) 13) (Or.inr (Or.inl ht13)) (fun q9 => by have q8 : (ρ (ρ (ρ xo 0) 13) 30) = 0 := q9; omega))).trans l3
  have m4 : tp_fld (f18 (ρ (ρ xo 0) 14)) 3 = R_20 (7) := (congrArg (fun q => tp_fld q 3) (hXE (ρ (ρ xo 0) 14) (Or.inr (Or.inl ht14)) (fun q9 => by have q8 : (ρ (ρ (ρ xo 0) 14) 30) = 0 := q9; omega))).trans l4
  have m5 : tp_fld (f18 (ρ (ρ xo 0) 15)) 2 = R_20 (6) := (congrArg (fun q => tp_fld q 2) (hXE (ρ (ρ xo 0) 15) (Or.inl ht15) (fun q9 => by have q8 : (ρ (ρ (ρ xo 0) 15) 30) = 0 := q9; omega))).trans l5
  have m6 : tp_fld (f18 (ρ (ρ xo 0) 18)) 2 = R_20 (10) := (congrArg (fun q => tp_fld q 2) (hXE (ρ (ρ xo 0) 18) (Or.inl ht18) (fun q9 => by have q8 : (ρ (ρ (ρ xo 0) 18) 30) = 0 := q9; omega))).trans l6
  have hPm := lz_P.keep hG hT hxo hXE (fun n q9 => by have q8 : n = 0 := q9; first | exact q8.elim | omega) (hF19 _ (by rw [(tpg_12 hG hxo).2.1]; decide)) (by rw [hF19 _ (by rw [hims]; decide)]) (by rw [hF19 _ (by rw [hkep]; decide)]) hPm
  have l0 := m0
  have l1 := m1
  have l2 := m2
  have l3 := m3
  have l4 := m4
  have l5 := m5
  have l6 := m6
  have hRe : mo_R (mo_i (f18 (ρ mo 2))) = R_20 := by rw [hF19 _ (by rw [hrow]; decide)]; exact hRe_20.symm
  have hT := hT1
  have hP := hB.1; rw [ht] at hP; have hD := tp_ad f18 hD; clear hB hFc hz1 hk1; subst ht; generalize t.heap = H at hP hS ⊢
  refine lv_pop hx hb dL_law_587 rfl ?_
  refine lv_aload_n hx hb dL_law_588 rfl (lv_at hl 2 rfl) ?_
  refine lv_aload_n hx hb dL_law_589 rfl (lv_at hl 0 rfl) ?_
  refine lv_iload_n hx hb dL_law_590 rfl (lv_at hl 3 rfl) ?_
  refine lv_iconst (v := 1) hx hb dL_law_591 (by decide) ?_
  refine lv_iadd hx hb dL_law_592 ?_
  refine lv_topi (fun z24 ez24 => ?_)
  have iz24 : z24.toInt = i.toInt + 1 := zi_add ez24 rfl (show (1 : Int32).toInt = 1 from rfl) (by omega) (by omega)
  refine va_sld hx hb hX hbl hbA hS (vp_in_iff.mpr ⟨by omega, by omega⟩) dL_law_593 ?_
  refine lv_topi (fun y25 ey25 => ?_)
  obtain rfl : y25 = xs (9 * k + 1) := ey25.trans (congrArg xs (show z24.toInt.toNat = 9 * k + 1 by omega))
  refine lv_aload_n hx hb dL_law_594 rfl (lv_at hl 0 rfl) ?_
  refine lv_iload_n hx hb dL_law_595 rfl (lv_at hl 3 rfl) ?_
  refine lv_iconst (v := 2) hx hb dL_law_596 (by decide) ?_
  refine lv_iadd hx hb dL_law_597 ?_
  refine lv_topi (fun z26 ez26 => ?_)
  have iz26 : z26.toInt = i.toInt + 2 := zi_add ez26 rfl (show (2 : Int32).toInt = 2 from rfl) (by omega) (by omega)
  refine va_sld hx hb hX hbl hbA hS (vp_in_iff.mpr ⟨by omega, by omega⟩) dL_law_598 ?_
  refine lv_topi (fun y27 ey27 => ?_)
  obtain rfl : y27 = xs (9 * k + 2) := ey27.trans (congrArg xs (show z26.toInt.toNat = 9 * k + 2 by omega))
  refine lv_aload_n hx hb dL_law_599 rfl (lv_at hl 0 rfl) ?_
  refine lv_iload_n hx hb dL_law_600 rfl (lv_at hl 3 rfl) ?_
  refine lv_iconst (v := 3) hx hb dL_law_601 (by decide) ?_
  refine lv_iadd hx hb dL_law_602 ?_
  refine lv_topi (fun z28 ez28 => ?_)
  have iz28 : z28.toInt = i.toInt + 3 := zi_add ez28 rfl (show (3 : Int32).toInt = 3 from rfl) (by omega) (by omega)
  refine va_sld hx hb hX hbl hbA hS (vp_in_iff.mpr ⟨by omega, by omega⟩) dL_law_603 ?_
  refine lv_topi (fun y29 ey29 => ?_)
  obtain rfl : y29 = xs (9 * k + 3) := ey29.trans (congrArg xs (show z28.toInt.toNat = 9 * k + 3 by omega))
  refine tgk_13 hG hmo (fun y30 y31 y32 y33 y34 y35 y36 y37 y38 y39 y40 y41 y42 y43 y44 y45 y46 y47 y48 y49 y50 y51 y52 y53 y54 => ?_)
  refine tpk_13 hT hmo (fun o55_x0 o55_x1 o55_x7 o55_x9 o55_x10 o55_x11 o55_x12 o55_x13 o55_x14 o55_x15 o55_x16 o55_x17 o55_x18 o55_x19 o55_x20 o55_x22 o55_x25 o55_x28 o55_x29 o55_x32 o55_x33 o55_x34 o55_x35 o55_x36 o55_x37 o55_x38 o55_x47 o55_x48 hf_o55 ro55_0 ro55_1 ro55_2 ro55_3 ro55_4 ro55_5 ro55_6 ro55_7 ro55_8 ro55_9 ro55_10 ro55_11 ro55_12 ro55_13 ro55_14 => ?_)
  refine tpk_pos (tp_in hG hmo (by decide)) hf_o55 (fun q56 eq56 => ?_)
  have hFc := tp_fr hD hS hA
  have hRe_61 : R_20 = mo_R (mo_i (f18 (ρ mo 2))) := hRe.symm
  refine va_calli (va_runV (As := [.int (xs (9 * k + 1)), .int (xs (9 * k + 2)), .int (xs (9 * k + 3))]) (rest := []) ⟨hx, hb, hml, hown, hts⟩ (t_X12_order l dC dI _ κ mo_n τ ν ρ L f18 hG hT mo (xs (9 * k + 1)) (xs (9 * k + 2)) (xs (9 * k + 3)) hmo hJ) (cwV 3 hts gz_X12_order rfl rfl rfl ⟨rfl, pd_X12_order⟩ ⟨Nat.le_of_ble_eq_true rfl, Nat.le_of_ble_eq_true rfl⟩) ⟨pz_blind, va_recv hK hP (ci := 12) (q0 := q56) rfl eq56, pz_pre hP hK hD hN⟩ rfl rfl hl.1 rfl (lv_room (Nat.le_of_ble_eq_true rfl)) dL_law_604 ⟨by show _ ≤ 600000; omega, by show _ ≤ 7302249; omega⟩) hS (fun q _ h => hFc q h) hFc (fun r57 f59 t H1 locs ht hvm hw58 hB hz1 hk1 hS => ?_)
  refine tn_4 hw58 (fun hT1 hF60 hw58r hw58p => ?_); clear hw58
  obtain ⟨hw_t, hw_l⟩ := (tpg_12 hG hxo).1
  obtain ⟨-, -, -, -, -, -, ⟨ht13, -, hl13⟩, ⟨ht14, -, hl14⟩, ⟨ht15, -, -, hl15⟩, -, -, ⟨ht18, -, -, hl18⟩⟩ := tpg_11 hG hw_t
  obtain ⟨hJ, hw58pb⟩ := hw58p
  obtain ⟨Rn, hRn⟩ : ∃ R, R = mo_R (mo_i (f59 (ρ mo 2))) := ⟨_, rfl⟩
  rw [← hRn, ← hRe_61] at hw58pb
  have hKN := hw58pb
  have hIM : mo_IM (mo_R (mo_i (f59 (ρ mo 3)))) := by rw [hF60 _ (by rw [hims]; decide)]; exact hIM
  have m0 : tp_fld (f59 (ρ xo 0)) 0 = Rn (11) := ((congrArg (fun q => tp_fld q 0) (hF60 (ρ xo 0) (by rw [hw_t]; decide))).trans l0).trans (hKN (11) (by decide) (by decide) (fun q9 => by have q8 : (11 : Int) = 4 := q9; omega)).symm
  have m1 : tp_fld (f59 (ρ xo 0)) 4 = Rn (0) := ((congrArg (fun q => tp_fld q 4) (hF60 (ρ xo 0) (by rw [hw_t]; decide))).trans l1).trans (hKN (0) (by decide) (by decide) (fun q9 => by have q8 : (0 : Int) = 4 := q9; omega)).symm
  have m2 : tp_fld (f59 (ρ xo 0)) 5 = Rn (1) := ((congrArg (fun q => tp_fld q 5) (hF60 (ρ xo 0) (by rw [hw_t]; decide))).trans l2).trans (hKN (1) (by decide) (by decide) (fun q9 => by have q8 : (1 : Int) = 4 := q9; omega)).symm
  have m3 : tp_fld (f59 (ρ (ρ xo 0) 13)) 3 = Rn (3) := ((congrArg (fun q => tp_fld q 3) (hF60 (ρ (ρ xo 0) 13) (by rw [ht13]; decide))).trans l3).trans (hKN (3) (by decide) (by decide) (fun q9 => by have q8 : (3 : Int) = 4 := q9; omega)).symm
  have m4 : tp_fld (f59 (ρ (ρ xo 0) 14)) 3 = Rn (7) := ((congrArg (fun q => tp_fld q 3) (hF60 (ρ (ρ xo 0) 14) (by rw [ht14]; decide))).trans l4).trans (hKN (7) (by decide) (by decide) (fun q9 => by have q8 : (7 : Int) = 4 := q9; omega)).symm
  have m5 : tp_fld (f59 (ρ (ρ xo 0) 15)) 2 = Rn (6) := ((congrArg (fun q => tp_fld q 2) (hF60 (ρ (ρ xo 0) 15) (by rw [ht15]; decide))).trans l5).trans (hKN (6) (by decide) (by decide) (fun q9 => by have q8 : (6 : Int) = 4 := q9; omega)).symm
  have m6 : tp_fld (f59 (ρ (ρ xo 0) 18)) 2 = Rn (10) := ((congrArg (fun q => tp_fld q 2) (hF60 (ρ (ρ xo 0) 18) (by rw [ht18]; decide))).trans l6).trans (hKN (10) (by decide) (by decide) (fun q9 => by have q8 : (10 : Int) = 4 := q9; omega)).symm
  have l0 := m0
  have l1 := m1
  have l2 := m2
  have l3 := m3
  have l4 := m4
  have l5 := m5
  have l6 := m6
  rw [hRn] at l0 l1 l2 l3 l4 l5 l6
  have hPm := lz_P.keep hG hT hxo (tp_X.of (E := fun _ => False) hF60 (by decide)) (fun n q9 => False.elim q9) (hF60 _ (by rw [(tpg_12 hG hxo).2.1]; decide)) (by rw [hF60 _ (by rw [hims]; decide)]) (by rw [hF60 _ (by rw [hkep]; decide)]) hPm
  have hT := hT1
  have hP := hB.1; rw [ht] at hP; have hD := tp_ad f59 hD; clear hB hFc hz1 hk1; subst ht; generalize t.heap = H at hP hS ⊢
  refine lv_pop hx hb dL_law_607 rfl ?_
  refine lv_goto (tgt := 1710) hx hb dL_law_608 (by decide) ?_
  refine tp_widen (cells + 110) (slots + 2634) (by omega) (by omega) ?_
  exact kk τ ν ρ L f59 _ _ _ ⟨hG, hT, hxo, hmo, hJ, hIM, ⟨l0, l1, l2, l3, l4, l5, l6⟩, hPm⟩ hP hD hS (lv_sub hl [0, 1, 2, 3] rfl)
set_option maxHeartbeats 8000000 in
set_option maxRecDepth 100000 in
theorem law_case_9 {p : Program} {l : Launch} {e : Env} {s : State} {m : MethodId} {below : List Frame} {meth : Method} {c : Code} {b N9 : Nat} {xs : Nat → Int32} {dC : Nat → ClassId} {dI : Nat → Nat → Nat} {κ : Nat → ClassId} {adK adV : Nat → Nat} {zv : Option Nat} {xo mo : Nat} {k cells slots : Nat} {i : Int32} (C0 : lw_At p s m meth c b N9 xs) (hN9 : N9 ≤ 4608) (hN : nz_ok s) (hZ : pw_Z adK adV zv (fun q : Nat => s.heap.size ≤ q) s s.heap) (hK : va_K (dC, dI) vwCl (tp_K κ) s) (hk : 9 * k + 9 ≤ N9) (hi : i.toInt = 9 * (k : Int)) (hc : cells + 110 ≤ 600000) (hs : slots + 2634 ≤ 7302249) (kk : ∀ (τ ν : Nat → Nat) (ρ : Nat → Nat → Nat) (L : List Nat) (f : Nat → va_E) (H : Heap) (locs : List Loc) (ls : Array Slot), lz_I κ xo mo τ ν ρ L f → va_P (dC, dI) vwCl (va_pl L f) H → va_D (fun q : Nat => s.heap.size ≤ q) (va_pl L f) → va_S (fun q : Nat => s.heap.size ≤ q) s.heap H locs → lv_has ls 4 [(0, .ref b), (1, .ref xo), (2, .ref mo), (3, .int i)] → W p l e room_1 s m #[Value.ref b] below meth c H locs (cells + 110) (slots + 2634) (lw_Z below #[Value.ref b] s) (F0 m 1710 ls [])) {τ ν : Nat → Nat} {ρ : Nat → Nat → Nat} {L : List Nat} {f : Nat → va_E} {H : Heap} {locs : List Loc} {ls : Array Slot}  (hI : lz_I κ xo mo τ ν ρ L f) (hP : va_P (dC, dI) vwCl (va_pl L f) H) (hD : va_D (fun q : Nat => s.heap.size ≤ q) (va_pl L f)) (hS : va_S (fun q : Nat => s.heap.size ≤ q) s.heap H locs) (hl : lv_has ls 4 [(0, .ref b), (1, .ref xo), (2, .ref mo), (3, .int i)]) : W p l e room_1 s m #[Value.ref b] below meth c H locs cells slots (lw_Z below #[Value.ref b] s) (F0 m 611 ls []) := by
  obtain ⟨hx, hb, hr, hml, hown, hts, hX, hbl, hlocks, hgv⟩ := id C0
  have hown : s.vm.findClass RL = some m.cls := hown
  have hA : ∀ q : Nat, s.heap.size ≤ q → (fun q : Nat => s.heap.size ≤ q) q := fun _ h => h
  have hbA : ¬ (fun q : Nat => s.heap.size ≤ q) b := Nat.not_le.mpr hbl
  obtain ⟨hG, hT, hxo, hmo, hJ, hIM, ⟨l0, l1, l2, l3, l4, l5, l6⟩, hPm⟩ := hI
  have hrow := (tpg_13 hG hmo).1; have hims := (tpg_13 hG hmo).2.1; have hkep := (tpg_13 hG hmo).2.2.1
  refine lv_aload_n hx hb dL_law_611 rfl (lv_at hl 1 rfl) ?_
  refine lv_aload_n hx hb dL_law_612 rfl (lv_at hl 0 rfl) ?_
  refine lv_iload_n hx hb dL_law_613 rfl (lv_at hl 3 rfl) ?_
  refine lv_iconst (v := 1) hx hb dL_law_614 (by decide) ?_
  refine lv_iadd hx hb dL_law_615 ?_
  refine lv_topi (fun z1 ez1 => ?_)
  have iz1 : z1.toInt = i.toInt + 1 := zi_add ez1 rfl (show (1 : Int32).toInt = 1 from rfl) (by omega) (by omega)
  refine va_sld hx hb hX hbl hbA hS (vp_in_iff.mpr ⟨by omega, by omega⟩) dL_law_616 ?_
  refine lv_topi (fun y2 ey2 => ?_)
  obtain rfl : y2 = xs (9 * k + 1) := ey2.trans (congrArg xs (show z1.toInt.toNat = 9 * k + 1 by omega))
  refine tgk_12 hG hxo (fun y3 y3l y4 y5 y6 y7 y8 y9a y9b y9c => ?_)
  refine tpk_12 hT hxo (fun o10_x6 hf_o10 => ?_)
  refine tpk_pos (tp_in hG hxo (by decide)) hf_o10 (fun q11 eq11 => ?_)
  have hFc := tp_fr hD hS hA
  obtain ⟨R_16, hRe_16⟩ : ∃ R, R = mo_R (mo_i (f (ρ mo 2))) := ⟨_, rfl⟩; rw [← hRe_16] at l0 l1 l2 l3 l4 l5 l6
  refine va_calli (va_runV (As := [.int (xs (9 * k + 1))]) (rest := []) ⟨hx, hb, hml, hown, hts⟩ (t_X11_go l dC dI _ (mo_O κ mo_n) κ τ ν ρ L f hG hT xo (xs (9 * k + 1)) hxo) (cwV 1 hts gz_X11_go rfl rfl rfl ⟨rfl, pd_X11_go⟩ ⟨Nat.le_of_ble_eq_true rfl, Nat.le_of_ble_eq_true rfl⟩) ⟨pz_blind, va_recv hK hP (ci := 11) (q0 := q11) rfl eq11, pz_pre hP hK hD hN⟩ rfl rfl hl.1 rfl (lv_room (Nat.le_of_ble_eq_true rfl)) dL_law_617 ⟨by show _ ≤ 600000; omega, by show _ ≤ 7302249; omega⟩) hS (fun q _ h => hFc q h) hFc (fun r12 f14 t H1 locs ht hvm hw13 hB hz1 hk1 hS => ?_)
  refine tn_4 hw13 (fun hT1 hF15 hw13r hw13p => ?_); clear hw13
  obtain ⟨hw_t, hw_l⟩ := (tpg_12 hG hxo).1
  obtain ⟨-, -, -, -, -, -, ⟨ht13, -, hl13⟩, ⟨ht14, -, hl14⟩, ⟨ht15, -, -, hl15⟩, -, -, ⟨ht18, -, -, hl18⟩⟩ := tpg_11 hG hw_t
  have hJ : mo_RI (-1) 0 (mo_R (mo_i (f14 (ρ mo 2)))) := by rw [hF15 _ (by rw [hrow]; decide)]; exact hJ
  have hIM : mo_IM (mo_R (mo_i (f14 (ρ mo 3)))) := by rw [hF15 _ (by rw [hims]; decide)]; exact hIM
  obtain ⟨hXE, hw13pq⟩ := hw13p
  have it17 : (((¬ ((1 ≤ (xs (9 * k + 1)).toInt ∧ (xs (9 * k + 1)).toInt ≤ 480) ∧ R_16 (11) + (xs (9 * k + 1)).toInt ≤ 2399)) → r12.toInt = -1) ∧ (¬ (¬ ((1 ≤ (xs (9 * k + 1)).toInt ∧ (xs (9 * k + 1)).toInt ≤ 480) ∧ R_16 (11) + (xs (9 * k + 1)).toInt ≤ 2399)) → r12.toInt = R_16 (11) + (xs (9 * k + 1)).toInt)) := by have q9 := hw13pq.1; first | exact q9 | (simp only [l0, l1, l2, l3, l4, l5, l6] at q9; exact q9)
  have it18 : (((¬ ((1 ≤ (xs (9 * k + 1)).toInt ∧ (xs (9 * k + 1)).toInt ≤ 480) ∧ R_16 (11) + (xs (9 * k + 1)).toInt ≤ 2399)) → (tp_fld (f14 (ρ xo 0)) 0) = R_16 (11)) ∧ (¬ (¬ ((1 ≤ (xs (9 * k + 1)).toInt ∧ (xs (9 * k + 1)).toInt ≤ 480) ∧ R_16 (11) + (xs (9 * k + 1)).toInt ≤ 2399)) → (tp_fld (f14 (ρ xo 0)) 0) = R_16 (11) + (xs (9 * k + 1)).toInt)) := by have q9 := hw13pq.2.1; first | exact q9 | (simp only [l0, l1, l2, l3, l4, l5, l6] at q9; exact q9)
  have it19 : (tp_fld (f14 (ρ xo 0)) 4) = R_16 (0) := by have q9 := hw13pq.2.2.1; first | exact q9 | (simp only [l0, l1, l2, l3, l4, l5, l6] at q9; exact q9)
  have it20 : (tp_fld (f14 (ρ xo 0)) 5) = R_16 (1) := by have q9 := hw13pq.2.2.2; first | exact q9 | (simp only [l0, l1, l2, l3, l4, l5, l6] at q9; exact q9)
  have m1 := it19
  have m2 := it20
  have m3 : tp_fld (f14 (ρ (ρ xo 0) 13)) 3 = R_16 (3) := (congrArg (fun q => tp_fld q 3) (hXE (ρ (ρ xo 0) 13) (Or.inr (Or.inl ht13)) (fun q9 => by have q8 : ((ρ (ρ (ρ xo 0) 13) 30) = 0 ∨ (ρ (ρ (ρ xo 0) 13) 30) = 17) := q9; omega))).trans l3
  have m4 : tp_fld (f14 (ρ (ρ xo 0) 14)) 3 = R_16 (7) := (congrArg (fun q => tp_fld q 3) (hXE (ρ (ρ xo 0) 14) (Or.inr (Or.inl ht14)) (fun q9 => by have q8 : ((ρ (ρ (ρ xo 0) 14) 30) = 0 ∨ (ρ (ρ (ρ xo 0) 14) 30) = 17) := q9; omega))).trans l4
  have m5 : tp_fld (f14 (ρ (ρ xo 0) 15)) 2 = R_16 (6) := (congrArg (fun q => tp_fld q 2) (hXE (ρ (ρ xo 0) 15) (Or.inl ht15) (fun q9 => by have q8 : ((ρ (ρ (ρ xo 0) 15) 30) = 0 ∨ (ρ (ρ (ρ xo 0) 15) 30) = 17) := q9; omega))).trans l5
  have m6 : tp_fld (f14 (ρ (ρ xo 0) 18)) 2 = R_16 (10) := (congrArg (fun q => tp_fld q 2) (hXE (ρ (ρ xo 0) 18) (Or.inl ht18) (fun q9 => by have q8 : ((ρ (ρ (ρ xo 0) 18) 30) = 0 ∨ (ρ (ρ (ρ xo 0) 18) 30) = 17) := q9; omega))).trans l6
  have m0 := it18
  have hPm := lz_P.keep hG hT hxo hXE (fun n q9 => by have q8 : (n = 0 ∨ n = 17) := q9; first | exact q8.elim | omega) (hF15 _ (by rw [(tpg_12 hG hxo).2.1]; decide)) (by rw [hF15 _ (by rw [hims]; decide)]) (by rw [hF15 _ (by rw [hkep]; decide)]) hPm
  have l0 := m0
  have l1 := m1
  have l2 := m2
  have l3 := m3
  have l4 := m4
  have l5 := m5
  have l6 := m6
  have hRe : mo_R (mo_i (f14 (ρ mo 2))) = R_16 := by rw [hF15 _ (by rw [hrow]; decide)]; exact hRe_16.symm
  have hT := hT1
  have hP := hB.1; rw [ht] at hP; have hD := tp_ad f14 hD; clear hB hFc hz1 hk1; subst ht; generalize t.heap = H at hP hS ⊢
  refine lv_pop hx hb dL_law_620 rfl ?_
  refine lv_aload_n hx hb dL_law_621 rfl (lv_at hl 2 rfl) ?_
  refine lv_aload_n hx hb dL_law_622 rfl (lv_at hl 0 rfl) ?_
  refine lv_iload_n hx hb dL_law_623 rfl (lv_at hl 3 rfl) ?_
  refine lv_iconst (v := 1) hx hb dL_law_624 (by decide) ?_
  refine lv_iadd hx hb dL_law_625 ?_
  refine lv_topi (fun z21 ez21 => ?_)
  have iz21 : z21.toInt = i.toInt + 1 := zi_add ez21 rfl (show (1 : Int32).toInt = 1 from rfl) (by omega) (by omega)
  refine va_sld hx hb hX hbl hbA hS (vp_in_iff.mpr ⟨by omega, by omega⟩) dL_law_626 ?_
  refine lv_topi (fun y22 ey22 => ?_)
  obtain rfl : y22 = xs (9 * k + 1) := ey22.trans (congrArg xs (show z21.toInt.toNat = 9 * k + 1 by omega))
  refine tgk_13 hG hmo (fun y23 y24 y25 y26 y27 y28 y29 y30 y31 y32 y33 y34 y35 y36 y37 y38 y39 y40 y41 y42 y43 y44 y45 y46 y47 => ?_)
  refine tpk_13 hT hmo (fun o48_x0 o48_x1 o48_x7 o48_x9 o48_x10 o48_x11 o48_x12 o48_x13 o48_x14 o48_x15 o48_x16 o48_x17 o48_x18 o48_x19 o48_x20 o48_x22 o48_x25 o48_x28 o48_x29 o48_x32 o48_x33 o48_x34 o48_x35 o48_x36 o48_x37 o48_x38 o48_x47 o48_x48 hf_o48 ro48_0 ro48_1 ro48_2 ro48_3 ro48_4 ro48_5 ro48_6 ro48_7 ro48_8 ro48_9 ro48_10 ro48_11 ro48_12 ro48_13 ro48_14 => ?_)
  refine tpk_pos (tp_in hG hmo (by decide)) hf_o48 (fun q49 eq49 => ?_)
  have hFc := tp_fr hD hS hA
  have hRe_54 : R_16 = mo_R (mo_i (f14 (ρ mo 2))) := hRe.symm
  refine va_calli (va_runV (As := [.int (xs (9 * k + 1))]) (rest := []) ⟨hx, hb, hml, hown, hts⟩ (t_X12_go l dC dI _ κ mo_n τ ν ρ L f14 hG hT mo (xs (9 * k + 1)) hmo hJ) (cwV 1 hts gz_X12_go rfl rfl rfl ⟨rfl, pd_X12_go⟩ ⟨Nat.le_of_ble_eq_true rfl, Nat.le_of_ble_eq_true rfl⟩) ⟨pz_blind, va_recv hK hP (ci := 12) (q0 := q49) rfl eq49, pz_pre hP hK hD hN⟩ rfl rfl hl.1 rfl (lv_room (Nat.le_of_ble_eq_true rfl)) dL_law_627 ⟨by show _ ≤ 600000; omega, by show _ ≤ 7302249; omega⟩) hS (fun q _ h => hFc q h) hFc (fun r50 f52 t H1 locs ht hvm hw51 hB hz1 hk1 hS => ?_)
  refine tn_4 hw51 (fun hT1 hF53 hw51r hw51p => ?_); clear hw51
  obtain ⟨hw_t, hw_l⟩ := (tpg_12 hG hxo).1
  obtain ⟨-, -, -, -, -, -, ⟨ht13, -, hl13⟩, ⟨ht14, -, hl14⟩, ⟨ht15, -, -, hl15⟩, -, -, ⟨ht18, -, -, hl18⟩⟩ := tpg_11 hG hw_t
  obtain ⟨hJ, hw51pb⟩ := hw51p
  obtain ⟨Rn, hRn⟩ : ∃ R, R = mo_R (mo_i (f52 (ρ mo 2))) := ⟨_, rfl⟩
  rw [← hRn, ← hRe_54] at hw51pb
  obtain ⟨hKN, hw51pbk⟩ := hw51pb
  have hIM : mo_IM (mo_R (mo_i (f52 (ρ mo 3)))) := by rw [hF53 _ (by rw [hims]; decide)]; exact hIM
  obtain ⟨pa9, pc9⟩ := hw51pbk
  have m0 : tp_fld (f52 (ρ xo 0)) 0 = Rn (11) := (congrArg (fun q => tp_fld q 0) (hF53 (ρ xo 0) (by rw [hw_t]; decide))).trans ((fun h1 h2 => tp_i h1 h2 (fun h1 h2 => h1.trans h2.symm)) l0 pc9)
  have m1 : tp_fld (f52 (ρ xo 0)) 4 = Rn (0) := ((congrArg (fun q => tp_fld q 4) (hF53 (ρ xo 0) (by rw [hw_t]; decide))).trans l1).trans (hKN (0) (by decide) (by decide) (fun q9 => by have q8 : ((0 : Int) = 5 ∨ (0 : Int) = 11) := q9; omega)).symm
  have m2 : tp_fld (f52 (ρ xo 0)) 5 = Rn (1) := ((congrArg (fun q => tp_fld q 5) (hF53 (ρ xo 0) (by rw [hw_t]; decide))).trans l2).trans (hKN (1) (by decide) (by decide) (fun q9 => by have q8 : ((1 : Int) = 5 ∨ (1 : Int) = 11) := q9; omega)).symm
  have m3 : tp_fld (f52 (ρ (ρ xo 0) 13)) 3 = Rn (3) := ((congrArg (fun q => tp_fld q 3) (hF53 (ρ (ρ xo 0) 13) (by rw [ht13]; decide))).trans l3).trans (hKN (3) (by decide) (by decide) (fun q9 => by have q8 : ((3 : Int) = 5 ∨ (3 : Int) = 11) := q9; omega)).symm
  have m4 : tp_fld (f52 (ρ (ρ xo 0) 14)) 3 = Rn (7) := ((congrArg (fun q => tp_fld q 3) (hF53 (ρ (ρ xo 0) 14) (by rw [ht14]; decide))).trans l4).trans (hKN (7) (by decide) (by decide) (fun q9 => by have q8 : ((7 : Int) = 5 ∨ (7 : Int) = 11) := q9; omega)).symm
  have m5 : tp_fld (f52 (ρ (ρ xo 0) 15)) 2 = Rn (6) := ((congrArg (fun q => tp_fld q 2) (hF53 (ρ (ρ xo 0) 15) (by rw [ht15]; decide))).trans l5).trans (hKN (6) (by decide) (by decide) (fun q9 => by have q8 : ((6 : Int) = 5 ∨ (6 : Int) = 11) := q9; omega)).symm
  have m6 : tp_fld (f52 (ρ (ρ xo 0) 18)) 2 = Rn (10) := ((congrArg (fun q => tp_fld q 2) (hF53 (ρ (ρ xo 0) 18) (by rw [ht18]; decide))).trans l6).trans (hKN (10) (by decide) (by decide) (fun q9 => by have q8 : ((10 : Int) = 5 ∨ (10 : Int) = 11) := q9; omega)).symm
  have l0 := m0
  have l1 := m1
  have l2 := m2
  have l3 := m3
  have l4 := m4
  have l5 := m5
  have l6 := m6
  rw [hRn] at l0 l1 l2 l3 l4 l5 l6
  have hPm := lz_P.keep hG hT hxo (tp_X.of (E := fun _ => False) hF53 (by decide)) (fun n q9 => False.elim q9) (hF53 _ (by rw [(tpg_12 hG hxo).2.1]; decide)) (by rw [hF53 _ (by rw [hims]; decide)]) (by rw [hF53 _ (by rw [hkep]; decide)]) hPm
  have hT := hT1
  have hP := hB.1; rw [ht] at hP; have hD := tp_ad f52 hD; clear hB hFc hz1 hk1; subst ht; generalize t.heap = H at hP hS ⊢
  refine lv_pop hx hb dL_law_630 rfl ?_
  refine lv_goto (tgt := 1710) hx hb dL_law_631 (by decide) ?_
  refine tp_widen (cells + 110) (slots + 2634) (by omega) (by omega) ?_
  exact kk τ ν ρ L f52 _ _ _ ⟨hG, hT, hxo, hmo, hJ, hIM, ⟨l0, l1, l2, l3, l4, l5, l6⟩, hPm⟩ hP hD hS (lv_sub hl [0, 1, 2, 3] rfl)
set_option maxHeartbeats 8000000 in
set_option maxRecDepth 100000 in
theorem law_case_10 {p : Program} {l : Launch} {e : Env} {s : State} {m : MethodId} {below : List Frame} {meth : Method} {c : Code} {b N9 : Nat} {xs : Nat → Int32} {dC : Nat → ClassId} {dI : Nat → Nat → Nat} {κ : Nat → ClassId} {adK adV : Nat → Nat} {zv : Option Nat} {xo mo : Nat} {k cells slots : Nat} {i : Int32} (C0 : lw_At p s m meth c b N9 xs) (hN9 : N9 ≤ 4608) (hN : nz_ok s) (hZ : pw_Z adK adV zv (fun q : Nat => s.heap.size ≤ q) s s.heap) (hK : va_K (dC, dI) vwCl (tp_K κ) s) (hk : 9 * k + 9 ≤ N9) (hi : i.toInt = 9 * (k : Int)) (hc : cells + 110 ≤ 600000) (hs : slots + 2634 ≤ 7302249) (kk : ∀ (τ ν : Nat → Nat) (ρ : Nat → Nat → Nat) (L : List Nat) (f : Nat → va_E) (H : Heap) (locs : List Loc) (ls : Array Slot), lz_I κ xo mo τ ν ρ L f → va_P (dC, dI) vwCl (va_pl L f) H → va_D (fun q : Nat => s.heap.size ≤ q) (va_pl L f) → va_S (fun q : Nat => s.heap.size ≤ q) s.heap H locs → lv_has ls 4 [(0, .ref b), (1, .ref xo), (2, .ref mo), (3, .int i)] → W p l e room_1 s m #[Value.ref b] below meth c H locs (cells + 110) (slots + 2634) (lw_Z below #[Value.ref b] s) (F0 m 1710 ls [])) {τ ν : Nat → Nat} {ρ : Nat → Nat → Nat} {L : List Nat} {f : Nat → va_E} {H : Heap} {locs : List Loc} {ls : Array Slot}  (hI : lz_I κ xo mo τ ν ρ L f) (hP : va_P (dC, dI) vwCl (va_pl L f) H) (hD : va_D (fun q : Nat => s.heap.size ≤ q) (va_pl L f)) (hS : va_S (fun q : Nat => s.heap.size ≤ q) s.heap H locs) (hl : lv_has ls 4 [(0, .ref b), (1, .ref xo), (2, .ref mo), (3, .int i)]) : W p l e room_1 s m #[Value.ref b] below meth c H locs cells slots (lw_Z below #[Value.ref b] s) (F0 m 634 ls []) := by
  obtain ⟨hx, hb, hr, hml, hown, hts, hX, hbl, hlocks, hgv⟩ := id C0
  have hown : s.vm.findClass RL = some m.cls := hown
  have hA : ∀ q : Nat, s.heap.size ≤ q → (fun q : Nat => s.heap.size ≤ q) q := fun _ h => h
  have hbA : ¬ (fun q : Nat => s.heap.size ≤ q) b := Nat.not_le.mpr hbl
  obtain ⟨hG, hT, hxo, hmo, hJ, hIM, ⟨l0, l1, l2, l3, l4, l5, l6⟩, hPm⟩ := hI
  have hrow := (tpg_13 hG hmo).1; have hims := (tpg_13 hG hmo).2.1; have hkep := (tpg_13 hG hmo).2.2.1
  refine lv_aload_n hx hb dL_law_634 rfl (lv_at hl 1 rfl) ?_
  refine lv_aload_n hx hb dL_law_635 rfl (lv_at hl 0 rfl) ?_
  refine lv_iload_n hx hb dL_law_636 rfl (lv_at hl 3 rfl) ?_
  refine lv_iconst (v := 1) hx hb dL_law_637 (by decide) ?_
  refine lv_iadd hx hb dL_law_638 ?_
  refine lv_topi (fun z1 ez1 => ?_)
  have iz1 : z1.toInt = i.toInt + 1 := zi_add ez1 rfl (show (1 : Int32).toInt = 1 from rfl) (by omega) (by omega)
  refine va_sld hx hb hX hbl hbA hS (vp_in_iff.mpr ⟨by omega, by omega⟩) dL_law_639 ?_
  refine lv_topi (fun y2 ey2 => ?_)
  obtain rfl : y2 = xs (9 * k + 1) := ey2.trans (congrArg xs (show z1.toInt.toNat = 9 * k + 1 by omega))
  refine lv_aload_n hx hb dL_law_640 rfl (lv_at hl 0 rfl) ?_
  refine lv_iload_n hx hb dL_law_641 rfl (lv_at hl 3 rfl) ?_
  refine lv_iconst (v := 2) hx hb dL_law_642 (by decide) ?_
  refine lv_iadd hx hb dL_law_643 ?_
  refine lv_topi (fun z3 ez3 => ?_)
  have iz3 : z3.toInt = i.toInt + 2 := zi_add ez3 rfl (show (2 : Int32).toInt = 2 from rfl) (by omega) (by omega)
  refine va_sld hx hb hX hbl hbA hS (vp_in_iff.mpr ⟨by omega, by omega⟩) dL_law_644 ?_
  refine lv_topi (fun y4 ey4 => ?_)
  obtain rfl : y4 = xs (9 * k + 2) := ey4.trans (congrArg xs (show z3.toInt.toNat = 9 * k + 2 by omega))
  refine tgk_12 hG hxo (fun y5 y5l y6 y7 y8 y9 y10 y11a y11b y11c => ?_)
  refine tpk_12 hT hxo (fun o12_x6 hf_o12 => ?_)
  refine tpk_pos (tp_in hG hxo (by decide)) hf_o12 (fun q13 eq13 => ?_)
  have hFc := tp_fr hD hS hA
  obtain ⟨R_18, hRe_18⟩ : ∃ R, R = mo_R (mo_i (f (ρ mo 2))) := ⟨_, rfl⟩; rw [← hRe_18] at l0 l1 l2 l3 l4 l5 l6
  refine va_calli (va_runV (As := [.int (xs (9 * k + 1)), .int (xs (9 * k + 2))]) (rest := []) ⟨hx, hb, hml, hown, hts⟩ (t_X11_of l dC dI _ (mo_O κ mo_n) κ τ ν ρ L f hG hT xo (xs (9 * k + 1)) (xs (9 * k + 2)) hxo) (cwV 2 hts gz_X11_of rfl rfl rfl ⟨rfl, pd_X11_of⟩ ⟨Nat.le_of_ble_eq_true rfl, Nat.le_of_ble_eq_true rfl⟩) ⟨pz_blind, va_recv hK hP (ci := 11) (q0 := q13) rfl eq13, pz_pre hP hK hD hN⟩ rfl rfl hl.1 rfl (lv_room (Nat.le_of_ble_eq_true rfl)) dL_law_645 ⟨by show _ ≤ 600000; omega, by show _ ≤ 7302249; omega⟩) hS (fun q _ h => hFc q h) hFc (fun r14 f16 t H1 locs ht hvm hw15 hB hz1 hk1 hS => ?_)
  refine tn_4 hw15 (fun hT1 hF17 hw15r hw15p => ?_); clear hw15
  obtain ⟨hw_t, hw_l⟩ := (tpg_12 hG hxo).1
  obtain ⟨-, -, -, -, -, -, ⟨ht13, -, hl13⟩, ⟨ht14, -, hl14⟩, ⟨ht15, -, -, hl15⟩, -, -, ⟨ht18, -, -, hl18⟩⟩ := tpg_11 hG hw_t
  have hJ : mo_RI (-1) 0 (mo_R (mo_i (f16 (ρ mo 2)))) := by rw [hF17 _ (by rw [hrow]; decide)]; exact hJ
  have hIM : mo_IM (mo_R (mo_i (f16 (ρ mo 3)))) := by rw [hF17 _ (by rw [hims]; decide)]; exact hIM
  have hXE : tp_X τ ρ (fun n => False) f f16 := tp_X.of hF17 (by decide)
  have m0 : tp_fld (f16 (ρ xo 0)) 0 = R_18 (11) := (congrArg (fun q => tp_fld q 0) (hXE (ρ xo 0) (Or.inr (Or.inr hw_t)) (fun q9 => q9))).trans l0
  have m1 : tp_fld (f16 (ρ xo 0)) 4 = R_18 (0) := (congrArg (fun q => tp_fld q 4) (hXE (ρ xo 0) (Or.inr (Or.inr hw_t)) (fun q9 => q9))).trans l1
  have m2 : tp_fld (f16 (ρ xo 0)) 5 = R_18 (1) := (congrArg (fun q => tp_fld q 5) (hXE (ρ xo 0) (Or.inr (Or.inr hw_t)) (fun q9 => q9))).trans l2
  have m3 : tp_fld (f16 (ρ (ρ xo 0) 13)) 3 = R_18 (3) := (congrArg (fun q => tp_fld q 3) (hXE (ρ (ρ xo 0) 13) (Or.inr (Or.inl ht13)) (fun q9 => q9))).trans l3
  have m4 : tp_fld (f16 (ρ (ρ xo 0) 14)) 3 = R_18 (7) := (congrArg (fun q => tp_fld q 3) (hXE (ρ (ρ xo 0) 14) (Or.inr (Or.inl ht14)) (fun q9 => q9))).trans l4
  have m5 : tp_fld (f16 (ρ (ρ xo 0) 15)) 2 = R_18 (6) := (congrArg (fun q => tp_fld q 2) (hXE (ρ (ρ xo 0) 15) (Or.inl ht15) (fun q9 => q9))).trans l5
  have m6 : tp_fld (f16 (ρ (ρ xo 0) 18)) 2 = R_18 (10) := (congrArg (fun q => tp_fld q 2) (hXE (ρ (ρ xo 0) 18) (Or.inl ht18) (fun q9 => q9))).trans l6
  have hPm := lz_P.keep hG hT hxo hXE (fun n q9 => by have q8 : False := q9; first | exact q8.elim | omega) (hF17 _ (by rw [(tpg_12 hG hxo).2.1]; decide)) (by rw [hF17 _ (by rw [hims]; decide)]) (by rw [hF17 _ (by rw [hkep]; decide)]) hPm
  have l0 := m0
  have l1 := m1
  have l2 := m2
  have l3 := m3
  have l4 := m4
  have l5 := m5
  have l6 := m6
  have hRe : mo_R (mo_i (f16 (ρ mo 2))) = R_18 := by rw [hF17 _ (by rw [hrow]; decide)]; exact hRe_18.symm
  have hT := hT1
  have hP := hB.1; rw [ht] at hP; have hD := tp_ad f16 hD; clear hB hFc hz1 hk1; subst ht; generalize t.heap = H at hP hS ⊢
  refine lv_pop hx hb dL_law_648 rfl ?_
  refine lv_aload_n hx hb dL_law_649 rfl (lv_at hl 2 rfl) ?_
  refine lv_aload_n hx hb dL_law_650 rfl (lv_at hl 0 rfl) ?_
  refine lv_iload_n hx hb dL_law_651 rfl (lv_at hl 3 rfl) ?_
  refine lv_iconst (v := 1) hx hb dL_law_652 (by decide) ?_
  refine lv_iadd hx hb dL_law_653 ?_
  refine lv_topi (fun z19 ez19 => ?_)
  have iz19 : z19.toInt = i.toInt + 1 := zi_add ez19 rfl (show (1 : Int32).toInt = 1 from rfl) (by omega) (by omega)
  refine va_sld hx hb hX hbl hbA hS (vp_in_iff.mpr ⟨by omega, by omega⟩) dL_law_654 ?_
  refine lv_topi (fun y20 ey20 => ?_)
  obtain rfl : y20 = xs (9 * k + 1) := ey20.trans (congrArg xs (show z19.toInt.toNat = 9 * k + 1 by omega))
  refine lv_aload_n hx hb dL_law_655 rfl (lv_at hl 0 rfl) ?_
  refine lv_iload_n hx hb dL_law_656 rfl (lv_at hl 3 rfl) ?_
  refine lv_iconst (v := 2) hx hb dL_law_657 (by decide) ?_
  refine lv_iadd hx hb dL_law_658 ?_
  refine lv_topi (fun z21 ez21 => ?_)
  have iz21 : z21.toInt = i.toInt + 2 := zi_add ez21 rfl (show (2 : Int32).toInt = 2 from rfl) (by omega) (by omega)
  refine va_sld hx hb hX hbl hbA hS (vp_in_iff.mpr ⟨by omega, by omega⟩) dL_law_659 ?_
  refine lv_topi (fun y22 ey22 => ?_)
  obtain rfl : y22 = xs (9 * k + 2) := ey22.trans (congrArg xs (show z21.toInt.toNat = 9 * k + 2 by omega))
  refine tgk_13 hG hmo (fun y23 y24 y25 y26 y27 y28 y29 y30 y31 y32 y33 y34 y35 y36 y37 y38 y39 y40 y41 y42 y43 y44 y45 y46 y47 => ?_)
  refine tpk_13 hT hmo (fun o48_x0 o48_x1 o48_x7 o48_x9 o48_x10 o48_x11 o48_x12 o48_x13 o48_x14 o48_x15 o48_x16 o48_x17 o48_x18 o48_x19 o48_x20 o48_x22 o48_x25 o48_x28 o48_x29 o48_x32 o48_x33 o48_x34 o48_x35 o48_x36 o48_x37 o48_x38 o48_x47 o48_x48 hf_o48 ro48_0 ro48_1 ro48_2 ro48_3 ro48_4 ro48_5 ro48_6 ro48_7 ro48_8 ro48_9 ro48_10 ro48_11 ro48_12 ro48_13 ro48_14 => ?_)
  refine tpk_pos (tp_in hG hmo (by decide)) hf_o48 (fun q49 eq49 => ?_)
  have hFc := tp_fr hD hS hA
  have hRe_54 : R_18 = mo_R (mo_i (f16 (ρ mo 2))) := hRe.symm
  refine va_calli (va_runV (As := [.int (xs (9 * k + 1)), .int (xs (9 * k + 2))]) (rest := []) ⟨hx, hb, hml, hown, hts⟩ (t_X12_of l dC dI _ κ mo_n τ ν ρ L f16 hG hT mo (xs (9 * k + 1)) (xs (9 * k + 2)) hmo hJ) (cwV 2 hts gz_X12_of rfl rfl rfl ⟨rfl, pd_X12_of⟩ ⟨Nat.le_of_ble_eq_true rfl, Nat.le_of_ble_eq_true rfl⟩) ⟨pz_blind, va_recv hK hP (ci := 12) (q0 := q49) rfl eq49, pz_pre hP hK hD hN⟩ rfl rfl hl.1 rfl (lv_room (Nat.le_of_ble_eq_true rfl)) dL_law_660 ⟨by show _ ≤ 600000; omega, by show _ ≤ 7302249; omega⟩) hS (fun q _ h => hFc q h) hFc (fun r50 f52 t H1 locs ht hvm hw51 hB hz1 hk1 hS => ?_)
  refine tn_4 hw51 (fun hT1 hF53 hw51r hw51p => ?_); clear hw51
  obtain ⟨hw_t, hw_l⟩ := (tpg_12 hG hxo).1
  obtain ⟨-, -, -, -, -, -, ⟨ht13, -, hl13⟩, ⟨ht14, -, hl14⟩, ⟨ht15, -, -, hl15⟩, -, -, ⟨ht18, -, -, hl18⟩⟩ := tpg_11 hG hw_t
  have hJ : mo_RI (-1) 0 (mo_R (mo_i (f52 (ρ mo 2)))) := by rw [hF53 _ (by rw [hrow]; decide)]; exact hJ
  have hRn : R_18 = mo_R (mo_i (f52 (ρ mo 2))) := by rw [hF53 _ (by rw [hrow]; decide)]; exact hRe_54
  have hIM : mo_IM (mo_R (mo_i (f52 (ρ mo 3)))) := by rw [hF53 _ (by rw [hims]; decide)]; exact hIM
  have m0 : tp_fld (f52 (ρ xo 0)) 0 = R_18 (11) := ((congrArg (fun q => tp_fld q 0) (hF53 (ρ xo 0) (by rw [hw_t]; decide))).trans l0)
  have m1 : tp_fld (f52 (ρ xo 0)) 4 = R_18 (0) := ((congrArg (fun q => tp_fld q 4) (hF53 (ρ xo 0) (by rw [hw_t]; decide))).trans l1)
  have m2 : tp_fld (f52 (ρ xo 0)) 5 = R_18 (1) := ((congrArg (fun q => tp_fld q 5) (hF53 (ρ xo 0) (by rw [hw_t]; decide))).trans l2)
  have m3 : tp_fld (f52 (ρ (ρ xo 0) 13)) 3 = R_18 (3) := ((congrArg (fun q => tp_fld q 3) (hF53 (ρ (ρ xo 0) 13) (by rw [ht13]; decide))).trans l3)
  have m4 : tp_fld (f52 (ρ (ρ xo 0) 14)) 3 = R_18 (7) := ((congrArg (fun q => tp_fld q 3) (hF53 (ρ (ρ xo 0) 14) (by rw [ht14]; decide))).trans l4)
  have m5 : tp_fld (f52 (ρ (ρ xo 0) 15)) 2 = R_18 (6) := ((congrArg (fun q => tp_fld q 2) (hF53 (ρ (ρ xo 0) 15) (by rw [ht15]; decide))).trans l5)
  have m6 : tp_fld (f52 (ρ (ρ xo 0) 18)) 2 = R_18 (10) := ((congrArg (fun q => tp_fld q 2) (hF53 (ρ (ρ xo 0) 18) (by rw [ht18]; decide))).trans l6)
  have l0 := m0
  have l1 := m1
  have l2 := m2
  have l3 := m3
  have l4 := m4
  have l5 := m5
  have l6 := m6
  rw [hRn] at l0 l1 l2 l3 l4 l5 l6
  have hPm := lz_P.keep hG hT hxo (tp_X.of (E := fun _ => False) hF53 (by decide)) (fun n q9 => False.elim q9) (hF53 _ (by rw [(tpg_12 hG hxo).2.1]; decide)) (by rw [hF53 _ (by rw [hims]; decide)]) (by rw [hF53 _ (by rw [hkep]; decide)]) hPm
  have hT := hT1
  have hP := hB.1; rw [ht] at hP; have hD := tp_ad f52 hD; clear hB hFc hz1 hk1; subst ht; generalize t.heap = H at hP hS ⊢
  refine lv_pop hx hb dL_law_663 rfl ?_
  refine lv_goto (tgt := 1710) hx hb dL_law_664 (by decide) ?_
  refine tp_widen (cells + 110) (slots + 2634) (by omega) (by omega) ?_
  exact kk τ ν ρ L f52 _ _ _ ⟨hG, hT, hxo, hmo, hJ, hIM, ⟨l0, l1, l2, l3, l4, l5, l6⟩, hPm⟩ hP hD hS (lv_sub hl [0, 1, 2, 3] rfl)
set_option maxHeartbeats 8000000 in
set_option maxRecDepth 100000 in
theorem law_case_11 {p : Program} {l : Launch} {e : Env} {s : State} {m : MethodId} {below : List Frame} {meth : Method} {c : Code} {b N9 : Nat} {xs : Nat → Int32} {dC : Nat → ClassId} {dI : Nat → Nat → Nat} {κ : Nat → ClassId} {adK adV : Nat → Nat} {zv : Option Nat} {xo mo : Nat} {k cells slots : Nat} {i : Int32} (C0 : lw_At p s m meth c b N9 xs) (hN9 : N9 ≤ 4608) (hN : nz_ok s) (hZ : pw_Z adK adV zv (fun q : Nat => s.heap.size ≤ q) s s.heap) (hK : va_K (dC, dI) vwCl (tp_K κ) s) (hk : 9 * k + 9 ≤ N9) (hi : i.toInt = 9 * (k : Int)) (hc : cells + 110 ≤ 600000) (hs : slots + 2634 ≤ 7302249) (kk : ∀ (τ ν : Nat → Nat) (ρ : Nat → Nat → Nat) (L : List Nat) (f : Nat → va_E) (H : Heap) (locs : List Loc) (ls : Array Slot), lz_I κ xo mo τ ν ρ L f → va_P (dC, dI) vwCl (va_pl L f) H → va_D (fun q : Nat => s.heap.size ≤ q) (va_pl L f) → va_S (fun q : Nat => s.heap.size ≤ q) s.heap H locs → lv_has ls 4 [(0, .ref b), (1, .ref xo), (2, .ref mo), (3, .int i)] → W p l e room_1 s m #[Value.ref b] below meth c H locs (cells + 110) (slots + 2634) (lw_Z below #[Value.ref b] s) (F0 m 1710 ls [])) {τ ν : Nat → Nat} {ρ : Nat → Nat → Nat} {L : List Nat} {f : Nat → va_E} {H : Heap} {locs : List Loc} {ls : Array Slot}  (hI : lz_I κ xo mo τ ν ρ L f) (hP : va_P (dC, dI) vwCl (va_pl L f) H) (hD : va_D (fun q : Nat => s.heap.size ≤ q) (va_pl L f)) (hS : va_S (fun q : Nat => s.heap.size ≤ q) s.heap H locs) (hl : lv_has ls 4 [(0, .ref b), (1, .ref xo), (2, .ref mo), (3, .int i)]) : W p l e room_1 s m #[Value.ref b] below meth c H locs cells slots (lw_Z below #[Value.ref b] s) (F0 m 667 ls []) := by
  obtain ⟨hx, hb, hr, hml, hown, hts, hX, hbl, hlocks, hgv⟩ := id C0
  have hown : s.vm.findClass RL = some m.cls := hown
  have hA : ∀ q : Nat, s.heap.size ≤ q → (fun q : Nat => s.heap.size ≤ q) q := fun _ h => h
  have hbA : ¬ (fun q : Nat => s.heap.size ≤ q) b := Nat.not_le.mpr hbl
  obtain ⟨hG, hT, hxo, hmo, hJ, hIM, ⟨l0, l1, l2, l3, l4, l5, l6⟩, hPm⟩ := hI
  have hrow := (tpg_13 hG hmo).1; have hims := (tpg_13 hG hmo).2.1; have hkep := (tpg_13 hG hmo).2.2.1
  refine lv_aload_n hx hb dL_law_667 rfl (lv_at hl 1 rfl) ?_
  refine lv_aload_n hx hb dL_law_668 rfl (lv_at hl 0 rfl) ?_
  refine lv_iload_n hx hb dL_law_669 rfl (lv_at hl 3 rfl) ?_
  refine lv_iconst (v := 1) hx hb dL_law_670 (by decide) ?_
  refine lv_iadd hx hb dL_law_671 ?_
  refine lv_topi (fun z1 ez1 => ?_)
  have iz1 : z1.toInt = i.toInt + 1 := zi_add ez1 rfl (show (1 : Int32).toInt = 1 from rfl) (by omega) (by omega)
  refine va_sld hx hb hX hbl hbA hS (vp_in_iff.mpr ⟨by omega, by omega⟩) dL_law_672 ?_
  refine lv_topi (fun y2 ey2 => ?_)
  obtain rfl : y2 = xs (9 * k + 1) := ey2.trans (congrArg xs (show z1.toInt.toNat = 9 * k + 1 by omega))
  refine lv_aload_n hx hb dL_law_673 rfl (lv_at hl 0 rfl) ?_
  refine lv_iload_n hx hb dL_law_674 rfl (lv_at hl 3 rfl) ?_
  refine lv_iconst (v := 2) hx hb dL_law_675 (by decide) ?_
  refine lv_iadd hx hb dL_law_676 ?_
  refine lv_topi (fun z3 ez3 => ?_)
  have iz3 : z3.toInt = i.toInt + 2 := zi_add ez3 rfl (show (2 : Int32).toInt = 2 from rfl) (by omega) (by omega)
  refine va_sld hx hb hX hbl hbA hS (vp_in_iff.mpr ⟨by omega, by omega⟩) dL_law_677 ?_
  refine lv_topi (fun y4 ey4 => ?_)
  obtain rfl : y4 = xs (9 * k + 2) := ey4.trans (congrArg xs (show z3.toInt.toNat = 9 * k + 2 by omega))
  refine tgk_12 hG hxo (fun y5 y5l y6 y7 y8 y9 y10 y11a y11b y11c => ?_)
  refine tpk_12 hT hxo (fun o12_x6 hf_o12 => ?_)
  refine tpk_pos (tp_in hG hxo (by decide)) hf_o12 (fun q13 eq13 => ?_)
  have hFc := tp_fr hD hS hA
  obtain ⟨R_18, hRe_18⟩ : ∃ R, R = mo_R (mo_i (f (ρ mo 2))) := ⟨_, rfl⟩; rw [← hRe_18] at l0 l1 l2 l3 l4 l5 l6
  refine va_calli (va_runV (As := [.int (xs (9 * k + 1)), .int (xs (9 * k + 2))]) (rest := []) ⟨hx, hb, hml, hown, hts⟩ (t_X11_part l dC dI _ (mo_O κ mo_n) κ τ ν ρ L f hG hT xo (xs (9 * k + 1)) (xs (9 * k + 2)) hxo) (cwV 2 hts gz_X11_part rfl rfl rfl ⟨rfl, pd_X11_part⟩ ⟨Nat.le_of_ble_eq_true rfl, Nat.le_of_ble_eq_true rfl⟩) ⟨pz_blind, va_recv hK hP (ci := 11) (q0 := q13) rfl eq13, pz_pre hP hK hD hN⟩ rfl rfl hl.1 rfl (lv_room (Nat.le_of_ble_eq_true rfl)) dL_law_678 ⟨by show _ ≤ 600000; omega, by show _ ≤ 7302249; omega⟩) hS (fun q _ h => hFc q h) hFc (fun r14 f16 t H1 locs ht hvm hw15 hB hz1 hk1 hS => ?_)
  refine tn_4 hw15 (fun hT1 hF17 hw15r hw15p => ?_); clear hw15
  obtain ⟨hw_t, hw_l⟩ := (tpg_12 hG hxo).1
  obtain ⟨-, -, -, -, -, -, ⟨ht13, -, hl13⟩, ⟨ht14, -, hl14⟩, ⟨ht15, -, -, hl15⟩, -, -, ⟨ht18, -, -, hl18⟩⟩ := tpg_11 hG hw_t
  have hJ : mo_RI (-1) 0 (mo_R (mo_i (f16 (ρ mo 2)))) := by rw [hF17 _ (by rw [hrow]; decide)]; exact hJ
  have hIM : mo_IM (mo_R (mo_i (f16 (ρ mo 3)))) := by rw [hF17 _ (by rw [hims]; decide)]; exact hIM
  have hXE : tp_X τ ρ (fun n => False) f f16 := tp_X.of hF17 (by decide)
  have m0 : tp_fld (f16 (ρ xo 0)) 0 = R_18 (11) := (congrArg (fun q => tp_fld q 0) (hXE (ρ xo 0) (Or.inr (Or.inr hw_t)) (fun q9 => q9))).trans l0
  have m1 : tp_fld (f16 (ρ xo 0)) 4 = R_18 (0) := (congrArg (fun q => tp_fld q 4) (hXE (ρ xo 0) (Or.inr (Or.inr hw_t)) (fun q9 => q9))).trans l1
  have m2 : tp_fld (f16 (ρ xo 0)) 5 = R_18 (1) := (congrArg (fun q => tp_fld q 5) (hXE (ρ xo 0) (Or.inr (Or.inr hw_t)) (fun q9 => q9))).trans l2
  have m3 : tp_fld (f16 (ρ (ρ xo 0) 13)) 3 = R_18 (3) := (congrArg (fun q => tp_fld q 3) (hXE (ρ (ρ xo 0) 13) (Or.inr (Or.inl ht13)) (fun q9 => q9))).trans l3
  have m4 : tp_fld (f16 (ρ (ρ xo 0) 14)) 3 = R_18 (7) := (congrArg (fun q => tp_fld q 3) (hXE (ρ (ρ xo 0) 14) (Or.inr (Or.inl ht14)) (fun q9 => q9))).trans l4
  have m5 : tp_fld (f16 (ρ (ρ xo 0) 15)) 2 = R_18 (6) := (congrArg (fun q => tp_fld q 2) (hXE (ρ (ρ xo 0) 15) (Or.inl ht15) (fun q9 => q9))).trans l5
  have m6 : tp_fld (f16 (ρ (ρ xo 0) 18)) 2 = R_18 (10) := (congrArg (fun q => tp_fld q 2) (hXE (ρ (ρ xo 0) 18) (Or.inl ht18) (fun q9 => q9))).trans l6
  have hPm := lz_P.keep hG hT hxo hXE (fun n q9 => by have q8 : False := q9; first | exact q8.elim | omega) (hF17 _ (by rw [(tpg_12 hG hxo).2.1]; decide)) (by rw [hF17 _ (by rw [hims]; decide)]) (by rw [hF17 _ (by rw [hkep]; decide)]) hPm
  have l0 := m0
  have l1 := m1
  have l2 := m2
  have l3 := m3
  have l4 := m4
  have l5 := m5
  have l6 := m6
  have hRe : mo_R (mo_i (f16 (ρ mo 2))) = R_18 := by rw [hF17 _ (by rw [hrow]; decide)]; exact hRe_18.symm
  have hT := hT1
  have hP := hB.1; rw [ht] at hP; have hD := tp_ad f16 hD; clear hB hFc hz1 hk1; subst ht; generalize t.heap = H at hP hS ⊢
  refine lv_pop hx hb dL_law_681 rfl ?_
  refine lv_aload_n hx hb dL_law_682 rfl (lv_at hl 2 rfl) ?_
  refine lv_aload_n hx hb dL_law_683 rfl (lv_at hl 0 rfl) ?_
  refine lv_iload_n hx hb dL_law_684 rfl (lv_at hl 3 rfl) ?_
  refine lv_iconst (v := 1) hx hb dL_law_685 (by decide) ?_
  refine lv_iadd hx hb dL_law_686 ?_
  refine lv_topi (fun z19 ez19 => ?_)
  have iz19 : z19.toInt = i.toInt + 1 := zi_add ez19 rfl (show (1 : Int32).toInt = 1 from rfl) (by omega) (by omega)
  refine va_sld hx hb hX hbl hbA hS (vp_in_iff.mpr ⟨by omega, by omega⟩) dL_law_687 ?_
  refine lv_topi (fun y20 ey20 => ?_)
  obtain rfl : y20 = xs (9 * k + 1) := ey20.trans (congrArg xs (show z19.toInt.toNat = 9 * k + 1 by omega))
  refine lv_aload_n hx hb dL_law_688 rfl (lv_at hl 0 rfl) ?_
  refine lv_iload_n hx hb dL_law_689 rfl (lv_at hl 3 rfl) ?_
  refine lv_iconst (v := 2) hx hb dL_law_690 (by decide) ?_
  refine lv_iadd hx hb dL_law_691 ?_
  refine lv_topi (fun z21 ez21 => ?_)
  have iz21 : z21.toInt = i.toInt + 2 := zi_add ez21 rfl (show (2 : Int32).toInt = 2 from rfl) (by omega) (by omega)
  refine va_sld hx hb hX hbl hbA hS (vp_in_iff.mpr ⟨by omega, by omega⟩) dL_law_692 ?_
  refine lv_topi (fun y22 ey22 => ?_)
  obtain rfl : y22 = xs (9 * k + 2) := ey22.trans (congrArg xs (show z21.toInt.toNat = 9 * k + 2 by omega))
  refine tgk_13 hG hmo (fun y23 y24 y25 y26 y27 y28 y29 y30 y31 y32 y33 y34 y35 y36 y37 y38 y39 y40 y41 y42 y43 y44 y45 y46 y47 => ?_)
  refine tpk_13 hT hmo (fun o48_x0 o48_x1 o48_x7 o48_x9 o48_x10 o48_x11 o48_x12 o48_x13 o48_x14 o48_x15 o48_x16 o48_x17 o48_x18 o48_x19 o48_x20 o48_x22 o48_x25 o48_x28 o48_x29 o48_x32 o48_x33 o48_x34 o48_x35 o48_x36 o48_x37 o48_x38 o48_x47 o48_x48 hf_o48 ro48_0 ro48_1 ro48_2 ro48_3 ro48_4 ro48_5 ro48_6 ro48_7 ro48_8 ro48_9 ro48_10 ro48_11 ro48_12 ro48_13 ro48_14 => ?_)
  refine tpk_pos (tp_in hG hmo (by decide)) hf_o48 (fun q49 eq49 => ?_)
  have hFc := tp_fr hD hS hA
  have hRe_54 : R_18 = mo_R (mo_i (f16 (ρ mo 2))) := hRe.symm
  refine va_calli (va_runV (As := [.int (xs (9 * k + 1)), .int (xs (9 * k + 2))]) (rest := []) ⟨hx, hb, hml, hown, hts⟩ (t_X12_part l dC dI _ κ mo_n τ ν ρ L f16 hG hT mo (xs (9 * k + 1)) (xs (9 * k + 2)) hmo hJ) (cwV 2 hts gz_X12_part rfl rfl rfl ⟨rfl, pd_X12_part⟩ ⟨Nat.le_of_ble_eq_true rfl, Nat.le_of_ble_eq_true rfl⟩) ⟨pz_blind, va_recv hK hP (ci := 12) (q0 := q49) rfl eq49, pz_pre hP hK hD hN⟩ rfl rfl hl.1 rfl (lv_room (Nat.le_of_ble_eq_true rfl)) dL_law_693 ⟨by show _ ≤ 600000; omega, by show _ ≤ 7302249; omega⟩) hS (fun q _ h => hFc q h) hFc (fun r50 f52 t H1 locs ht hvm hw51 hB hz1 hk1 hS => ?_)
  refine tn_4 hw51 (fun hT1 hF53 hw51r hw51p => ?_); clear hw51
  obtain ⟨hw_t, hw_l⟩ := (tpg_12 hG hxo).1
  obtain ⟨-, -, -, -, -, -, ⟨ht13, -, hl13⟩, ⟨ht14, -, hl14⟩, ⟨ht15, -, -, hl15⟩, -, -, ⟨ht18, -, -, hl18⟩⟩ := tpg_11 hG hw_t
  have hJ : mo_RI (-1) 0 (mo_R (mo_i (f52 (ρ mo 2)))) := by rw [hF53 _ (by rw [hrow]; decide)]; exact hJ
  have hRn : R_18 = mo_R (mo_i (f52 (ρ mo 2))) := by rw [hF53 _ (by rw [hrow]; decide)]; exact hRe_54
  have hIM : mo_IM (mo_R (mo_i (f52 (ρ mo 3)))) := by rw [hF53 _ (by rw [hims]; decide)]; exact hIM
  have m0 : tp_fld (f52 (ρ xo 0)) 0 = R_18 (11) := ((congrArg (fun q => tp_fld q 0) (hF53 (ρ xo 0) (by rw [hw_t]; decide))).trans l0)
  have m1 : tp_fld (f52 (ρ xo 0)) 4 = R_18 (0) := ((congrArg (fun q => tp_fld q 4) (hF53 (ρ xo 0) (by rw [hw_t]; decide))).trans l1)
  have m2 : tp_fld (f52 (ρ xo 0)) 5 = R_18 (1) := ((congrArg (fun q => tp_fld q 5) (hF53 (ρ xo 0) (by rw [hw_t]; decide))).trans l2)
  have m3 : tp_fld (f52 (ρ (ρ xo 0) 13)) 3 = R_18 (3) := ((congrArg (fun q => tp_fld q 3) (hF53 (ρ (ρ xo 0) 13) (by rw [ht13]; decide))).trans l3)
  have m4 : tp_fld (f52 (ρ (ρ xo 0) 14)) 3 = R_18 (7) := ((congrArg (fun q => tp_fld q 3) (hF53 (ρ (ρ xo 0) 14) (by rw [ht14]; decide))).trans l4)
  have m5 : tp_fld (f52 (ρ (ρ xo 0) 15)) 2 = R_18 (6) := ((congrArg (fun q => tp_fld q 2) (hF53 (ρ (ρ xo 0) 15) (by rw [ht15]; decide))).trans l5)
  have m6 : tp_fld (f52 (ρ (ρ xo 0) 18)) 2 = R_18 (10) := ((congrArg (fun q => tp_fld q 2) (hF53 (ρ (ρ xo 0) 18) (by rw [ht18]; decide))).trans l6)
  have l0 := m0
  have l1 := m1
  have l2 := m2
  have l3 := m3
  have l4 := m4
  have l5 := m5
  have l6 := m6
  rw [hRn] at l0 l1 l2 l3 l4 l5 l6
  have hPm := lz_P.keep hG hT hxo (tp_X.of (E := fun _ => False) hF53 (by decide)) (fun n q9 => False.elim q9) (hF53 _ (by rw [(tpg_12 hG hxo).2.1]; decide)) (by rw [hF53 _ (by rw [hims]; decide)]) (by rw [hF53 _ (by rw [hkep]; decide)]) hPm
  have hT := hT1
  have hP := hB.1; rw [ht] at hP; have hD := tp_ad f52 hD; clear hB hFc hz1 hk1; subst ht; generalize t.heap = H at hP hS ⊢
  refine lv_pop hx hb dL_law_696 rfl ?_
  refine lv_goto (tgt := 1710) hx hb dL_law_697 (by decide) ?_
  refine tp_widen (cells + 110) (slots + 2634) (by omega) (by omega) ?_
  exact kk τ ν ρ L f52 _ _ _ ⟨hG, hT, hxo, hmo, hJ, hIM, ⟨l0, l1, l2, l3, l4, l5, l6⟩, hPm⟩ hP hD hS (lv_sub hl [0, 1, 2, 3] rfl)
set_option maxHeartbeats 8000000 in
set_option maxRecDepth 100000 in
theorem law_case_12 {p : Program} {l : Launch} {e : Env} {s : State} {m : MethodId} {below : List Frame} {meth : Method} {c : Code} {b N9 : Nat} {xs : Nat → Int32} {dC : Nat → ClassId} {dI : Nat → Nat → Nat} {κ : Nat → ClassId} {adK adV : Nat → Nat} {zv : Option Nat} {xo mo : Nat} {k cells slots : Nat} {i : Int32} (C0 : lw_At p s m meth c b N9 xs) (hN9 : N9 ≤ 4608) (hN : nz_ok s) (hZ : pw_Z adK adV zv (fun q : Nat => s.heap.size ≤ q) s s.heap) (hK : va_K (dC, dI) vwCl (tp_K κ) s) (hk : 9 * k + 9 ≤ N9) (hi : i.toInt = 9 * (k : Int)) (hc : cells + 110 ≤ 600000) (hs : slots + 2634 ≤ 7302249) (kk : ∀ (τ ν : Nat → Nat) (ρ : Nat → Nat → Nat) (L : List Nat) (f : Nat → va_E) (H : Heap) (locs : List Loc) (ls : Array Slot), lz_I κ xo mo τ ν ρ L f → va_P (dC, dI) vwCl (va_pl L f) H → va_D (fun q : Nat => s.heap.size ≤ q) (va_pl L f) → va_S (fun q : Nat => s.heap.size ≤ q) s.heap H locs → lv_has ls 4 [(0, .ref b), (1, .ref xo), (2, .ref mo), (3, .int i)] → W p l e room_1 s m #[Value.ref b] below meth c H locs (cells + 110) (slots + 2634) (lw_Z below #[Value.ref b] s) (F0 m 1710 ls [])) {τ ν : Nat → Nat} {ρ : Nat → Nat → Nat} {L : List Nat} {f : Nat → va_E} {H : Heap} {locs : List Loc} {ls : Array Slot}  (hI : lz_I κ xo mo τ ν ρ L f) (hP : va_P (dC, dI) vwCl (va_pl L f) H) (hD : va_D (fun q : Nat => s.heap.size ≤ q) (va_pl L f)) (hS : va_S (fun q : Nat => s.heap.size ≤ q) s.heap H locs) (hl : lv_has ls 4 [(0, .ref b), (1, .ref xo), (2, .ref mo), (3, .int i)]) : W p l e room_1 s m #[Value.ref b] below meth c H locs cells slots (lw_Z below #[Value.ref b] s) (F0 m 700 ls []) := by
  obtain ⟨hx, hb, hr, hml, hown, hts, hX, hbl, hlocks, hgv⟩ := id C0
  have hown : s.vm.findClass RL = some m.cls := hown
  have hA : ∀ q : Nat, s.heap.size ≤ q → (fun q : Nat => s.heap.size ≤ q) q := fun _ h => h
  have hbA : ¬ (fun q : Nat => s.heap.size ≤ q) b := Nat.not_le.mpr hbl
  obtain ⟨hG, hT, hxo, hmo, hJ, hIM, ⟨l0, l1, l2, l3, l4, l5, l6⟩, hPm⟩ := hI
  have hrow := (tpg_13 hG hmo).1; have hims := (tpg_13 hG hmo).2.1; have hkep := (tpg_13 hG hmo).2.2.1
  refine lv_aload_n hx hb dL_law_700 rfl (lv_at hl 1 rfl) ?_
  refine lv_aload_n hx hb dL_law_701 rfl (lv_at hl 0 rfl) ?_
  refine lv_iload_n hx hb dL_law_702 rfl (lv_at hl 3 rfl) ?_
  refine lv_iconst (v := 1) hx hb dL_law_703 (by decide) ?_
  refine lv_iadd hx hb dL_law_704 ?_
  refine lv_topi (fun z1 ez1 => ?_)
  have iz1 : z1.toInt = i.toInt + 1 := zi_add ez1 rfl (show (1 : Int32).toInt = 1 from rfl) (by omega) (by omega)
  refine va_sld hx hb hX hbl hbA hS (vp_in_iff.mpr ⟨by omega, by omega⟩) dL_law_705 ?_
  refine lv_topi (fun y2 ey2 => ?_)
  obtain rfl : y2 = xs (9 * k + 1) := ey2.trans (congrArg xs (show z1.toInt.toNat = 9 * k + 1 by omega))
  refine lv_aload_n hx hb dL_law_706 rfl (lv_at hl 0 rfl) ?_
  refine lv_iload_n hx hb dL_law_707 rfl (lv_at hl 3 rfl) ?_
  refine lv_iconst (v := 2) hx hb dL_law_708 (by decide) ?_
  refine lv_iadd hx hb dL_law_709 ?_
  refine lv_topi (fun z3 ez3 => ?_)
  have iz3 : z3.toInt = i.toInt + 2 := zi_add ez3 rfl (show (2 : Int32).toInt = 2 from rfl) (by omega) (by omega)
  refine va_sld hx hb hX hbl hbA hS (vp_in_iff.mpr ⟨by omega, by omega⟩) dL_law_710 ?_
  refine lv_topi (fun y4 ey4 => ?_)
  obtain rfl : y4 = xs (9 * k + 2) := ey4.trans (congrArg xs (show z3.toInt.toNat = 9 * k + 2 by omega))
  refine tgk_12 hG hxo (fun y5 y5l y6 y7 y8 y9 y10 y11a y11b y11c => ?_)
  refine tpk_12 hT hxo (fun o12_x6 hf_o12 => ?_)
  refine tpk_pos (tp_in hG hxo (by decide)) hf_o12 (fun q13 eq13 => ?_)
  have hFc := tp_fr hD hS hA
  obtain ⟨R_18, hRe_18⟩ : ∃ R, R = mo_R (mo_i (f (ρ mo 2))) := ⟨_, rfl⟩; rw [← hRe_18] at l0 l1 l2 l3 l4 l5 l6
  refine va_calll (va_runV (As := [.int (xs (9 * k + 1)), .int (xs (9 * k + 2))]) (rest := []) ⟨hx, hb, hml, hown, hts⟩ (t_X11_book l dC dI _ (mo_O κ mo_n) κ τ ν ρ L f hG hT xo (xs (9 * k + 1)) (xs (9 * k + 2)) hxo) (cwV 2 hts gz_X11_book rfl rfl rfl ⟨rfl, pd_X11_book⟩ ⟨Nat.le_of_ble_eq_true rfl, Nat.le_of_ble_eq_true rfl⟩) ⟨pz_blind, va_recv hK hP (ci := 11) (q0 := q13) rfl eq13, pz_pre hP hK hD hN⟩ rfl rfl hl.1 rfl (lv_room (Nat.le_of_ble_eq_true rfl)) dL_law_711 ⟨by show _ ≤ 600000; omega, by show _ ≤ 7302249; omega⟩) hS (fun q _ h => hFc q h) hFc (fun r14 f16 t H1 locs ht hvm hw15 hB hz1 hk1 hS => ?_)
  refine tn_4 hw15 (fun hT1 hF17 hw15r hw15p => ?_); clear hw15
  obtain ⟨hw_t, hw_l⟩ := (tpg_12 hG hxo).1
  obtain ⟨-, -, -, -, -, -, ⟨ht13, -, hl13⟩, ⟨ht14, -, hl14⟩, ⟨ht15, -, -, hl15⟩, -, -, ⟨ht18, -, -, hl18⟩⟩ := tpg_11 hG hw_t
  have hJ : mo_RI (-1) 0 (mo_R (mo_i (f16 (ρ mo 2)))) := by rw [hF17 _ (by rw [hrow]; decide)]; exact hJ
  have hIM : mo_IM (mo_R (mo_i (f16 (ρ mo 3)))) := by rw [hF17 _ (by rw [hims]; decide)]; exact hIM
  have hXE : tp_X τ ρ (fun n => False) f f16 := tp_X.of hF17 (by decide)
  have m0 : tp_fld (f16 (ρ xo 0)) 0 = R_18 (11) := (congrArg (fun q => tp_fld q 0) (hXE (ρ xo 0) (Or.inr (Or.inr hw_t)) (fun q9 => q9))).trans l0
  have m1 : tp_fld (f16 (ρ xo 0)) 4 = R_18 (0) := (congrArg (fun q => tp_fld q 4) (hXE (ρ xo 0) (Or.inr (Or.inr hw_t)) (fun q9 => q9))).trans l1
  have m2 : tp_fld (f16 (ρ xo 0)) 5 = R_18 (1) := (congrArg (fun q => tp_fld q 5) (hXE (ρ xo 0) (Or.inr (Or.inr hw_t)) (fun q9 => q9))).trans l2
  have m3 : tp_fld (f16 (ρ (ρ xo 0) 13)) 3 = R_18 (3) := (congrArg (fun q => tp_fld q 3) (hXE (ρ (ρ xo 0) 13) (Or.inr (Or.inl ht13)) (fun q9 => q9))).trans l3
  have m4 : tp_fld (f16 (ρ (ρ xo 0) 14)) 3 = R_18 (7) := (congrArg (fun q => tp_fld q 3) (hXE (ρ (ρ xo 0) 14) (Or.inr (Or.inl ht14)) (fun q9 => q9))).trans l4
  have m5 : tp_fld (f16 (ρ (ρ xo 0) 15)) 2 = R_18 (6) := (congrArg (fun q => tp_fld q 2) (hXE (ρ (ρ xo 0) 15) (Or.inl ht15) (fun q9 => q9))).trans l5
  have m6 : tp_fld (f16 (ρ (ρ xo 0) 18)) 2 = R_18 (10) := (congrArg (fun q => tp_fld q 2) (hXE (ρ (ρ xo 0) 18) (Or.inl ht18) (fun q9 => q9))).trans l6
  have hPm := lz_P.keep hG hT hxo hXE (fun n q9 => by have q8 : False := q9; first | exact q8.elim | omega) (hF17 _ (by rw [(tpg_12 hG hxo).2.1]; decide)) (by rw [hF17 _ (by rw [hims]; decide)]) (by rw [hF17 _ (by rw [hkep]; decide)]) hPm
  have l0 := m0
  have l1 := m1
  have l2 := m2
  have l3 := m3
  have l4 := m4
  have l5 := m5
  have l6 := m6
  have hRe : mo_R (mo_i (f16 (ρ mo 2))) = R_18 := by rw [hF17 _ (by rw [hrow]; decide)]; exact hRe_18.symm
  have hT := hT1
  have hP := hB.1; rw [ht] at hP; have hD := tp_ad f16 hD; clear hB hFc hz1 hk1; subst ht; generalize t.heap = H at hP hS ⊢
  refine lv_pop2_2 hx hb dL_law_714 rfl ?_
  refine lv_aload_n hx hb dL_law_715 rfl (lv_at hl 2 rfl) ?_
  refine lv_aload_n hx hb dL_law_716 rfl (lv_at hl 0 rfl) ?_
  refine lv_iload_n hx hb dL_law_717 rfl (lv_at hl 3 rfl) ?_
  refine lv_iconst (v := 1) hx hb dL_law_718 (by decide) ?_
  refine lv_iadd hx hb dL_law_719 ?_
  refine lv_topi (fun z19 ez19 => ?_)
  have iz19 : z19.toInt = i.toInt + 1 := zi_add ez19 rfl (show (1 : Int32).toInt = 1 from rfl) (by omega) (by omega)
  refine va_sld hx hb hX hbl hbA hS (vp_in_iff.mpr ⟨by omega, by omega⟩) dL_law_720 ?_
  refine lv_topi (fun y20 ey20 => ?_)
  obtain rfl : y20 = xs (9 * k + 1) := ey20.trans (congrArg xs (show z19.toInt.toNat = 9 * k + 1 by omega))
  refine lv_aload_n hx hb dL_law_721 rfl (lv_at hl 0 rfl) ?_
  refine lv_iload_n hx hb dL_law_722 rfl (lv_at hl 3 rfl) ?_
  refine lv_iconst (v := 2) hx hb dL_law_723 (by decide) ?_
  refine lv_iadd hx hb dL_law_724 ?_
  refine lv_topi (fun z21 ez21 => ?_)
  have iz21 : z21.toInt = i.toInt + 2 := zi_add ez21 rfl (show (2 : Int32).toInt = 2 from rfl) (by omega) (by omega)
  refine va_sld hx hb hX hbl hbA hS (vp_in_iff.mpr ⟨by omega, by omega⟩) dL_law_725 ?_
  refine lv_topi (fun y22 ey22 => ?_)
  obtain rfl : y22 = xs (9 * k + 2) := ey22.trans (congrArg xs (show z21.toInt.toNat = 9 * k + 2 by omega))
  refine tgk_13 hG hmo (fun y23 y24 y25 y26 y27 y28 y29 y30 y31 y32 y33 y34 y35 y36 y37 y38 y39 y40 y41 y42 y43 y44 y45 y46 y47 => ?_)
  refine tpk_13 hT hmo (fun o48_x0 o48_x1 o48_x7 o48_x9 o48_x10 o48_x11 o48_x12 o48_x13 o48_x14 o48_x15 o48_x16 o48_x17 o48_x18 o48_x19 o48_x20 o48_x22 o48_x25 o48_x28 o48_x29 o48_x32 o48_x33 o48_x34 o48_x35 o48_x36 o48_x37 o48_x38 o48_x47 o48_x48 hf_o48 ro48_0 ro48_1 ro48_2 ro48_3 ro48_4 ro48_5 ro48_6 ro48_7 ro48_8 ro48_9 ro48_10 ro48_11 ro48_12 ro48_13 ro48_14 => ?_)
  refine tpk_pos (tp_in hG hmo (by decide)) hf_o48 (fun q49 eq49 => ?_)
  have hFc := tp_fr hD hS hA
  have hRe_54 : R_18 = mo_R (mo_i (f16 (ρ mo 2))) := hRe.symm
  refine va_calll (va_runV (As := [.int (xs (9 * k + 1)), .int (xs (9 * k + 2))]) (rest := []) ⟨hx, hb, hml, hown, hts⟩ (t_X12_book l dC dI _ κ mo_n τ ν ρ L f16 hG hT mo (xs (9 * k + 1)) (xs (9 * k + 2)) hmo hJ) (cwV 2 hts gz_X12_book rfl rfl rfl ⟨rfl, pd_X12_book⟩ ⟨Nat.le_of_ble_eq_true rfl, Nat.le_of_ble_eq_true rfl⟩) ⟨pz_blind, va_recv hK hP (ci := 12) (q0 := q49) rfl eq49, pz_pre hP hK hD hN⟩ rfl rfl hl.1 rfl (lv_room (Nat.le_of_ble_eq_true rfl)) dL_law_726 ⟨by show _ ≤ 600000; omega, by show _ ≤ 7302249; omega⟩) hS (fun q _ h => hFc q h) hFc (fun r50 f52 t H1 locs ht hvm hw51 hB hz1 hk1 hS => ?_)
  refine tn_4 hw51 (fun hT1 hF53 hw51r hw51p => ?_); clear hw51
  obtain ⟨hw_t, hw_l⟩ := (tpg_12 hG hxo).1
  obtain ⟨-, -, -, -, -, -, ⟨ht13, -, hl13⟩, ⟨ht14, -, hl14⟩, ⟨ht15, -, -, hl15⟩, -, -, ⟨ht18, -, -, hl18⟩⟩ := tpg_11 hG hw_t
  have hJ : mo_RI (-1) 0 (mo_R (mo_i (f52 (ρ mo 2)))) := by rw [hF53 _ (by rw [hrow]; decide)]; exact hJ
  have hRn : R_18 = mo_R (mo_i (f52 (ρ mo 2))) := by rw [hF53 _ (by rw [hrow]; decide)]; exact hRe_54
  have hIM : mo_IM (mo_R (mo_i (f52 (ρ mo 3)))) := by rw [hF53 _ (by rw [hims]; decide)]; exact hIM
  have m0 : tp_fld (f52 (ρ xo 0)) 0 = R_18 (11) := ((congrArg (fun q => tp_fld q 0) (hF53 (ρ xo 0) (by rw [hw_t]; decide))).trans l0)
  have m1 : tp_fld (f52 (ρ xo 0)) 4 = R_18 (0) := ((congrArg (fun q => tp_fld q 4) (hF53 (ρ xo 0) (by rw [hw_t]; decide))).trans l1)
  have m2 : tp_fld (f52 (ρ xo 0)) 5 = R_18 (1) := ((congrArg (fun q => tp_fld q 5) (hF53 (ρ xo 0) (by rw [hw_t]; decide))).trans l2)
  have m3 : tp_fld (f52 (ρ (ρ xo 0) 13)) 3 = R_18 (3) := ((congrArg (fun q => tp_fld q 3) (hF53 (ρ (ρ xo 0) 13) (by rw [ht13]; decide))).trans l3)
  have m4 : tp_fld (f52 (ρ (ρ xo 0) 14)) 3 = R_18 (7) := ((congrArg (fun q => tp_fld q 3) (hF53 (ρ (ρ xo 0) 14) (by rw [ht14]; decide))).trans l4)
  have m5 : tp_fld (f52 (ρ (ρ xo 0) 15)) 2 = R_18 (6) := ((congrArg (fun q => tp_fld q 2) (hF53 (ρ (ρ xo 0) 15) (by rw [ht15]; decide))).trans l5)
  have m6 : tp_fld (f52 (ρ (ρ xo 0) 18)) 2 = R_18 (10) := ((congrArg (fun q => tp_fld q 2) (hF53 (ρ (ρ xo 0) 18) (by rw [ht18]; decide))).trans l6)
  have l0 := m0
  have l1 := m1
  have l2 := m2
  have l3 := m3
  have l4 := m4
  have l5 := m5
  have l6 := m6
  rw [hRn] at l0 l1 l2 l3 l4 l5 l6
  have hPm := lz_P.keep hG hT hxo (tp_X.of (E := fun _ => False) hF53 (by decide)) (fun n q9 => False.elim q9) (hF53 _ (by rw [(tpg_12 hG hxo).2.1]; decide)) (by rw [hF53 _ (by rw [hims]; decide)]) (by rw [hF53 _ (by rw [hkep]; decide)]) hPm
  have hT := hT1
  have hP := hB.1; rw [ht] at hP; have hD := tp_ad f52 hD; clear hB hFc hz1 hk1; subst ht; generalize t.heap = H at hP hS ⊢
  refine lv_pop2_2 hx hb dL_law_729 rfl ?_
  refine lv_goto (tgt := 1710) hx hb dL_law_730 (by decide) ?_
  refine tp_widen (cells + 110) (slots + 2634) (by omega) (by omega) ?_
  exact kk τ ν ρ L f52 _ _ _ ⟨hG, hT, hxo, hmo, hJ, hIM, ⟨l0, l1, l2, l3, l4, l5, l6⟩, hPm⟩ hP hD hS (lv_sub hl [0, 1, 2, 3] rfl)
set_option maxHeartbeats 8000000 in
set_option maxRecDepth 100000 in
theorem law_case_13 {p : Program} {l : Launch} {e : Env} {s : State} {m : MethodId} {below : List Frame} {meth : Method} {c : Code} {b N9 : Nat} {xs : Nat → Int32} {dC : Nat → ClassId} {dI : Nat → Nat → Nat} {κ : Nat → ClassId} {adK adV : Nat → Nat} {zv : Option Nat} {xo mo : Nat} {k cells slots : Nat} {i : Int32} (C0 : lw_At p s m meth c b N9 xs) (hN9 : N9 ≤ 4608) (hN : nz_ok s) (hZ : pw_Z adK adV zv (fun q : Nat => s.heap.size ≤ q) s s.heap) (hK : va_K (dC, dI) vwCl (tp_K κ) s) (hk : 9 * k + 9 ≤ N9) (hi : i.toInt = 9 * (k : Int)) (hc : cells + 110 ≤ 600000) (hs : slots + 2634 ≤ 7302249) (kk : ∀ (τ ν : Nat → Nat) (ρ : Nat → Nat → Nat) (L : List Nat) (f : Nat → va_E) (H : Heap) (locs : List Loc) (ls : Array Slot), lz_I κ xo mo τ ν ρ L f → va_P (dC, dI) vwCl (va_pl L f) H → va_D (fun q : Nat => s.heap.size ≤ q) (va_pl L f) → va_S (fun q : Nat => s.heap.size ≤ q) s.heap H locs → lv_has ls 4 [(0, .ref b), (1, .ref xo), (2, .ref mo), (3, .int i)] → W p l e room_1 s m #[Value.ref b] below meth c H locs (cells + 110) (slots + 2634) (lw_Z below #[Value.ref b] s) (F0 m 1710 ls [])) {τ ν : Nat → Nat} {ρ : Nat → Nat → Nat} {L : List Nat} {f : Nat → va_E} {H : Heap} {locs : List Loc} {ls : Array Slot}  (hI : lz_I κ xo mo τ ν ρ L f) (hP : va_P (dC, dI) vwCl (va_pl L f) H) (hD : va_D (fun q : Nat => s.heap.size ≤ q) (va_pl L f)) (hS : va_S (fun q : Nat => s.heap.size ≤ q) s.heap H locs) (hl : lv_has ls 4 [(0, .ref b), (1, .ref xo), (2, .ref mo), (3, .int i)]) : W p l e room_1 s m #[Value.ref b] below meth c H locs cells slots (lw_Z below #[Value.ref b] s) (F0 m 733 ls []) := by
  obtain ⟨hx, hb, hr, hml, hown, hts, hX, hbl, hlocks, hgv⟩ := id C0
  have hown : s.vm.findClass RL = some m.cls := hown
  have hA : ∀ q : Nat, s.heap.size ≤ q → (fun q : Nat => s.heap.size ≤ q) q := fun _ h => h
  have hbA : ¬ (fun q : Nat => s.heap.size ≤ q) b := Nat.not_le.mpr hbl
  obtain ⟨hG, hT, hxo, hmo, hJ, hIM, ⟨l0, l1, l2, l3, l4, l5, l6⟩, hPm⟩ := hI
  have hrow := (tpg_13 hG hmo).1; have hims := (tpg_13 hG hmo).2.1; have hkep := (tpg_13 hG hmo).2.2.1
  refine lv_aload_n hx hb dL_law_733 rfl (lv_at hl 1 rfl) ?_
  refine lv_aload_n hx hb dL_law_734 rfl (lv_at hl 0 rfl) ?_
  refine lv_iload_n hx hb dL_law_735 rfl (lv_at hl 3 rfl) ?_
  refine lv_iconst (v := 1) hx hb dL_law_736 (by decide) ?_
  refine lv_iadd hx hb dL_law_737 ?_
  refine lv_topi (fun z1 ez1 => ?_)
  have iz1 : z1.toInt = i.toInt + 1 := zi_add ez1 rfl (show (1 : Int32).toInt = 1 from rfl) (by omega) (by omega)
  refine va_sld hx hb hX hbl hbA hS (vp_in_iff.mpr ⟨by omega, by omega⟩) dL_law_738 ?_
  refine lv_topi (fun y2 ey2 => ?_)
  obtain rfl : y2 = xs (9 * k + 1) := ey2.trans (congrArg xs (show z1.toInt.toNat = 9 * k + 1 by omega))
  refine tgk_12 hG hxo (fun y3 y3l y4 y5 y6 y7 y8 y9a y9b y9c => ?_)
  refine tpk_12 hT hxo (fun o10_x6 hf_o10 => ?_)
  refine tpk_pos (tp_in hG hxo (by decide)) hf_o10 (fun q11 eq11 => ?_)
  have hFc := tp_fr hD hS hA
  obtain ⟨R_16, hRe_16⟩ : ∃ R, R = mo_R (mo_i (f (ρ mo 2))) := ⟨_, rfl⟩; rw [← hRe_16] at l0 l1 l2 l3 l4 l5 l6
  refine va_calli (va_runV (As := [.int (xs (9 * k + 1))]) (rest := []) ⟨hx, hb, hml, hown, hts⟩ (t_X11_store l dC dI _ (mo_O κ mo_n) κ τ ν ρ L f hG hT xo (xs (9 * k + 1)) hxo) (cwV 1 hts gz_X11_store rfl rfl rfl ⟨rfl, pd_X11_store⟩ ⟨Nat.le_of_ble_eq_true rfl, Nat.le_of_ble_eq_true rfl⟩) ⟨pz_blind, va_recv hK hP (ci := 11) (q0 := q11) rfl eq11, pz_pre hP hK hD hN⟩ rfl rfl hl.1 rfl (lv_room (Nat.le_of_ble_eq_true rfl)) dL_law_739 ⟨by show _ ≤ 600000; omega, by show _ ≤ 7302249; omega⟩) hS (fun q _ h => hFc q h) hFc (fun r12 f14 t H1 locs ht hvm hw13 hB hz1 hk1 hS => ?_)
  refine tn_4 hw13 (fun hT1 hF15 hw13r hw13p => ?_); clear hw13
  obtain ⟨hw_t, hw_l⟩ := (tpg_12 hG hxo).1
  obtain ⟨-, -, -, -, -, -, ⟨ht13, -, hl13⟩, ⟨ht14, -, hl14⟩, ⟨ht15, -, -, hl15⟩, -, -, ⟨ht18, -, -, hl18⟩⟩ := tpg_11 hG hw_t
  have hJ : mo_RI (-1) 0 (mo_R (mo_i (f14 (ρ mo 2)))) := by rw [hF15 _ (by rw [hrow]; decide)]; exact hJ
  have hIM : mo_IM (mo_R (mo_i (f14 (ρ mo 3)))) := by rw [hF15 _ (by rw [hims]; decide)]; exact hIM
  have hXE : tp_X τ ρ (fun n => False) f f14 := tp_X.of hF15 (by decide)
  have m0 : tp_fld (f14 (ρ xo 0)) 0 = R_16 (11) := (congrArg (fun q => tp_fld q 0) (hXE (ρ xo 0) (Or.inr (Or.inr hw_t)) (fun q9 => q9))).trans l0
  have m1 : tp_fld (f14 (ρ xo 0)) 4 = R_16 (0) := (congrArg (fun q => tp_fld q 4) (hXE (ρ xo 0) (Or.inr (Or.inr hw_t)) (fun q9 => q9))).trans l1
  have m2 : tp_fld (f14 (ρ xo 0)) 5 = R_16 (1) := (congrArg (fun q => tp_fld q 5) (hXE (ρ xo 0) (Or.inr (Or.inr hw_t)) (fun q9 => q9))).trans l2
  have m3 : tp_fld (f14 (ρ (ρ xo 0) 13)) 3 = R_16 (3) := (congrArg (fun q => tp_fld q 3) (hXE (ρ (ρ xo 0) 13) (Or.inr (Or.inl ht13)) (fun q9 => q9))).trans l3
  have m4 : tp_fld (f14 (ρ (ρ xo 0) 14)) 3 = R_16 (7) := (congrArg (fun q => tp_fld q 3) (hXE (ρ (ρ xo 0) 14) (Or.inr (Or.inl ht14)) (fun q9 => q9))).trans l4
  have m5 : tp_fld (f14 (ρ (ρ xo 0) 15)) 2 = R_16 (6) := (congrArg (fun q => tp_fld q 2) (hXE (ρ (ρ xo 0) 15) (Or.inl ht15) (fun q9 => q9))).trans l5
  have m6 : tp_fld (f14 (ρ (ρ xo 0) 18)) 2 = R_16 (10) := (congrArg (fun q => tp_fld q 2) (hXE (ρ (ρ xo 0) 18) (Or.inl ht18) (fun q9 => q9))).trans l6
  have hPm := lz_P.keep hG hT hxo hXE (fun n q9 => by have q8 : False := q9; first | exact q8.elim | omega) (hF15 _ (by rw [(tpg_12 hG hxo).2.1]; decide)) (by rw [hF15 _ (by rw [hims]; decide)]) (by rw [hF15 _ (by rw [hkep]; decide)]) hPm
  have l0 := m0
  have l1 := m1
  have l2 := m2
  have l3 := m3
  have l4 := m4
  have l5 := m5
  have l6 := m6
  have hRe : mo_R (mo_i (f14 (ρ mo 2))) = R_16 := by rw [hF15 _ (by rw [hrow]; decide)]; exact hRe_16.symm
  have hT := hT1
  have hP := hB.1; rw [ht] at hP; have hD := tp_ad f14 hD; clear hB hFc hz1 hk1; subst ht; generalize t.heap = H at hP hS ⊢
  refine lv_pop hx hb dL_law_742 rfl ?_
  refine lv_aload_n hx hb dL_law_743 rfl (lv_at hl 2 rfl) ?_
  refine lv_aload_n hx hb dL_law_744 rfl (lv_at hl 0 rfl) ?_
  refine lv_iload_n hx hb dL_law_745 rfl (lv_at hl 3 rfl) ?_
  refine lv_iconst (v := 1) hx hb dL_law_746 (by decide) ?_
  refine lv_iadd hx hb dL_law_747 ?_
  refine lv_topi (fun z17 ez17 => ?_)
  have iz17 : z17.toInt = i.toInt + 1 := zi_add ez17 rfl (show (1 : Int32).toInt = 1 from rfl) (by omega) (by omega)
  refine va_sld hx hb hX hbl hbA hS (vp_in_iff.mpr ⟨by omega, by omega⟩) dL_law_748 ?_
  refine lv_topi (fun y18 ey18 => ?_)
  obtain rfl : y18 = xs (9 * k + 1) := ey18.trans (congrArg xs (show z17.toInt.toNat = 9 * k + 1 by omega))
  refine tgk_13 hG hmo (fun y19 y20 y21 y22 y23 y24 y25 y26 y27 y28 y29 y30 y31 y32 y33 y34 y35 y36 y37 y38 y39 y40 y41 y42 y43 => ?_)
  refine tpk_13 hT hmo (fun o44_x0 o44_x1 o44_x7 o44_x9 o44_x10 o44_x11 o44_x12 o44_x13 o44_x14 o44_x15 o44_x16 o44_x17 o44_x18 o44_x19 o44_x20 o44_x22 o44_x25 o44_x28 o44_x29 o44_x32 o44_x33 o44_x34 o44_x35 o44_x36 o44_x37 o44_x38 o44_x47 o44_x48 hf_o44 ro44_0 ro44_1 ro44_2 ro44_3 ro44_4 ro44_5 ro44_6 ro44_7 ro44_8 ro44_9 ro44_10 ro44_11 ro44_12 ro44_13 ro44_14 => ?_)
  refine tpk_pos (tp_in hG hmo (by decide)) hf_o44 (fun q45 eq45 => ?_)
  have hFc := tp_fr hD hS hA
  have hRe_50 : R_16 = mo_R (mo_i (f14 (ρ mo 2))) := hRe.symm
  refine va_calli (va_runV (As := [.int (xs (9 * k + 1))]) (rest := []) ⟨hx, hb, hml, hown, hts⟩ (t_X12_store l dC dI _ κ mo_n τ ν ρ L f14 hG hT mo (xs (9 * k + 1)) hmo hJ) (cwV 1 hts gz_X12_store rfl rfl rfl ⟨rfl, pd_X12_store⟩ ⟨Nat.le_of_ble_eq_true rfl, Nat.le_of_ble_eq_true rfl⟩) ⟨pz_blind, va_recv hK hP (ci := 12) (q0 := q45) rfl eq45, pz_pre hP hK hD hN⟩ rfl rfl hl.1 rfl (lv_room (Nat.le_of_ble_eq_true rfl)) dL_law_749 ⟨by show _ ≤ 600000; omega, by show _ ≤ 7302249; omega⟩) hS (fun q _ h => hFc q h) hFc (fun r46 f48 t H1 locs ht hvm hw47 hB hz1 hk1 hS => ?_)
  refine tn_4 hw47 (fun hT1 hF49 hw47r hw47p => ?_); clear hw47
  obtain ⟨hw_t, hw_l⟩ := (tpg_12 hG hxo).1
  obtain ⟨-, -, -, -, -, -, ⟨ht13, -, hl13⟩, ⟨ht14, -, hl14⟩, ⟨ht15, -, -, hl15⟩, -, -, ⟨ht18, -, -, hl18⟩⟩ := tpg_11 hG hw_t
  have hJ : mo_RI (-1) 0 (mo_R (mo_i (f48 (ρ mo 2)))) := by rw [hF49 _ (by rw [hrow]; decide)]; exact hJ
  have hRn : R_16 = mo_R (mo_i (f48 (ρ mo 2))) := by rw [hF49 _ (by rw [hrow]; decide)]; exact hRe_50
  have hIM : mo_IM (mo_R (mo_i (f48 (ρ mo 3)))) := by rw [hF49 _ (by rw [hims]; decide)]; exact hIM
  have m0 : tp_fld (f48 (ρ xo 0)) 0 = R_16 (11) := ((congrArg (fun q => tp_fld q 0) (hF49 (ρ xo 0) (by rw [hw_t]; decide))).trans l0)
  have m1 : tp_fld (f48 (ρ xo 0)) 4 = R_16 (0) := ((congrArg (fun q => tp_fld q 4) (hF49 (ρ xo 0) (by rw [hw_t]; decide))).trans l1)
  have m2 : tp_fld (f48 (ρ xo 0)) 5 = R_16 (1) := ((congrArg (fun q => tp_fld q 5) (hF49 (ρ xo 0) (by rw [hw_t]; decide))).trans l2)
  have m3 : tp_fld (f48 (ρ (ρ xo 0) 13)) 3 = R_16 (3) := ((congrArg (fun q => tp_fld q 3) (hF49 (ρ (ρ xo 0) 13) (by rw [ht13]; decide))).trans l3)
  have m4 : tp_fld (f48 (ρ (ρ xo 0) 14)) 3 = R_16 (7) := ((congrArg (fun q => tp_fld q 3) (hF49 (ρ (ρ xo 0) 14) (by rw [ht14]; decide))).trans l4)
  have m5 : tp_fld (f48 (ρ (ρ xo 0) 15)) 2 = R_16 (6) := ((congrArg (fun q => tp_fld q 2) (hF49 (ρ (ρ xo 0) 15) (by rw [ht15]; decide))).trans l5)
  have m6 : tp_fld (f48 (ρ (ρ xo 0) 18)) 2 = R_16 (10) := ((congrArg (fun q => tp_fld q 2) (hF49 (ρ (ρ xo 0) 18) (by rw [ht18]; decide))).trans l6)
  have l0 := m0
  have l1 := m1
  have l2 := m2
  have l3 := m3
  have l4 := m4
  have l5 := m5
  have l6 := m6
  rw [hRn] at l0 l1 l2 l3 l4 l5 l6
  have hPm := lz_P.keep hG hT hxo (tp_X.of (E := fun _ => False) hF49 (by decide)) (fun n q9 => False.elim q9) (hF49 _ (by rw [(tpg_12 hG hxo).2.1]; decide)) (by rw [hF49 _ (by rw [hims]; decide)]) (by rw [hF49 _ (by rw [hkep]; decide)]) hPm
  have hT := hT1
  have hP := hB.1; rw [ht] at hP; have hD := tp_ad f48 hD; clear hB hFc hz1 hk1; subst ht; generalize t.heap = H at hP hS ⊢
  refine lv_pop hx hb dL_law_752 rfl ?_
  refine lv_goto (tgt := 1710) hx hb dL_law_753 (by decide) ?_
  refine tp_widen (cells + 110) (slots + 2634) (by omega) (by omega) ?_
  exact kk τ ν ρ L f48 _ _ _ ⟨hG, hT, hxo, hmo, hJ, hIM, ⟨l0, l1, l2, l3, l4, l5, l6⟩, hPm⟩ hP hD hS (lv_sub hl [0, 1, 2, 3] rfl)
end
section
set_option maxHeartbeats 8000000 in
set_option maxRecDepth 100000 in
theorem law_case_14 {p : Program} {l : Launch} {e : Env} {s : State} {m : MethodId} {below : List Frame} {meth : Method} {c : Code} {b N9 : Nat} {xs : Nat → Int32} {dC : Nat → ClassId} {dI : Nat → Nat → Nat} {κ : Nat → ClassId} {adK adV : Nat → Nat} {zv : Option Nat} {xo mo : Nat} {k cells slots : Nat} {i : Int32} (C0 : lw_At p s m meth c b N9 xs) (hN9 : N9 ≤ 4608) (hN : nz_ok s) (hZ : pw_Z adK adV zv (fun q : Nat => s.heap.size ≤ q) s s.heap) (hK : va_K (dC, dI) vwCl (tp_K κ) s) (hk : 9 * k + 9 ≤ N9) (hi : i.toInt = 9 * (k : Int)) (hc : cells + 110 ≤ 600000) (hs : slots + 2634 ≤ 7302249) (kk : ∀ (τ ν : Nat → Nat) (ρ : Nat → Nat → Nat) (L : List Nat) (f : Nat → va_E) (H : Heap) (locs : List Loc) (ls : Array Slot), lz_I κ xo mo τ ν ρ L f → va_P (dC, dI) vwCl (va_pl L f) H → va_D (fun q : Nat => s.heap.size ≤ q) (va_pl L f) → va_S (fun q : Nat => s.heap.size ≤ q) s.heap H locs → lv_has ls 4 [(0, .ref b), (1, .ref xo), (2, .ref mo), (3, .int i)] → W p l e room_1 s m #[Value.ref b] below meth c H locs (cells + 110) (slots + 2634) (lw_Z below #[Value.ref b] s) (F0 m 1710 ls [])) {τ ν : Nat → Nat} {ρ : Nat → Nat → Nat} {L : List Nat} {f : Nat → va_E} {H : Heap} {locs : List Loc} {ls : Array Slot}  (hI : lz_I κ xo mo τ ν ρ L f) (hP : va_P (dC, dI) vwCl (va_pl L f) H) (hD : va_D (fun q : Nat => s.heap.size ≤ q) (va_pl L f)) (hS : va_S (fun q : Nat => s.heap.size ≤ q) s.heap H locs) (hl : lv_has ls 4 [(0, .ref b), (1, .ref xo), (2, .ref mo), (3, .int i)]) : W p l e room_1 s m #[Value.ref b] below meth c H locs cells slots (lw_Z below #[Value.ref b] s) (F0 m 756 ls []) := by
  obtain ⟨hx, hb, hr, hml, hown, hts, hX, hbl, hlocks, hgv⟩ := id C0
  have hown : s.vm.findClass RL = some m.cls := hown
  have hA : ∀ q : Nat, s.heap.size ≤ q → (fun q : Nat => s.heap.size ≤ q) q := fun _ h => h
  have hbA : ¬ (fun q : Nat => s.heap.size ≤ q) b := Nat.not_le.mpr hbl
  obtain ⟨hG, hT, hxo, hmo, hJ, hIM, ⟨l0, l1, l2, l3, l4, l5, l6⟩, hPm⟩ := hI
  have hrow := (tpg_13 hG hmo).1; have hims := (tpg_13 hG hmo).2.1; have hkep := (tpg_13 hG hmo).2.2.1
  refine lv_aload_n hx hb dL_law_756 rfl (lv_at hl 1 rfl) ?_
  refine lv_aload_n hx hb dL_law_757 rfl (lv_at hl 0 rfl) ?_
  refine lv_iload_n hx hb dL_law_758 rfl (lv_at hl 3 rfl) ?_
  refine lv_iconst (v := 1) hx hb dL_law_759 (by decide) ?_
  refine lv_iadd hx hb dL_law_760 ?_
  refine lv_topi (fun z1 ez1 => ?_)
  have iz1 : z1.toInt = i.toInt + 1 := zi_add ez1 rfl (show (1 : Int32).toInt = 1 from rfl) (by omega) (by omega)
  refine va_sld hx hb hX hbl hbA hS (vp_in_iff.mpr ⟨by omega, by omega⟩) dL_law_761 ?_
  refine lv_topi (fun y2 ey2 => ?_)
  obtain rfl : y2 = xs (9 * k + 1) := ey2.trans (congrArg xs (show z1.toInt.toNat = 9 * k + 1 by omega))
  refine lv_aload_n hx hb dL_law_762 rfl (lv_at hl 0 rfl) ?_
  refine lv_iload_n hx hb dL_law_763 rfl (lv_at hl 3 rfl) ?_
  refine lv_iconst (v := 2) hx hb dL_law_764 (by decide) ?_
  refine lv_iadd hx hb dL_law_765 ?_
  refine lv_topi (fun z3 ez3 => ?_)
  have iz3 : z3.toInt = i.toInt + 2 := zi_add ez3 rfl (show (2 : Int32).toInt = 2 from rfl) (by omega) (by omega)
  refine va_sld hx hb hX hbl hbA hS (vp_in_iff.mpr ⟨by omega, by omega⟩) dL_law_766 ?_
  refine lv_topi (fun y4 ey4 => ?_)
  obtain rfl : y4 = xs (9 * k + 2) := ey4.trans (congrArg xs (show z3.toInt.toNat = 9 * k + 2 by omega))
  refine tgk_12 hG hxo (fun y5 y5l y6 y7 y8 y9 y10 y11a y11b y11c => ?_)
  refine tpk_12 hT hxo (fun o12_x6 hf_o12 => ?_)
  refine tpk_pos (tp_in hG hxo (by decide)) hf_o12 (fun q13 eq13 => ?_)
  have hFc := tp_fr hD hS hA
  obtain ⟨R_18, hRe_18⟩ : ∃ R, R = mo_R (mo_i (f (ρ mo 2))) := ⟨_, rfl⟩; rw [← hRe_18] at l0 l1 l2 l3 l4 l5 l6
  refine va_calli (va_runV (As := [.int (xs (9 * k + 1)), .int (xs (9 * k + 2))]) (rest := []) ⟨hx, hb, hml, hown, hts⟩ (t_X11_landing l dC dI _ (mo_O κ mo_n) κ τ ν ρ L f hG hT xo (xs (9 * k + 1)) (xs (9 * k + 2)) hxo) (cwV 2 hts gz_X11_landing rfl rfl rfl ⟨rfl, pd_X11_landing⟩ ⟨Nat.le_of_ble_eq_true rfl, Nat.le_of_ble_eq_true rfl⟩) ⟨pz_blind, va_recv hK hP (ci := 11) (q0 := q13) rfl eq13, pz_pre hP hK hD hN⟩ rfl rfl hl.1 rfl (lv_room (Nat.le_of_ble_eq_true rfl)) dL_law_767 ⟨by show _ ≤ 600000; omega, by show _ ≤ 7302249; omega⟩) hS (fun q _ h => hFc q h) hFc (fun r14 f16 t H1 locs ht hvm hw15 hB hz1 hk1 hS => ?_)
  refine tn_4 hw15 (fun hT1 hF17 hw15r hw15p => ?_); clear hw15
  obtain ⟨hw_t, hw_l⟩ := (tpg_12 hG hxo).1
  obtain ⟨-, -, -, -, -, -, ⟨ht13, -, hl13⟩, ⟨ht14, -, hl14⟩, ⟨ht15, -, -, hl15⟩, -, -, ⟨ht18, -, -, hl18⟩⟩ := tpg_11 hG hw_t
  have hJ : mo_RI (-1) 0 (mo_R (mo_i (f16 (ρ mo 2)))) := by rw [hF17 _ (by rw [hrow]; decide)]; exact hJ
  have hIM : mo_IM (mo_R (mo_i (f16 (ρ mo 3)))) := by rw [hF17 _ (by rw [hims]; decide)]; exact hIM
  have hXE : tp_X τ ρ (fun n => False) f f16 := tp_X.of hF17 (by decide)
  have m0 : tp_fld (f16 (ρ xo 0)) 0 = R_18 (11) := (congrArg (fun q => tp_fld q 0) (hXE (ρ xo 0) (Or.inr (Or.inr hw_t)) (fun q9 => q9))).trans l0
  have m1 : tp_fld (f16 (ρ xo 0)) 4 = R_18 (0) := (congrArg (fun q => tp_fld q 4) (hXE (ρ xo 0) (Or.inr (Or.inr hw_t)) (fun q9 => q9))).trans l1
  have m2 : tp_fld (f16 (ρ xo 0)) 5 = R_18 (1) := (congrArg (fun q => tp_fld q 5) (hXE (ρ xo 0) (Or.inr (Or.inr hw_t)) (fun q9 => q9))).trans l2
  have m3 : tp_fld (f16 (ρ (ρ xo 0) 13)) 3 = R_18 (3) := (congrArg (fun q => tp_fld q 3) (hXE (ρ (ρ xo 0) 13) (Or.inr (Or.inl ht13)) (fun q9 => q9))).trans l3
  have m4 : tp_fld (f16 (ρ (ρ xo 0) 14)) 3 = R_18 (7) := (congrArg (fun q => tp_fld q 3) (hXE (ρ (ρ xo 0) 14) (Or.inr (Or.inl ht14)) (fun q9 => q9))).trans l4
  have m5 : tp_fld (f16 (ρ (ρ xo 0) 15)) 2 = R_18 (6) := (congrArg (fun q => tp_fld q 2) (hXE (ρ (ρ xo 0) 15) (Or.inl ht15) (fun q9 => q9))).trans l5
  have m6 : tp_fld (f16 (ρ (ρ xo 0) 18)) 2 = R_18 (10) := (congrArg (fun q => tp_fld q 2) (hXE (ρ (ρ xo 0) 18) (Or.inl ht18) (fun q9 => q9))).trans l6
  have hPm := lz_P.keep hG hT hxo hXE (fun n q9 => by have q8 : False := q9; first | exact q8.elim | omega) (hF17 _ (by rw [(tpg_12 hG hxo).2.1]; decide)) (by rw [hF17 _ (by rw [hims]; decide)]) (by rw [hF17 _ (by rw [hkep]; decide)]) hPm
  have l0 := m0
  have l1 := m1
  have l2 := m2
  have l3 := m3
  have l4 := m4
  have l5 := m5
  have l6 := m6
  have hRe : mo_R (mo_i (f16 (ρ mo 2))) = R_18 := by rw [hF17 _ (by rw [hrow]; decide)]; exact hRe_18.symm
  have hT := hT1
  have hP := hB.1; rw [ht] at hP; have hD := tp_ad f16 hD; clear hB hFc hz1 hk1; subst ht; generalize t.heap = H at hP hS ⊢
  refine lv_pop hx hb dL_law_770 rfl ?_
  refine lv_aload_n hx hb dL_law_771 rfl (lv_at hl 2 rfl) ?_
  refine lv_aload_n hx hb dL_law_772 rfl (lv_at hl 0 rfl) ?_
  refine lv_iload_n hx hb dL_law_773 rfl (lv_at hl 3 rfl) ?_
  refine lv_iconst (v := 1) hx hb dL_law_774 (by decide) ?_
  refine lv_iadd hx hb dL_law_775 ?_
  refine lv_topi (fun z19 ez19 => ?_)
  have iz19 : z19.toInt = i.toInt + 1 := zi_add ez19 rfl (show (1 : Int32).toInt = 1 from rfl) (by omega) (by omega)
  refine va_sld hx hb hX hbl hbA hS (vp_in_iff.mpr ⟨by omega, by omega⟩) dL_law_776 ?_
  refine lv_topi (fun y20 ey20 => ?_)
  obtain rfl : y20 = xs (9 * k + 1) := ey20.trans (congrArg xs (show z19.toInt.toNat = 9 * k + 1 by omega))
  refine lv_aload_n hx hb dL_law_777 rfl (lv_at hl 0 rfl) ?_
  refine lv_iload_n hx hb dL_law_778 rfl (lv_at hl 3 rfl) ?_
  refine lv_iconst (v := 2) hx hb dL_law_779 (by decide) ?_
  refine lv_iadd hx hb dL_law_780 ?_
  refine lv_topi (fun z21 ez21 => ?_)
  have iz21 : z21.toInt = i.toInt + 2 := zi_add ez21 rfl (show (2 : Int32).toInt = 2 from rfl) (by omega) (by omega)
  refine va_sld hx hb hX hbl hbA hS (vp_in_iff.mpr ⟨by omega, by omega⟩) dL_law_781 ?_
  refine lv_topi (fun y22 ey22 => ?_)
  obtain rfl : y22 = xs (9 * k + 2) := ey22.trans (congrArg xs (show z21.toInt.toNat = 9 * k + 2 by omega))
  refine tgk_13 hG hmo (fun y23 y24 y25 y26 y27 y28 y29 y30 y31 y32 y33 y34 y35 y36 y37 y38 y39 y40 y41 y42 y43 y44 y45 y46 y47 => ?_)
  refine tpk_13 hT hmo (fun o48_x0 o48_x1 o48_x7 o48_x9 o48_x10 o48_x11 o48_x12 o48_x13 o48_x14 o48_x15 o48_x16 o48_x17 o48_x18 o48_x19 o48_x20 o48_x22 o48_x25 o48_x28 o48_x29 o48_x32 o48_x33 o48_x34 o48_x35 o48_x36 o48_x37 o48_x38 o48_x47 o48_x48 hf_o48 ro48_0 ro48_1 ro48_2 ro48_3 ro48_4 ro48_5 ro48_6 ro48_7 ro48_8 ro48_9 ro48_10 ro48_11 ro48_12 ro48_13 ro48_14 => ?_)
  refine tpk_pos (tp_in hG hmo (by decide)) hf_o48 (fun q49 eq49 => ?_)
  have hFc := tp_fr hD hS hA
  have hRe_54 : R_18 = mo_R (mo_i (f16 (ρ mo 2))) := hRe.symm
  refine va_calli (va_runV (As := [.int (xs (9 * k + 1)), .int (xs (9 * k + 2))]) (rest := []) ⟨hx, hb, hml, hown, hts⟩ (t_X12_landing l dC dI _ κ mo_n τ ν ρ L f16 hG hT mo (xs (9 * k + 1)) (xs (9 * k + 2)) hmo hJ) (cwV 2 hts gz_X12_landing rfl rfl rfl ⟨rfl, pd_X12_landing⟩ ⟨Nat.le_of_ble_eq_true rfl, Nat.le_of_ble_eq_true rfl⟩) ⟨pz_blind, va_recv hK hP (ci := 12) (q0 := q49) rfl eq49, pz_pre hP hK hD hN⟩ rfl rfl hl.1 rfl (lv_room (Nat.le_of_ble_eq_true rfl)) dL_law_782 ⟨by show _ ≤ 600000; omega, by show _ ≤ 7302249; omega⟩) hS (fun q _ h => hFc q h) hFc (fun r50 f52 t H1 locs ht hvm hw51 hB hz1 hk1 hS => ?_)
  refine tn_4 hw51 (fun hT1 hF53 hw51r hw51p => ?_); clear hw51
  obtain ⟨hw_t, hw_l⟩ := (tpg_12 hG hxo).1
  obtain ⟨-, -, -, -, -, -, ⟨ht13, -, hl13⟩, ⟨ht14, -, hl14⟩, ⟨ht15, -, -, hl15⟩, -, -, ⟨ht18, -, -, hl18⟩⟩ := tpg_11 hG hw_t
  have hJ : mo_RI (-1) 0 (mo_R (mo_i (f52 (ρ mo 2)))) := by rw [hF53 _ (by rw [hrow]; decide)]; exact hJ
  have hRn : R_18 = mo_R (mo_i (f52 (ρ mo 2))) := by rw [hF53 _ (by rw [hrow]; decide)]; exact hRe_54
  have hIM : mo_IM (mo_R (mo_i (f52 (ρ mo 3)))) := by rw [hF53 _ (by rw [hims]; decide)]; exact hIM
  have m0 : tp_fld (f52 (ρ xo 0)) 0 = R_18 (11) := ((congrArg (fun q => tp_fld q 0) (hF53 (ρ xo 0) (by rw [hw_t]; decide))).trans l0)
  have m1 : tp_fld (f52 (ρ xo 0)) 4 = R_18 (0) := ((congrArg (fun q => tp_fld q 4) (hF53 (ρ xo 0) (by rw [hw_t]; decide))).trans l1)
  have m2 : tp_fld (f52 (ρ xo 0)) 5 = R_18 (1) := ((congrArg (fun q => tp_fld q 5) (hF53 (ρ xo 0) (by rw [hw_t]; decide))).trans l2)
  have m3 : tp_fld (f52 (ρ (ρ xo 0) 13)) 3 = R_18 (3) := ((congrArg (fun q => tp_fld q 3) (hF53 (ρ (ρ xo 0) 13) (by rw [ht13]; decide))).trans l3)
  have m4 : tp_fld (f52 (ρ (ρ xo 0) 14)) 3 = R_18 (7) := ((congrArg (fun q => tp_fld q 3) (hF53 (ρ (ρ xo 0) 14) (by rw [ht14]; decide))).trans l4)
  have m5 : tp_fld (f52 (ρ (ρ xo 0) 15)) 2 = R_18 (6) := ((congrArg (fun q => tp_fld q 2) (hF53 (ρ (ρ xo 0) 15) (by rw [ht15]; decide))).trans l5)
  have m6 : tp_fld (f52 (ρ (ρ xo 0) 18)) 2 = R_18 (10) := ((congrArg (fun q => tp_fld q 2) (hF53 (ρ (ρ xo 0) 18) (by rw [ht18]; decide))).trans l6)
  have l0 := m0
  have l1 := m1
  have l2 := m2
  have l3 := m3
  have l4 := m4
  have l5 := m5
  have l6 := m6
  rw [hRn] at l0 l1 l2 l3 l4 l5 l6
  have hPm := lz_P.keep hG hT hxo (tp_X.of (E := fun _ => False) hF53 (by decide)) (fun n q9 => False.elim q9) (hF53 _ (by rw [(tpg_12 hG hxo).2.1]; decide)) (by rw [hF53 _ (by rw [hims]; decide)]) (by rw [hF53 _ (by rw [hkep]; decide)]) hPm
  have hT := hT1
  have hP := hB.1; rw [ht] at hP; have hD := tp_ad f52 hD; clear hB hFc hz1 hk1; subst ht; generalize t.heap = H at hP hS ⊢
  refine lv_pop hx hb dL_law_785 rfl ?_
  refine lv_goto (tgt := 1710) hx hb dL_law_786 (by decide) ?_
  refine tp_widen (cells + 110) (slots + 2634) (by omega) (by omega) ?_
  exact kk τ ν ρ L f52 _ _ _ ⟨hG, hT, hxo, hmo, hJ, hIM, ⟨l0, l1, l2, l3, l4, l5, l6⟩, hPm⟩ hP hD hS (lv_sub hl [0, 1, 2, 3] rfl)
set_option maxHeartbeats 8000000 in
set_option maxRecDepth 100000 in
theorem law_case_15 {p : Program} {l : Launch} {e : Env} {s : State} {m : MethodId} {below : List Frame} {meth : Method} {c : Code} {b N9 : Nat} {xs : Nat → Int32} {dC : Nat → ClassId} {dI : Nat → Nat → Nat} {κ : Nat → ClassId} {adK adV : Nat → Nat} {zv : Option Nat} {xo mo : Nat} {k cells slots : Nat} {i : Int32} (C0 : lw_At p s m meth c b N9 xs) (hN9 : N9 ≤ 4608) (hN : nz_ok s) (hZ : pw_Z adK adV zv (fun q : Nat => s.heap.size ≤ q) s s.heap) (hK : va_K (dC, dI) vwCl (tp_K κ) s) (hk : 9 * k + 9 ≤ N9) (hi : i.toInt = 9 * (k : Int)) (hc : cells + 110 ≤ 600000) (hs : slots + 2634 ≤ 7302249) (kk : ∀ (τ ν : Nat → Nat) (ρ : Nat → Nat → Nat) (L : List Nat) (f : Nat → va_E) (H : Heap) (locs : List Loc) (ls : Array Slot), lz_I κ xo mo τ ν ρ L f → va_P (dC, dI) vwCl (va_pl L f) H → va_D (fun q : Nat => s.heap.size ≤ q) (va_pl L f) → va_S (fun q : Nat => s.heap.size ≤ q) s.heap H locs → lv_has ls 4 [(0, .ref b), (1, .ref xo), (2, .ref mo), (3, .int i)] → W p l e room_1 s m #[Value.ref b] below meth c H locs (cells + 110) (slots + 2634) (lw_Z below #[Value.ref b] s) (F0 m 1710 ls [])) {τ ν : Nat → Nat} {ρ : Nat → Nat → Nat} {L : List Nat} {f : Nat → va_E} {H : Heap} {locs : List Loc} {ls : Array Slot}  (hI : lz_I κ xo mo τ ν ρ L f) (hP : va_P (dC, dI) vwCl (va_pl L f) H) (hD : va_D (fun q : Nat => s.heap.size ≤ q) (va_pl L f)) (hS : va_S (fun q : Nat => s.heap.size ≤ q) s.heap H locs) (hl : lv_has ls 4 [(0, .ref b), (1, .ref xo), (2, .ref mo), (3, .int i)]) : W p l e room_1 s m #[Value.ref b] below meth c H locs cells slots (lw_Z below #[Value.ref b] s) (F0 m 789 ls []) := by
  obtain ⟨hx, hb, hr, hml, hown, hts, hX, hbl, hlocks, hgv⟩ := id C0
  have hown : s.vm.findClass RL = some m.cls := hown
  have hA : ∀ q : Nat, s.heap.size ≤ q → (fun q : Nat => s.heap.size ≤ q) q := fun _ h => h
  have hbA : ¬ (fun q : Nat => s.heap.size ≤ q) b := Nat.not_le.mpr hbl
  obtain ⟨hG, hT, hxo, hmo, hJ, hIM, ⟨l0, l1, l2, l3, l4, l5, l6⟩, hPm⟩ := hI
  have hrow := (tpg_13 hG hmo).1; have hims := (tpg_13 hG hmo).2.1; have hkep := (tpg_13 hG hmo).2.2.1
  refine lv_aload_n hx hb dL_law_789 rfl (lv_at hl 1 rfl) ?_
  refine lv_aload_n hx hb dL_law_790 rfl (lv_at hl 0 rfl) ?_
  refine lv_iload_n hx hb dL_law_791 rfl (lv_at hl 3 rfl) ?_
  refine lv_iconst (v := 1) hx hb dL_law_792 (by decide) ?_
  refine lv_iadd hx hb dL_law_793 ?_
  refine lv_topi (fun z1 ez1 => ?_)
  have iz1 : z1.toInt = i.toInt + 1 := zi_add ez1 rfl (show (1 : Int32).toInt = 1 from rfl) (by omega) (by omega)
  refine va_sld hx hb hX hbl hbA hS (vp_in_iff.mpr ⟨by omega, by omega⟩) dL_law_794 ?_
  refine lv_topi (fun y2 ey2 => ?_)
  obtain rfl : y2 = xs (9 * k + 1) := ey2.trans (congrArg xs (show z1.toInt.toNat = 9 * k + 1 by omega))
  refine lv_aload_n hx hb dL_law_795 rfl (lv_at hl 0 rfl) ?_
  refine lv_iload_n hx hb dL_law_796 rfl (lv_at hl 3 rfl) ?_
  refine lv_iconst (v := 2) hx hb dL_law_797 (by decide) ?_
  refine lv_iadd hx hb dL_law_798 ?_
  refine lv_topi (fun z3 ez3 => ?_)
  have iz3 : z3.toInt = i.toInt + 2 := zi_add ez3 rfl (show (2 : Int32).toInt = 2 from rfl) (by omega) (by omega)
  refine va_sld hx hb hX hbl hbA hS (vp_in_iff.mpr ⟨by omega, by omega⟩) dL_law_799 ?_
  refine lv_topi (fun y4 ey4 => ?_)
  obtain rfl : y4 = xs (9 * k + 2) := ey4.trans (congrArg xs (show z3.toInt.toNat = 9 * k + 2 by omega))
  refine tgk_12 hG hxo (fun y5 y5l y6 y7 y8 y9 y10 y11a y11b y11c => ?_)
  refine tpk_12 hT hxo (fun o12_x6 hf_o12 => ?_)
  refine tpk_pos (tp_in hG hxo (by decide)) hf_o12 (fun q13 eq13 => ?_)
  have hFc := tp_fr hD hS hA
  obtain ⟨R_18, hRe_18⟩ : ∃ R, R = mo_R (mo_i (f (ρ mo 2))) := ⟨_, rfl⟩; rw [← hRe_18] at l0 l1 l2 l3 l4 l5 l6
  refine va_calli (va_runV (As := [.int (xs (9 * k + 1)), .int (xs (9 * k + 2))]) (rest := []) ⟨hx, hb, hml, hown, hts⟩ (t_X11_led l dC dI _ (mo_O κ mo_n) κ τ ν ρ L f hG hT xo (xs (9 * k + 1)) (xs (9 * k + 2)) hxo) (cwV 2 hts gz_X11_led rfl rfl rfl ⟨rfl, pd_X11_led⟩ ⟨Nat.le_of_ble_eq_true rfl, Nat.le_of_ble_eq_true rfl⟩) ⟨pz_blind, va_recv hK hP (ci := 11) (q0 := q13) rfl eq13, pz_pre hP hK hD hN⟩ rfl rfl hl.1 rfl (lv_room (Nat.le_of_ble_eq_true rfl)) dL_law_800 ⟨by show _ ≤ 600000; omega, by show _ ≤ 7302249; omega⟩) hS (fun q _ h => hFc q h) hFc (fun r14 f16 t H1 locs ht hvm hw15 hB hz1 hk1 hS => ?_)
  refine tn_4 hw15 (fun hT1 hF17 hw15r hw15p => ?_); clear hw15
  obtain ⟨hw_t, hw_l⟩ := (tpg_12 hG hxo).1
  obtain ⟨-, -, -, -, -, -, ⟨ht13, -, hl13⟩, ⟨ht14, -, hl14⟩, ⟨ht15, -, -, hl15⟩, -, -, ⟨ht18, -, -, hl18⟩⟩ := tpg_11 hG hw_t
  have hJ : mo_RI (-1) 0 (mo_R (mo_i (f16 (ρ mo 2)))) := by rw [hF17 _ (by rw [hrow]; decide)]; exact hJ
  have hIM : mo_IM (mo_R (mo_i (f16 (ρ mo 3)))) := by rw [hF17 _ (by rw [hims]; decide)]; exact hIM
  have hXE : tp_X τ ρ (fun n => False) f f16 := tp_X.of hF17 (by decide)
  have m0 : tp_fld (f16 (ρ xo 0)) 0 = R_18 (11) := (congrArg (fun q => tp_fld q 0) (hXE (ρ xo 0) (Or.inr (Or.inr hw_t)) (fun q9 => q9))).trans l0
  have m1 : tp_fld (f16 (ρ xo 0)) 4 = R_18 (0) := (congrArg (fun q => tp_fld q 4) (hXE (ρ xo 0) (Or.inr (Or.inr hw_t)) (fun q9 => q9))).trans l1
  have m2 : tp_fld (f16 (ρ xo 0)) 5 = R_18 (1) := (congrArg (fun q => tp_fld q 5) (hXE (ρ xo 0) (Or.inr (Or.inr hw_t)) (fun q9 => q9))).trans l2
  have m3 : tp_fld (f16 (ρ (ρ xo 0) 13)) 3 = R_18 (3) := (congrArg (fun q => tp_fld q 3) (hXE (ρ (ρ xo 0) 13) (Or.inr (Or.inl ht13)) (fun q9 => q9))).trans l3
  have m4 : tp_fld (f16 (ρ (ρ xo 0) 14)) 3 = R_18 (7) := (congrArg (fun q => tp_fld q 3) (hXE (ρ (ρ xo 0) 14) (Or.inr (Or.inl ht14)) (fun q9 => q9))).trans l4
  have m5 : tp_fld (f16 (ρ (ρ xo 0) 15)) 2 = R_18 (6) := (congrArg (fun q => tp_fld q 2) (hXE (ρ (ρ xo 0) 15) (Or.inl ht15) (fun q9 => q9))).trans l5
  have m6 : tp_fld (f16 (ρ (ρ xo 0) 18)) 2 = R_18 (10) := (congrArg (fun q => tp_fld q 2) (hXE (ρ (ρ xo 0) 18) (Or.inl ht18) (fun q9 => q9))).trans l6
  have hPm := lz_P.keep hG hT hxo hXE (fun n q9 => by have q8 : False := q9; first | exact q8.elim | omega) (hF17 _ (by rw [(tpg_12 hG hxo).2.1]; decide)) (by rw [hF17 _ (by rw [hims]; decide)]) (by rw [hF17 _ (by rw [hkep]; decide)]) hPm
  have l0 := m0
  have l1 := m1
  have l2 := m2
  have l3 := m3
  have l4 := m4
  have l5 := m5
  have l6 := m6
  have hRe : mo_R (mo_i (f16 (ρ mo 2))) = R_18 := by rw [hF17 _ (by rw [hrow]; decide)]; exact hRe_18.symm
  have hT := hT1
  have hP := hB.1; rw [ht] at hP; have hD := tp_ad f16 hD; clear hB hFc hz1 hk1; subst ht; generalize t.heap = H at hP hS ⊢
  refine lv_pop hx hb dL_law_803 rfl ?_
  refine lv_aload_n hx hb dL_law_804 rfl (lv_at hl 2 rfl) ?_
  refine lv_aload_n hx hb dL_law_805 rfl (lv_at hl 0 rfl) ?_
  refine lv_iload_n hx hb dL_law_806 rfl (lv_at hl 3 rfl) ?_
  refine lv_iconst (v := 1) hx hb dL_law_807 (by decide) ?_
  refine lv_iadd hx hb dL_law_808 ?_
  refine lv_topi (fun z19 ez19 => ?_)
  have iz19 : z19.toInt = i.toInt + 1 := zi_add ez19 rfl (show (1 : Int32).toInt = 1 from rfl) (by omega) (by omega)
  refine va_sld hx hb hX hbl hbA hS (vp_in_iff.mpr ⟨by omega, by omega⟩) dL_law_809 ?_
  refine lv_topi (fun y20 ey20 => ?_)
  obtain rfl : y20 = xs (9 * k + 1) := ey20.trans (congrArg xs (show z19.toInt.toNat = 9 * k + 1 by omega))
  refine lv_aload_n hx hb dL_law_810 rfl (lv_at hl 0 rfl) ?_
  refine lv_iload_n hx hb dL_law_811 rfl (lv_at hl 3 rfl) ?_
  refine lv_iconst (v := 2) hx hb dL_law_812 (by decide) ?_
  refine lv_iadd hx hb dL_law_813 ?_
  refine lv_topi (fun z21 ez21 => ?_)
  have iz21 : z21.toInt = i.toInt + 2 := zi_add ez21 rfl (show (2 : Int32).toInt = 2 from rfl) (by omega) (by omega)
  refine va_sld hx hb hX hbl hbA hS (vp_in_iff.mpr ⟨by omega, by omega⟩) dL_law_814 ?_
  refine lv_topi (fun y22 ey22 => ?_)
  obtain rfl : y22 = xs (9 * k + 2) := ey22.trans (congrArg xs (show z21.toInt.toNat = 9 * k + 2 by omega))
  refine tgk_13 hG hmo (fun y23 y24 y25 y26 y27 y28 y29 y30 y31 y32 y33 y34 y35 y36 y37 y38 y39 y40 y41 y42 y43 y44 y45 y46 y47 => ?_)
  refine tpk_13 hT hmo (fun o48_x0 o48_x1 o48_x7 o48_x9 o48_x10 o48_x11 o48_x12 o48_x13 o48_x14 o48_x15 o48_x16 o48_x17 o48_x18 o48_x19 o48_x20 o48_x22 o48_x25 o48_x28 o48_x29 o48_x32 o48_x33 o48_x34 o48_x35 o48_x36 o48_x37 o48_x38 o48_x47 o48_x48 hf_o48 ro48_0 ro48_1 ro48_2 ro48_3 ro48_4 ro48_5 ro48_6 ro48_7 ro48_8 ro48_9 ro48_10 ro48_11 ro48_12 ro48_13 ro48_14 => ?_)
  refine tpk_pos (tp_in hG hmo (by decide)) hf_o48 (fun q49 eq49 => ?_)
  have hFc := tp_fr hD hS hA
  have hRe_54 : R_18 = mo_R (mo_i (f16 (ρ mo 2))) := hRe.symm
  refine va_calli (va_runV (As := [.int (xs (9 * k + 1)), .int (xs (9 * k + 2))]) (rest := []) ⟨hx, hb, hml, hown, hts⟩ (t_X12_led l dC dI _ κ mo_n τ ν ρ L f16 hG hT mo (xs (9 * k + 1)) (xs (9 * k + 2)) hmo hJ) (cwV 2 hts gz_X12_led rfl rfl rfl ⟨rfl, pd_X12_led⟩ ⟨Nat.le_of_ble_eq_true rfl, Nat.le_of_ble_eq_true rfl⟩) ⟨pz_blind, va_recv hK hP (ci := 12) (q0 := q49) rfl eq49, pz_pre hP hK hD hN⟩ rfl rfl hl.1 rfl (lv_room (Nat.le_of_ble_eq_true rfl)) dL_law_815 ⟨by show _ ≤ 600000; omega, by show _ ≤ 7302249; omega⟩) hS (fun q _ h => hFc q h) hFc (fun r50 f52 t H1 locs ht hvm hw51 hB hz1 hk1 hS => ?_)
  refine tn_4 hw51 (fun hT1 hF53 hw51r hw51p => ?_); clear hw51
  obtain ⟨hw_t, hw_l⟩ := (tpg_12 hG hxo).1
  obtain ⟨-, -, -, -, -, -, ⟨ht13, -, hl13⟩, ⟨ht14, -, hl14⟩, ⟨ht15, -, -, hl15⟩, -, -, ⟨ht18, -, -, hl18⟩⟩ := tpg_11 hG hw_t
  have hJ : mo_RI (-1) 0 (mo_R (mo_i (f52 (ρ mo 2)))) := by rw [hF53 _ (by rw [hrow]; decide)]; exact hJ
  have hRn : R_18 = mo_R (mo_i (f52 (ρ mo 2))) := by rw [hF53 _ (by rw [hrow]; decide)]; exact hRe_54
  have hIM : mo_IM (mo_R (mo_i (f52 (ρ mo 3)))) := by rw [hF53 _ (by rw [hims]; decide)]; exact hIM
  have m0 : tp_fld (f52 (ρ xo 0)) 0 = R_18 (11) := ((congrArg (fun q => tp_fld q 0) (hF53 (ρ xo 0) (by rw [hw_t]; decide))).trans l0)
  have m1 : tp_fld (f52 (ρ xo 0)) 4 = R_18 (0) := ((congrArg (fun q => tp_fld q 4) (hF53 (ρ xo 0) (by rw [hw_t]; decide))).trans l1)
  have m2 : tp_fld (f52 (ρ xo 0)) 5 = R_18 (1) := ((congrArg (fun q => tp_fld q 5) (hF53 (ρ xo 0) (by rw [hw_t]; decide))).trans l2)
  have m3 : tp_fld (f52 (ρ (ρ xo 0) 13)) 3 = R_18 (3) := ((congrArg (fun q => tp_fld q 3) (hF53 (ρ (ρ xo 0) 13) (by rw [ht13]; decide))).trans l3)
  have m4 : tp_fld (f52 (ρ (ρ xo 0) 14)) 3 = R_18 (7) := ((congrArg (fun q => tp_fld q 3) (hF53 (ρ (ρ xo 0) 14) (by rw [ht14]; decide))).trans l4)
  have m5 : tp_fld (f52 (ρ (ρ xo 0) 15)) 2 = R_18 (6) := ((congrArg (fun q => tp_fld q 2) (hF53 (ρ (ρ xo 0) 15) (by rw [ht15]; decide))).trans l5)
  have m6 : tp_fld (f52 (ρ (ρ xo 0) 18)) 2 = R_18 (10) := ((congrArg (fun q => tp_fld q 2) (hF53 (ρ (ρ xo 0) 18) (by rw [ht18]; decide))).trans l6)
  have l0 := m0
  have l1 := m1
  have l2 := m2
  have l3 := m3
  have l4 := m4
  have l5 := m5
  have l6 := m6
  rw [hRn] at l0 l1 l2 l3 l4 l5 l6
  have hPm := lz_P.keep hG hT hxo (tp_X.of (E := fun _ => False) hF53 (by decide)) (fun n q9 => False.elim q9) (hF53 _ (by rw [(tpg_12 hG hxo).2.1]; decide)) (by rw [hF53 _ (by rw [hims]; decide)]) (by rw [hF53 _ (by rw [hkep]; decide)]) hPm
  have hT := hT1
  have hP := hB.1; rw [ht] at hP; have hD := tp_ad f52 hD; clear hB hFc hz1 hk1; subst ht; generalize t.heap = H at hP hS ⊢
  refine lv_pop hx hb dL_law_818 rfl ?_
  refine lv_goto (tgt := 1710) hx hb dL_law_819 (by decide) ?_
  refine tp_widen (cells + 110) (slots + 2634) (by omega) (by omega) ?_
  exact kk τ ν ρ L f52 _ _ _ ⟨hG, hT, hxo, hmo, hJ, hIM, ⟨l0, l1, l2, l3, l4, l5, l6⟩, hPm⟩ hP hD hS (lv_sub hl [0, 1, 2, 3] rfl)
set_option maxHeartbeats 8000000 in
set_option maxRecDepth 100000 in
theorem law_case_16 {p : Program} {l : Launch} {e : Env} {s : State} {m : MethodId} {below : List Frame} {meth : Method} {c : Code} {b N9 : Nat} {xs : Nat → Int32} {dC : Nat → ClassId} {dI : Nat → Nat → Nat} {κ : Nat → ClassId} {adK adV : Nat → Nat} {zv : Option Nat} {xo mo : Nat} {k cells slots : Nat} {i : Int32} (C0 : lw_At p s m meth c b N9 xs) (hN9 : N9 ≤ 4608) (hN : nz_ok s) (hZ : pw_Z adK adV zv (fun q : Nat => s.heap.size ≤ q) s s.heap) (hK : va_K (dC, dI) vwCl (tp_K κ) s) (hk : 9 * k + 9 ≤ N9) (hi : i.toInt = 9 * (k : Int)) (hc : cells + 110 ≤ 600000) (hs : slots + 2634 ≤ 7302249) (kk : ∀ (τ ν : Nat → Nat) (ρ : Nat → Nat → Nat) (L : List Nat) (f : Nat → va_E) (H : Heap) (locs : List Loc) (ls : Array Slot), lz_I κ xo mo τ ν ρ L f → va_P (dC, dI) vwCl (va_pl L f) H → va_D (fun q : Nat => s.heap.size ≤ q) (va_pl L f) → va_S (fun q : Nat => s.heap.size ≤ q) s.heap H locs → lv_has ls 4 [(0, .ref b), (1, .ref xo), (2, .ref mo), (3, .int i)] → W p l e room_1 s m #[Value.ref b] below meth c H locs (cells + 110) (slots + 2634) (lw_Z below #[Value.ref b] s) (F0 m 1710 ls [])) {τ ν : Nat → Nat} {ρ : Nat → Nat → Nat} {L : List Nat} {f : Nat → va_E} {H : Heap} {locs : List Loc} {ls : Array Slot}  (hI : lz_I κ xo mo τ ν ρ L f) (hP : va_P (dC, dI) vwCl (va_pl L f) H) (hD : va_D (fun q : Nat => s.heap.size ≤ q) (va_pl L f)) (hS : va_S (fun q : Nat => s.heap.size ≤ q) s.heap H locs) (hl : lv_has ls 4 [(0, .ref b), (1, .ref xo), (2, .ref mo), (3, .int i)]) : W p l e room_1 s m #[Value.ref b] below meth c H locs cells slots (lw_Z below #[Value.ref b] s) (F0 m 822 ls []) := by
  obtain ⟨hx, hb, hr, hml, hown, hts, hX, hbl, hlocks, hgv⟩ := id C0
  have hown : s.vm.findClass RL = some m.cls := hown
  have hA : ∀ q : Nat, s.heap.size ≤ q → (fun q : Nat => s.heap.size ≤ q) q := fun _ h => h
  have hbA : ¬ (fun q : Nat => s.heap.size ≤ q) b := Nat.not_le.mpr hbl
  obtain ⟨hG, hT, hxo, hmo, hJ, hIM, ⟨l0, l1, l2, l3, l4, l5, l6⟩, hPm⟩ := hI
  have hrow := (tpg_13 hG hmo).1; have hims := (tpg_13 hG hmo).2.1; have hkep := (tpg_13 hG hmo).2.2.1
  refine lv_aload_n hx hb dL_law_822 rfl (lv_at hl 1 rfl) ?_
  refine lv_aload_n hx hb dL_law_823 rfl (lv_at hl 0 rfl) ?_
  refine lv_iload_n hx hb dL_law_824 rfl (lv_at hl 3 rfl) ?_
  refine lv_iconst (v := 1) hx hb dL_law_825 (by decide) ?_
  refine lv_iadd hx hb dL_law_826 ?_
  refine lv_topi (fun z1 ez1 => ?_)
  have iz1 : z1.toInt = i.toInt + 1 := zi_add ez1 rfl (show (1 : Int32).toInt = 1 from rfl) (by omega) (by omega)
  refine va_sld hx hb hX hbl hbA hS (vp_in_iff.mpr ⟨by omega, by omega⟩) dL_law_827 ?_
  refine lv_topi (fun y2 ey2 => ?_)
  obtain rfl : y2 = xs (9 * k + 1) := ey2.trans (congrArg xs (show z1.toInt.toNat = 9 * k + 1 by omega))
  refine lv_aload_n hx hb dL_law_828 rfl (lv_at hl 0 rfl) ?_
  refine lv_iload_n hx hb dL_law_829 rfl (lv_at hl 3 rfl) ?_
  refine lv_iconst (v := 2) hx hb dL_law_830 (by decide) ?_
  refine lv_iadd hx hb dL_law_831 ?_
  refine lv_topi (fun z3 ez3 => ?_)
  have iz3 : z3.toInt = i.toInt + 2 := zi_add ez3 rfl (show (2 : Int32).toInt = 2 from rfl) (by omega) (by omega)
  refine va_sld hx hb hX hbl hbA hS (vp_in_iff.mpr ⟨by omega, by omega⟩) dL_law_832 ?_
  refine lv_topi (fun y4 ey4 => ?_)
  obtain rfl : y4 = xs (9 * k + 2) := ey4.trans (congrArg xs (show z3.toInt.toNat = 9 * k + 2 by omega))
  refine tgk_12 hG hxo (fun y5 y5l y6 y7 y8 y9 y10 y11a y11b y11c => ?_)
  refine tpk_12 hT hxo (fun o12_x6 hf_o12 => ?_)
  refine tpk_pos (tp_in hG hxo (by decide)) hf_o12 (fun q13 eq13 => ?_)
  have hFc := tp_fr hD hS hA
  obtain ⟨R_18, hRe_18⟩ : ∃ R, R = mo_R (mo_i (f (ρ mo 2))) := ⟨_, rfl⟩; rw [← hRe_18] at l0 l1 l2 l3 l4 l5 l6
  refine va_calli (va_runV (As := [.int (xs (9 * k + 1)), .int (xs (9 * k + 2))]) (rest := []) ⟨hx, hb, hml, hown, hts⟩ (t_X11_heat l dC dI _ (mo_O κ mo_n) κ τ ν ρ L f hG hT xo (xs (9 * k + 1)) (xs (9 * k + 2)) hxo) (cwV 2 hts gz_X11_heat rfl rfl rfl ⟨rfl, pd_X11_heat⟩ ⟨Nat.le_of_ble_eq_true rfl, Nat.le_of_ble_eq_true rfl⟩) ⟨pz_blind, va_recv hK hP (ci := 11) (q0 := q13) rfl eq13, pz_pre hP hK hD hN⟩ rfl rfl hl.1 rfl (lv_room (Nat.le_of_ble_eq_true rfl)) dL_law_833 ⟨by show _ ≤ 600000; omega, by show _ ≤ 7302249; omega⟩) hS (fun q _ h => hFc q h) hFc (fun r14 f16 t H1 locs ht hvm hw15 hB hz1 hk1 hS => ?_)
  refine tn_4 hw15 (fun hT1 hF17 hw15r hw15p => ?_); clear hw15
  obtain ⟨hw_t, hw_l⟩ := (tpg_12 hG hxo).1
  obtain ⟨-, -, -, -, -, -, ⟨ht13, -, hl13⟩, ⟨ht14, -, hl14⟩, ⟨ht15, -, -, hl15⟩, -, -, ⟨ht18, -, -, hl18⟩⟩ := tpg_11 hG hw_t
  have hJ : mo_RI (-1) 0 (mo_R (mo_i (f16 (ρ mo 2)))) := by rw [hF17 _ (by rw [hrow]; decide)]; exact hJ
  have hIM : mo_IM (mo_R (mo_i (f16 (ρ mo 3)))) := by rw [hF17 _ (by rw [hims]; decide)]; exact hIM
  have hXE : tp_X τ ρ (fun n => False) f f16 := tp_X.of hF17 (by decide)
  have m0 : tp_fld (f16 (ρ xo 0)) 0 = R_18 (11) := (congrArg (fun q => tp_fld q 0) (hXE (ρ xo 0) (Or.inr (Or.inr hw_t)) (fun q9 => q9))).trans l0
  have m1 : tp_fld (f16 (ρ xo 0)) 4 = R_18 (0) := (congrArg (fun q => tp_fld q 4) (hXE (ρ xo 0) (Or.inr (Or.inr hw_t)) (fun q9 => q9))).trans l1
  have m2 : tp_fld (f16 (ρ xo 0)) 5 = R_18 (1) := (congrArg (fun q => tp_fld q 5) (hXE (ρ xo 0) (Or.inr (Or.inr hw_t)) (fun q9 => q9))).trans l2
  have m3 : tp_fld (f16 (ρ (ρ xo 0) 13)) 3 = R_18 (3) := (congrArg (fun q => tp_fld q 3) (hXE (ρ (ρ xo 0) 13) (Or.inr (Or.inl ht13)) (fun q9 => q9))).trans l3
  have m4 : tp_fld (f16 (ρ (ρ xo 0) 14)) 3 = R_18 (7) := (congrArg (fun q => tp_fld q 3) (hXE (ρ (ρ xo 0) 14) (Or.inr (Or.inl ht14)) (fun q9 => q9))).trans l4
  have m5 : tp_fld (f16 (ρ (ρ xo 0) 15)) 2 = R_18 (6) := (congrArg (fun q => tp_fld q 2) (hXE (ρ (ρ xo 0) 15) (Or.inl ht15) (fun q9 => q9))).trans l5
  have m6 : tp_fld (f16 (ρ (ρ xo 0) 18)) 2 = R_18 (10) := (congrArg (fun q => tp_fld q 2) (hXE (ρ (ρ xo 0) 18) (Or.inl ht18) (fun q9 => q9))).trans l6
  have hPm := lz_P.keep hG hT hxo hXE (fun n q9 => by have q8 : False := q9; first | exact q8.elim | omega) (hF17 _ (by rw [(tpg_12 hG hxo).2.1]; decide)) (by rw [hF17 _ (by rw [hims]; decide)]) (by rw [hF17 _ (by rw [hkep]; decide)]) hPm
  have l0 := m0
  have l1 := m1
  have l2 := m2
  have l3 := m3
  have l4 := m4
  have l5 := m5
  have l6 := m6
  have hRe : mo_R (mo_i (f16 (ρ mo 2))) = R_18 := by rw [hF17 _ (by rw [hrow]; decide)]; exact hRe_18.symm
  have hT := hT1
  have hP := hB.1; rw [ht] at hP; have hD := tp_ad f16 hD; clear hB hFc hz1 hk1; subst ht; generalize t.heap = H at hP hS ⊢
  refine lv_pop hx hb dL_law_836 rfl ?_
  refine lv_aload_n hx hb dL_law_837 rfl (lv_at hl 2 rfl) ?_
  refine lv_aload_n hx hb dL_law_838 rfl (lv_at hl 0 rfl) ?_
  refine lv_iload_n hx hb dL_law_839 rfl (lv_at hl 3 rfl) ?_
  refine lv_iconst (v := 1) hx hb dL_law_840 (by decide) ?_
  refine lv_iadd hx hb dL_law_841 ?_
  refine lv_topi (fun z19 ez19 => ?_)
  have iz19 : z19.toInt = i.toInt + 1 := zi_add ez19 rfl (show (1 : Int32).toInt = 1 from rfl) (by omega) (by omega)
  refine va_sld hx hb hX hbl hbA hS (vp_in_iff.mpr ⟨by omega, by omega⟩) dL_law_842 ?_
  refine lv_topi (fun y20 ey20 => ?_)
  obtain rfl : y20 = xs (9 * k + 1) := ey20.trans (congrArg xs (show z19.toInt.toNat = 9 * k + 1 by omega))
  refine lv_aload_n hx hb dL_law_843 rfl (lv_at hl 0 rfl) ?_
  refine lv_iload_n hx hb dL_law_844 rfl (lv_at hl 3 rfl) ?_
  refine lv_iconst (v := 2) hx hb dL_law_845 (by decide) ?_
  refine lv_iadd hx hb dL_law_846 ?_
  refine lv_topi (fun z21 ez21 => ?_)
  have iz21 : z21.toInt = i.toInt + 2 := zi_add ez21 rfl (show (2 : Int32).toInt = 2 from rfl) (by omega) (by omega)
  refine va_sld hx hb hX hbl hbA hS (vp_in_iff.mpr ⟨by omega, by omega⟩) dL_law_847 ?_
  refine lv_topi (fun y22 ey22 => ?_)
  obtain rfl : y22 = xs (9 * k + 2) := ey22.trans (congrArg xs (show z21.toInt.toNat = 9 * k + 2 by omega))
  refine tgk_13 hG hmo (fun y23 y24 y25 y26 y27 y28 y29 y30 y31 y32 y33 y34 y35 y36 y37 y38 y39 y40 y41 y42 y43 y44 y45 y46 y47 => ?_)
  refine tpk_13 hT hmo (fun o48_x0 o48_x1 o48_x7 o48_x9 o48_x10 o48_x11 o48_x12 o48_x13 o48_x14 o48_x15 o48_x16 o48_x17 o48_x18 o48_x19 o48_x20 o48_x22 o48_x25 o48_x28 o48_x29 o48_x32 o48_x33 o48_x34 o48_x35 o48_x36 o48_x37 o48_x38 o48_x47 o48_x48 hf_o48 ro48_0 ro48_1 ro48_2 ro48_3 ro48_4 ro48_5 ro48_6 ro48_7 ro48_8 ro48_9 ro48_10 ro48_11 ro48_12 ro48_13 ro48_14 => ?_)
  refine tpk_pos (tp_in hG hmo (by decide)) hf_o48 (fun q49 eq49 => ?_)
  have hFc := tp_fr hD hS hA
  have hRe_54 : R_18 = mo_R (mo_i (f16 (ρ mo 2))) := hRe.symm
  refine va_calli (va_runV (As := [.int (xs (9 * k + 1)), .int (xs (9 * k + 2))]) (rest := []) ⟨hx, hb, hml, hown, hts⟩ (t_X12_heat l dC dI _ κ mo_n τ ν ρ L f16 hG hT mo (xs (9 * k + 1)) (xs (9 * k + 2)) hmo hJ) (cwV 2 hts gz_X12_heat rfl rfl rfl ⟨rfl, pd_X12_heat⟩ ⟨Nat.le_of_ble_eq_true rfl, Nat.le_of_ble_eq_true rfl⟩) ⟨pz_blind, va_recv hK hP (ci := 12) (q0 := q49) rfl eq49, pz_pre hP hK hD hN⟩ rfl rfl hl.1 rfl (lv_room (Nat.le_of_ble_eq_true rfl)) dL_law_848 ⟨by show _ ≤ 600000; omega, by show _ ≤ 7302249; omega⟩) hS (fun q _ h => hFc q h) hFc (fun r50 f52 t H1 locs ht hvm hw51 hB hz1 hk1 hS => ?_)
  refine tn_4 hw51 (fun hT1 hF53 hw51r hw51p => ?_); clear hw51
  obtain ⟨hw_t, hw_l⟩ := (tpg_12 hG hxo).1
  obtain ⟨-, -, -, -, -, -, ⟨ht13, -, hl13⟩, ⟨ht14, -, hl14⟩, ⟨ht15, -, -, hl15⟩, -, -, ⟨ht18, -, -, hl18⟩⟩ := tpg_11 hG hw_t
  obtain ⟨hJ, hw51pb⟩ := hw51p
  obtain ⟨Rn, hRn⟩ : ∃ R, R = mo_R (mo_i (f52 (ρ mo 2))) := ⟨_, rfl⟩
  rw [← hRn, ← hRe_54] at hw51pb
  have hKN := hw51pb
  have hIM : mo_IM (mo_R (mo_i (f52 (ρ mo 3)))) := by rw [hF53 _ (by rw [hims]; decide)]; exact hIM
  have m0 : tp_fld (f52 (ρ xo 0)) 0 = Rn (11) := ((congrArg (fun q => tp_fld q 0) (hF53 (ρ xo 0) (by rw [hw_t]; decide))).trans l0).trans (hKN (11) (by decide) (by decide) (fun q9 => by have q8 : False := q9; omega)).symm
  have m1 : tp_fld (f52 (ρ xo 0)) 4 = Rn (0) := ((congrArg (fun q => tp_fld q 4) (hF53 (ρ xo 0) (by rw [hw_t]; decide))).trans l1).trans (hKN (0) (by decide) (by decide) (fun q9 => by have q8 : False := q9; omega)).symm
  have m2 : tp_fld (f52 (ρ xo 0)) 5 = Rn (1) := ((congrArg (fun q => tp_fld q 5) (hF53 (ρ xo 0) (by rw [hw_t]; decide))).trans l2).trans (hKN (1) (by decide) (by decide) (fun q9 => by have q8 : False := q9; omega)).symm
  have m3 : tp_fld (f52 (ρ (ρ xo 0) 13)) 3 = Rn (3) := ((congrArg (fun q => tp_fld q 3) (hF53 (ρ (ρ xo 0) 13) (by rw [ht13]; decide))).trans l3).trans (hKN (3) (by decide) (by decide) (fun q9 => by have q8 : False := q9; omega)).symm
  have m4 : tp_fld (f52 (ρ (ρ xo 0) 14)) 3 = Rn (7) := ((congrArg (fun q => tp_fld q 3) (hF53 (ρ (ρ xo 0) 14) (by rw [ht14]; decide))).trans l4).trans (hKN (7) (by decide) (by decide) (fun q9 => by have q8 : False := q9; omega)).symm
  have m5 : tp_fld (f52 (ρ (ρ xo 0) 15)) 2 = Rn (6) := ((congrArg (fun q => tp_fld q 2) (hF53 (ρ (ρ xo 0) 15) (by rw [ht15]; decide))).trans l5).trans (hKN (6) (by decide) (by decide) (fun q9 => by have q8 : False := q9; omega)).symm
  have m6 : tp_fld (f52 (ρ (ρ xo 0) 18)) 2 = Rn (10) := ((congrArg (fun q => tp_fld q 2) (hF53 (ρ (ρ xo 0) 18) (by rw [ht18]; decide))).trans l6).trans (hKN (10) (by decide) (by decide) (fun q9 => by have q8 : False := q9; omega)).symm
  have l0 := m0
  have l1 := m1
  have l2 := m2
  have l3 := m3
  have l4 := m4
  have l5 := m5
  have l6 := m6
  rw [hRn] at l0 l1 l2 l3 l4 l5 l6
  have hPm := lz_P.keep hG hT hxo (tp_X.of (E := fun _ => False) hF53 (by decide)) (fun n q9 => False.elim q9) (hF53 _ (by rw [(tpg_12 hG hxo).2.1]; decide)) (by rw [hF53 _ (by rw [hims]; decide)]) (by rw [hF53 _ (by rw [hkep]; decide)]) hPm
  have hT := hT1
  have hP := hB.1; rw [ht] at hP; have hD := tp_ad f52 hD; clear hB hFc hz1 hk1; subst ht; generalize t.heap = H at hP hS ⊢
  refine lv_pop hx hb dL_law_851 rfl ?_
  refine lv_goto (tgt := 1710) hx hb dL_law_852 (by decide) ?_
  refine tp_widen (cells + 110) (slots + 2634) (by omega) (by omega) ?_
  exact kk τ ν ρ L f52 _ _ _ ⟨hG, hT, hxo, hmo, hJ, hIM, ⟨l0, l1, l2, l3, l4, l5, l6⟩, hPm⟩ hP hD hS (lv_sub hl [0, 1, 2, 3] rfl)
set_option maxHeartbeats 8000000 in
set_option maxRecDepth 100000 in
theorem law_case_17 {p : Program} {l : Launch} {e : Env} {s : State} {m : MethodId} {below : List Frame} {meth : Method} {c : Code} {b N9 : Nat} {xs : Nat → Int32} {dC : Nat → ClassId} {dI : Nat → Nat → Nat} {κ : Nat → ClassId} {adK adV : Nat → Nat} {zv : Option Nat} {xo mo : Nat} {k cells slots : Nat} {i : Int32} (C0 : lw_At p s m meth c b N9 xs) (hN9 : N9 ≤ 4608) (hN : nz_ok s) (hZ : pw_Z adK adV zv (fun q : Nat => s.heap.size ≤ q) s s.heap) (hK : va_K (dC, dI) vwCl (tp_K κ) s) (hk : 9 * k + 9 ≤ N9) (hi : i.toInt = 9 * (k : Int)) (hc : cells + 110 ≤ 600000) (hs : slots + 2634 ≤ 7302249) (kk : ∀ (τ ν : Nat → Nat) (ρ : Nat → Nat → Nat) (L : List Nat) (f : Nat → va_E) (H : Heap) (locs : List Loc) (ls : Array Slot), lz_I κ xo mo τ ν ρ L f → va_P (dC, dI) vwCl (va_pl L f) H → va_D (fun q : Nat => s.heap.size ≤ q) (va_pl L f) → va_S (fun q : Nat => s.heap.size ≤ q) s.heap H locs → lv_has ls 4 [(0, .ref b), (1, .ref xo), (2, .ref mo), (3, .int i)] → W p l e room_1 s m #[Value.ref b] below meth c H locs (cells + 110) (slots + 2634) (lw_Z below #[Value.ref b] s) (F0 m 1710 ls [])) {τ ν : Nat → Nat} {ρ : Nat → Nat → Nat} {L : List Nat} {f : Nat → va_E} {H : Heap} {locs : List Loc} {ls : Array Slot}  (hI : lz_I κ xo mo τ ν ρ L f) (hP : va_P (dC, dI) vwCl (va_pl L f) H) (hD : va_D (fun q : Nat => s.heap.size ≤ q) (va_pl L f)) (hS : va_S (fun q : Nat => s.heap.size ≤ q) s.heap H locs) (hl : lv_has ls 4 [(0, .ref b), (1, .ref xo), (2, .ref mo), (3, .int i)]) : W p l e room_1 s m #[Value.ref b] below meth c H locs cells slots (lw_Z below #[Value.ref b] s) (F0 m 855 ls []) := by
  obtain ⟨hx, hb, hr, hml, hown, hts, hX, hbl, hlocks, hgv⟩ := id C0
  have hown : s.vm.findClass RL = some m.cls := hown
  have hA : ∀ q : Nat, s.heap.size ≤ q → (fun q : Nat => s.heap.size ≤ q) q := fun _ h => h
  have hbA : ¬ (fun q : Nat => s.heap.size ≤ q) b := Nat.not_le.mpr hbl
  obtain ⟨hG, hT, hxo, hmo, hJ, hIM, ⟨l0, l1, l2, l3, l4, l5, l6⟩, hPm⟩ := hI
  have hrow := (tpg_13 hG hmo).1; have hims := (tpg_13 hG hmo).2.1; have hkep := (tpg_13 hG hmo).2.2.1
  refine lv_aload_n hx hb dL_law_855 rfl (lv_at hl 1 rfl) ?_
  refine lv_aload_n hx hb dL_law_856 rfl (lv_at hl 0 rfl) ?_
  refine lv_iload_n hx hb dL_law_857 rfl (lv_at hl 3 rfl) ?_
  refine lv_iconst (v := 1) hx hb dL_law_858 (by decide) ?_
  refine lv_iadd hx hb dL_law_859 ?_
  refine lv_topi (fun z1 ez1 => ?_)
  have iz1 : z1.toInt = i.toInt + 1 := zi_add ez1 rfl (show (1 : Int32).toInt = 1 from rfl) (by omega) (by omega)
  refine va_sld hx hb hX hbl hbA hS (vp_in_iff.mpr ⟨by omega, by omega⟩) dL_law_860 ?_
  refine lv_topi (fun y2 ey2 => ?_)
  obtain rfl : y2 = xs (9 * k + 1) := ey2.trans (congrArg xs (show z1.toInt.toNat = 9 * k + 1 by omega))
  refine lv_aload_n hx hb dL_law_861 rfl (lv_at hl 0 rfl) ?_
  refine lv_iload_n hx hb dL_law_862 rfl (lv_at hl 3 rfl) ?_
  refine lv_iconst (v := 2) hx hb dL_law_863 (by decide) ?_
  refine lv_iadd hx hb dL_law_864 ?_
  refine lv_topi (fun z3 ez3 => ?_)
  have iz3 : z3.toInt = i.toInt + 2 := zi_add ez3 rfl (show (2 : Int32).toInt = 2 from rfl) (by omega) (by omega)
  refine va_sld hx hb hX hbl hbA hS (vp_in_iff.mpr ⟨by omega, by omega⟩) dL_law_865 ?_
  refine lv_topi (fun y4 ey4 => ?_)
  obtain rfl : y4 = xs (9 * k + 2) := ey4.trans (congrArg xs (show z3.toInt.toNat = 9 * k + 2 by omega))
  refine lv_aload_n hx hb dL_law_866 rfl (lv_at hl 0 rfl) ?_
  refine lv_iload_n hx hb dL_law_867 rfl (lv_at hl 3 rfl) ?_
  refine lv_iconst (v := 3) hx hb dL_law_868 (by decide) ?_
  refine lv_iadd hx hb dL_law_869 ?_
  refine lv_topi (fun z5 ez5 => ?_)
  have iz5 : z5.toInt = i.toInt + 3 := zi_add ez5 rfl (show (3 : Int32).toInt = 3 from rfl) (by omega) (by omega)
  refine va_sld hx hb hX hbl hbA hS (vp_in_iff.mpr ⟨by omega, by omega⟩) dL_law_870 ?_
  refine lv_topi (fun y6 ey6 => ?_)
  obtain rfl : y6 = xs (9 * k + 3) := ey6.trans (congrArg xs (show z5.toInt.toNat = 9 * k + 3 by omega))
  refine tgk_12 hG hxo (fun y7 y7l y8 y9 y10 y11 y12 y13a y13b y13c => ?_)
  refine tpk_12 hT hxo (fun o14_x6 hf_o14 => ?_)
  refine tpk_pos (tp_in hG hxo (by decide)) hf_o14 (fun q15 eq15 => ?_)
  have hFc := tp_fr hD hS hA
  obtain ⟨R_20, hRe_20⟩ : ∃ R, R = mo_R (mo_i (f (ρ mo 2))) := ⟨_, rfl⟩; rw [← hRe_20] at l0 l1 l2 l3 l4 l5 l6
  refine va_calli (va_runV (As := [.int (xs (9 * k + 1)), .int (xs (9 * k + 2)), .int (xs (9 * k + 3))]) (rest := []) ⟨hx, hb, hml, hown, hts⟩ (t_X11_price l dC dI _ (mo_O κ mo_n) κ τ ν ρ L f hG hT xo (xs (9 * k + 1)) (xs (9 * k + 2)) (xs (9 * k + 3)) hxo) (cwV 3 hts gz_X11_price rfl rfl rfl ⟨rfl, pd_X11_price⟩ ⟨Nat.le_of_ble_eq_true rfl, Nat.le_of_ble_eq_true rfl⟩) ⟨pz_blind, va_recv hK hP (ci := 11) (q0 := q15) rfl eq15, pz_pre hP hK hD hN⟩ rfl rfl hl.1 rfl (lv_room (Nat.le_of_ble_eq_true rfl)) dL_law_871 ⟨by show _ ≤ 600000; omega, by show _ ≤ 7302249; omega⟩) hS (fun q _ h => hFc q h) hFc (fun r16 f18 t H1 locs ht hvm hw17 hB hz1 hk1 hS => ?_)
  refine tn_4 hw17 (fun hT1 hF19 hw17r hw17p => ?_); clear hw17
  obtain ⟨hw_t, hw_l⟩ := (tpg_12 hG hxo).1
  obtain ⟨-, -, -, -, -, -, ⟨ht13, -, hl13⟩, ⟨ht14, -, hl14⟩, ⟨ht15, -, -, hl15⟩, -, -, ⟨ht18, -, -, hl18⟩⟩ := tpg_11 hG hw_t
  have hJ : mo_RI (-1) 0 (mo_R (mo_i (f18 (ρ mo 2)))) := by rw [hF19 _ (by rw [hrow]; decide)]; exact hJ
  have hIM : mo_IM (mo_R (mo_i (f18 (ρ mo 3)))) := by rw [hF19 _ (by rw [hims]; decide)]; exact hIM
  obtain ⟨hXE, hw17pq⟩ := hw17p
  have it21 : (((¬ ((0 ≤ (xs (9 * k + 1)).toInt ∧ (xs (9 * k + 1)).toInt ≤ 99) ∧ (0 ≤ (xs (9 * k + 2)).toInt ∧ (xs (9 * k + 2)).toInt ≤ 10000) ∧ (0 ≤ (xs (9 * k + 3)).toInt ∧ (xs (9 * k + 3)).toInt ≤ 2399))) → r16.toInt = -1) ∧ (¬ (¬ ((0 ≤ (xs (9 * k + 1)).toInt ∧ (xs (9 * k + 1)).toInt ≤ 99) ∧ (0 ≤ (xs (9 * k + 2)).toInt ∧ (xs (9 * k + 2)).toInt ≤ 10000) ∧ (0 ≤ (xs (9 * k + 3)).toInt ∧ (xs (9 * k + 3)).toInt ≤ 2399))) → (((R_20 (6) = 60) → r16.toInt = -5) ∧ (¬ (R_20 (6) = 60) → r16.toInt = R_20 (6) + 1)))) := by have q9 := hw17pq.1; first | exact q9 | (simp only [l0, l1, l2, l3, l4, l5, l6] at q9; exact q9)
  have it22 : (((¬ ((0 ≤ (xs (9 * k + 1)).toInt ∧ (xs (9 * k + 1)).toInt ≤ 99) ∧ (0 ≤ (xs (9 * k + 2)).toInt ∧ (xs (9 * k + 2)).toInt ≤ 10000) ∧ (0 ≤ (xs (9 * k + 3)).toInt ∧ (xs (9 * k + 3)).toInt ≤ 2399))) → (tp_fld (f18 (ρ (ρ xo 0) 15)) 2) = R_20 (6)) ∧ (¬ (¬ ((0 ≤ (xs (9 * k + 1)).toInt ∧ (xs (9 * k + 1)).toInt ≤ 99) ∧ (0 ≤ (xs (9 * k + 2)).toInt ∧ (xs (9 * k + 2)).toInt ≤ 10000) ∧ (0 ≤ (xs (9 * k + 3)).toInt ∧ (xs (9 * k + 3)).toInt ≤ 2399))) → (((R_20 (6) = 60) → (tp_fld (f18 (ρ (ρ xo 0) 15)) 2) = R_20 (6)) ∧ (¬ (R_20 (6) = 60) → (tp_fld (f18 (ρ (ρ xo 0) 15)) 2) = R_20 (6) + 1)))) := by have q9 := hw17pq.2; first | exact q9 | (simp only [l0, l1, l2, l3, l4, l5, l6] at q9; exact q9)
  have m0 : tp_fld (f18 (ρ xo 0)) 0 = R_20 (11) := (congrArg (fun q => tp_fld q 0) (hXE (ρ xo 0) (Or.inr (Or.inr hw_t)) (fun q9 => by have q8 : (ρ (ρ xo 0) 30) = 15 := q9; omega))).trans l0
  have m1 : tp_fld (f18 (ρ xo 0)) 4 = R_20 (0) := (congrArg (fun q => tp_fld q 4) (hXE (ρ xo 0) (Or.inr (Or.inr hw_t)) (fun q9 => by have q8 : (ρ (ρ xo 0) 30) = 15 := q9; omega))).trans l1
  have m2 : tp_fld (f18 (ρ xo 0)) 5 = R_20 (1) := (congrArg (fun q => tp_fld q 5) (hXE (ρ xo 0) (Or.inr (Or.inr hw_t)) (fun q9 => by have q8 : (ρ (ρ xo 0) 30) = 15 := q9; omega))).trans l2
  have m3 : tp_fld (f18 (ρ (ρ xo 0) 13)) 3 = R_20 (3) := (congrArg (fun q => tp_fld q 3) (hXE (ρ (ρ xo 0) 13) (Or.inr (Or.inl ht13)) (fun q9 => by have q8 : (ρ (ρ (ρ xo 0) 13) 30) = 15 := q9; omega))).trans l3
  have m4 : tp_fld (f18 (ρ (ρ xo 0) 14)) 3 = R_20 (7) := (congrArg (fun q => tp_fld q 3) (hXE (ρ (ρ xo 0) 14) (Or.inr (Or.inl ht14)) (fun q9 => by have q8 : (ρ (ρ (ρ xo 0) 14) 30) = 15 := q9; omega))).trans l4
  have m6 : tp_fld (f18 (ρ (ρ xo 0) 18)) 2 = R_20 (10) := (congrArg (fun q => tp_fld q 2) (hXE (ρ (ρ xo 0) 18) (Or.inl ht18) (fun q9 => by have q8 : (ρ (ρ (ρ xo 0) 18) 30) = 15 := q9; omega))).trans l6
  have m5 := it22
  have hPm := lz_P.keep hG hT hxo hXE (fun n q9 => by have q8 : n = 15 := q9; first | exact q8.elim | omega) (hF19 _ (by rw [(tpg_12 hG hxo).2.1]; decide)) (by rw [hF19 _ (by rw [hims]; decide)]) (by rw [hF19 _ (by rw [hkep]; decide)]) hPm
  have l0 := m0
  have l1 := m1
  have l2 := m2
  have l3 := m3
  have l4 := m4
  have l5 := m5
  have l6 := m6
  have hRe : mo_R (mo_i (f18 (ρ mo 2))) = R_20 := by rw [hF19 _ (by rw [hrow]; decide)]; exact hRe_20.symm
  have hT := hT1
  have hP := hB.1; rw [ht] at hP; have hD := tp_ad f18 hD; clear hB hFc hz1 hk1; subst ht; generalize t.heap = H at hP hS ⊢
  refine lv_pop hx hb dL_law_874 rfl ?_
  refine lv_aload_n hx hb dL_law_875 rfl (lv_at hl 2 rfl) ?_
  refine lv_aload_n hx hb dL_law_876 rfl (lv_at hl 0 rfl) ?_
  refine lv_iload_n hx hb dL_law_877 rfl (lv_at hl 3 rfl) ?_
  refine lv_iconst (v := 1) hx hb dL_law_878 (by decide) ?_
  refine lv_iadd hx hb dL_law_879 ?_
  refine lv_topi (fun z23 ez23 => ?_)
  have iz23 : z23.toInt = i.toInt + 1 := zi_add ez23 rfl (show (1 : Int32).toInt = 1 from rfl) (by omega) (by omega)
  refine va_sld hx hb hX hbl hbA hS (vp_in_iff.mpr ⟨by omega, by omega⟩) dL_law_880 ?_
  refine lv_topi (fun y24 ey24 => ?_)
  obtain rfl : y24 = xs (9 * k + 1) := ey24.trans (congrArg xs (show z23.toInt.toNat = 9 * k + 1 by omega))
  refine lv_aload_n hx hb dL_law_881 rfl (lv_at hl 0 rfl) ?_
  refine lv_iload_n hx hb dL_law_882 rfl (lv_at hl 3 rfl) ?_
  refine lv_iconst (v := 2) hx hb dL_law_883 (by decide) ?_
  refine lv_iadd hx hb dL_law_884 ?_
  refine lv_topi (fun z25 ez25 => ?_)
  have iz25 : z25.toInt = i.toInt + 2 := zi_add ez25 rfl (show (2 : Int32).toInt = 2 from rfl) (by omega) (by omega)
  refine va_sld hx hb hX hbl hbA hS (vp_in_iff.mpr ⟨by omega, by omega⟩) dL_law_885 ?_
  refine lv_topi (fun y26 ey26 => ?_)
  obtain rfl : y26 = xs (9 * k + 2) := ey26.trans (congrArg xs (show z25.toInt.toNat = 9 * k + 2 by omega))
  refine lv_aload_n hx hb dL_law_886 rfl (lv_at hl 0 rfl) ?_
  refine lv_iload_n hx hb dL_law_887 rfl (lv_at hl 3 rfl) ?_
  refine lv_iconst (v := 3) hx hb dL_law_888 (by decide) ?_
  refine lv_iadd hx hb dL_law_889 ?_
  refine lv_topi (fun z27 ez27 => ?_)
  have iz27 : z27.toInt = i.toInt + 3 := zi_add ez27 rfl (show (3 : Int32).toInt = 3 from rfl) (by omega) (by omega)
  refine va_sld hx hb hX hbl hbA hS (vp_in_iff.mpr ⟨by omega, by omega⟩) dL_law_890 ?_
  refine lv_topi (fun y28 ey28 => ?_)
  obtain rfl : y28 = xs (9 * k + 3) := ey28.trans (congrArg xs (show z27.toInt.toNat = 9 * k + 3 by omega))
  refine tgk_13 hG hmo (fun y29 y30 y31 y32 y33 y34 y35 y36 y37 y38 y39 y40 y41 y42 y43 y44 y45 y46 y47 y48 y49 y50 y51 y52 y53 => ?_)
  refine tpk_13 hT hmo (fun o54_x0 o54_x1 o54_x7 o54_x9 o54_x10 o54_x11 o54_x12 o54_x13 o54_x14 o54_x15 o54_x16 o54_x17 o54_x18 o54_x19 o54_x20 o54_x22 o54_x25 o54_x28 o54_x29 o54_x32 o54_x33 o54_x34 o54_x35 o54_x36 o54_x37 o54_x38 o54_x47 o54_x48 hf_o54 ro54_0 ro54_1 ro54_2 ro54_3 ro54_4 ro54_5 ro54_6 ro54_7 ro54_8 ro54_9 ro54_10 ro54_11 ro54_12 ro54_13 ro54_14 => ?_)
  refine tpk_pos (tp_in hG hmo (by decide)) hf_o54 (fun q55 eq55 => ?_)
  have hFc := tp_fr hD hS hA
  have hRe_60 : R_20 = mo_R (mo_i (f18 (ρ mo 2))) := hRe.symm
  refine va_calli (va_runV (As := [.int (xs (9 * k + 1)), .int (xs (9 * k + 2)), .int (xs (9 * k + 3))]) (rest := []) ⟨hx, hb, hml, hown, hts⟩ (t_X12_price l dC dI _ κ mo_n τ ν ρ L f18 hG hT mo (xs (9 * k + 1)) (xs (9 * k + 2)) (xs (9 * k + 3)) hmo hJ) (cwV 3 hts gz_X12_price rfl rfl rfl ⟨rfl, pd_X12_price⟩ ⟨Nat.le_of_ble_eq_true rfl, Nat.le_of_ble_eq_true rfl⟩) ⟨pz_blind, va_recv hK hP (ci := 12) (q0 := q55) rfl eq55, pz_pre hP hK hD hN⟩ rfl rfl hl.1 rfl (lv_room (Nat.le_of_ble_eq_true rfl)) dL_law_891 ⟨by show _ ≤ 600000; omega, by show _ ≤ 7302249; omega⟩) hS (fun q _ h => hFc q h) hFc (fun r56 f58 t H1 locs ht hvm hw57 hB hz1 hk1 hS => ?_)
  refine tn_4 hw57 (fun hT1 hF59 hw57r hw57p => ?_); clear hw57
  obtain ⟨hw_t, hw_l⟩ := (tpg_12 hG hxo).1
  obtain ⟨-, -, -, -, -, -, ⟨ht13, -, hl13⟩, ⟨ht14, -, hl14⟩, ⟨ht15, -, -, hl15⟩, -, -, ⟨ht18, -, -, hl18⟩⟩ := tpg_11 hG hw_t
  obtain ⟨hJ, hw57pb⟩ := hw57p
  obtain ⟨Rn, hRn⟩ : ∃ R, R = mo_R (mo_i (f58 (ρ mo 2))) := ⟨_, rfl⟩
  rw [← hRn, ← hRe_60] at hw57pb
  obtain ⟨hKN, hw57pbk⟩ := hw57pb
  have hIM : mo_IM (mo_R (mo_i (f58 (ρ mo 3)))) := by rw [hF59 _ (by rw [hims]; decide)]; exact hIM
  obtain ⟨pa9, pc9⟩ := hw57pbk
  have m0 : tp_fld (f58 (ρ xo 0)) 0 = Rn (11) := ((congrArg (fun q => tp_fld q 0) (hF59 (ρ xo 0) (by rw [hw_t]; decide))).trans l0).trans (hKN (11) (by decide) (by decide) (fun q9 => by have q8 : (11 : Int) = 6 := q9; omega)).symm
  have m1 : tp_fld (f58 (ρ xo 0)) 4 = Rn (0) := ((congrArg (fun q => tp_fld q 4) (hF59 (ρ xo 0) (by rw [hw_t]; decide))).trans l1).trans (hKN (0) (by decide) (by decide) (fun q9 => by have q8 : (0 : Int) = 6 := q9; omega)).symm
  have m2 : tp_fld (f58 (ρ xo 0)) 5 = Rn (1) := ((congrArg (fun q => tp_fld q 5) (hF59 (ρ xo 0) (by rw [hw_t]; decide))).trans l2).trans (hKN (1) (by decide) (by decide) (fun q9 => by have q8 : (1 : Int) = 6 := q9; omega)).symm
  have m3 : tp_fld (f58 (ρ (ρ xo 0) 13)) 3 = Rn (3) := ((congrArg (fun q => tp_fld q 3) (hF59 (ρ (ρ xo 0) 13) (by rw [ht13]; decide))).trans l3).trans (hKN (3) (by decide) (by decide) (fun q9 => by have q8 : (3 : Int) = 6 := q9; omega)).symm
  have m4 : tp_fld (f58 (ρ (ρ xo 0) 14)) 3 = Rn (7) := ((congrArg (fun q => tp_fld q 3) (hF59 (ρ (ρ xo 0) 14) (by rw [ht14]; decide))).trans l4).trans (hKN (7) (by decide) (by decide) (fun q9 => by have q8 : (7 : Int) = 6 := q9; omega)).symm
  have m5 : tp_fld (f58 (ρ (ρ xo 0) 15)) 2 = Rn (6) := (congrArg (fun q => tp_fld q 2) (hF59 (ρ (ρ xo 0) 15) (by rw [ht15]; decide))).trans ((fun h1 h2 => tp_i h1 h2 (fun h1 h2 => tp_i h1 h2 (fun h1 h2 => h1.trans h2.symm))) l5 pc9)
  have m6 : tp_fld (f58 (ρ (ρ xo 0) 18)) 2 = Rn (10) := ((congrArg (fun q => tp_fld q 2) (hF59 (ρ (ρ xo 0) 18) (by rw [ht18]; decide))).trans l6).trans (hKN (10) (by decide) (by decide) (fun q9 => by have q8 : (10 : Int) = 6 := q9; omega)).symm
  have l0 := m0
  have l1 := m1
  have l2 := m2
  have l3 := m3
  have l4 := m4
  have l5 := m5
  have l6 := m6
  rw [hRn] at l0 l1 l2 l3 l4 l5 l6
  have hPm := lz_P.keep hG hT hxo (tp_X.of (E := fun _ => False) hF59 (by decide)) (fun n q9 => False.elim q9) (hF59 _ (by rw [(tpg_12 hG hxo).2.1]; decide)) (by rw [hF59 _ (by rw [hims]; decide)]) (by rw [hF59 _ (by rw [hkep]; decide)]) hPm
  have hT := hT1
  have hP := hB.1; rw [ht] at hP; have hD := tp_ad f58 hD; clear hB hFc hz1 hk1; subst ht; generalize t.heap = H at hP hS ⊢
  refine lv_pop hx hb dL_law_894 rfl ?_
  refine lv_goto (tgt := 1710) hx hb dL_law_895 (by decide) ?_
  refine tp_widen (cells + 110) (slots + 2634) (by omega) (by omega) ?_
  exact kk τ ν ρ L f58 _ _ _ ⟨hG, hT, hxo, hmo, hJ, hIM, ⟨l0, l1, l2, l3, l4, l5, l6⟩, hPm⟩ hP hD hS (lv_sub hl [0, 1, 2, 3] rfl)
set_option maxHeartbeats 8000000 in
set_option maxRecDepth 100000 in
theorem law_case_18 {p : Program} {l : Launch} {e : Env} {s : State} {m : MethodId} {below : List Frame} {meth : Method} {c : Code} {b N9 : Nat} {xs : Nat → Int32} {dC : Nat → ClassId} {dI : Nat → Nat → Nat} {κ : Nat → ClassId} {adK adV : Nat → Nat} {zv : Option Nat} {xo mo : Nat} {k cells slots : Nat} {i : Int32} (C0 : lw_At p s m meth c b N9 xs) (hN9 : N9 ≤ 4608) (hN : nz_ok s) (hZ : pw_Z adK adV zv (fun q : Nat => s.heap.size ≤ q) s s.heap) (hK : va_K (dC, dI) vwCl (tp_K κ) s) (hk : 9 * k + 9 ≤ N9) (hi : i.toInt = 9 * (k : Int)) (hc : cells + 110 ≤ 600000) (hs : slots + 2634 ≤ 7302249) (kk : ∀ (τ ν : Nat → Nat) (ρ : Nat → Nat → Nat) (L : List Nat) (f : Nat → va_E) (H : Heap) (locs : List Loc) (ls : Array Slot), lz_I κ xo mo τ ν ρ L f → va_P (dC, dI) vwCl (va_pl L f) H → va_D (fun q : Nat => s.heap.size ≤ q) (va_pl L f) → va_S (fun q : Nat => s.heap.size ≤ q) s.heap H locs → lv_has ls 4 [(0, .ref b), (1, .ref xo), (2, .ref mo), (3, .int i)] → W p l e room_1 s m #[Value.ref b] below meth c H locs (cells + 110) (slots + 2634) (lw_Z below #[Value.ref b] s) (F0 m 1710 ls [])) {τ ν : Nat → Nat} {ρ : Nat → Nat → Nat} {L : List Nat} {f : Nat → va_E} {H : Heap} {locs : List Loc} {ls : Array Slot}  (hI : lz_I κ xo mo τ ν ρ L f) (hP : va_P (dC, dI) vwCl (va_pl L f) H) (hD : va_D (fun q : Nat => s.heap.size ≤ q) (va_pl L f)) (hS : va_S (fun q : Nat => s.heap.size ≤ q) s.heap H locs) (hl : lv_has ls 4 [(0, .ref b), (1, .ref xo), (2, .ref mo), (3, .int i)]) : W p l e room_1 s m #[Value.ref b] below meth c H locs cells slots (lw_Z below #[Value.ref b] s) (F0 m 898 ls []) := by
  obtain ⟨hx, hb, hr, hml, hown, hts, hX, hbl, hlocks, hgv⟩ := id C0
  have hown : s.vm.findClass RL = some m.cls := hown
  have hA : ∀ q : Nat, s.heap.size ≤ q → (fun q : Nat => s.heap.size ≤ q) q := fun _ h => h
  have hbA : ¬ (fun q : Nat => s.heap.size ≤ q) b := Nat.not_le.mpr hbl
  obtain ⟨hG, hT, hxo, hmo, hJ, hIM, ⟨l0, l1, l2, l3, l4, l5, l6⟩, hPm⟩ := hI
  have hrow := (tpg_13 hG hmo).1; have hims := (tpg_13 hG hmo).2.1; have hkep := (tpg_13 hG hmo).2.2.1
  refine lv_aload_n hx hb dL_law_898 rfl (lv_at hl 1 rfl) ?_
  refine lv_aload_n hx hb dL_law_899 rfl (lv_at hl 0 rfl) ?_
  refine lv_iload_n hx hb dL_law_900 rfl (lv_at hl 3 rfl) ?_
  refine lv_iconst (v := 1) hx hb dL_law_901 (by decide) ?_
  refine lv_iadd hx hb dL_law_902 ?_
  refine lv_topi (fun z1 ez1 => ?_)
  have iz1 : z1.toInt = i.toInt + 1 := zi_add ez1 rfl (show (1 : Int32).toInt = 1 from rfl) (by omega) (by omega)
  refine va_sld hx hb hX hbl hbA hS (vp_in_iff.mpr ⟨by omega, by omega⟩) dL_law_903 ?_
  refine lv_topi (fun y2 ey2 => ?_)
  obtain rfl : y2 = xs (9 * k + 1) := ey2.trans (congrArg xs (show z1.toInt.toNat = 9 * k + 1 by omega))
  refine lv_aload_n hx hb dL_law_904 rfl (lv_at hl 0 rfl) ?_
  refine lv_iload_n hx hb dL_law_905 rfl (lv_at hl 3 rfl) ?_
  refine lv_iconst (v := 2) hx hb dL_law_906 (by decide) ?_
  refine lv_iadd hx hb dL_law_907 ?_
  refine lv_topi (fun z3 ez3 => ?_)
  have iz3 : z3.toInt = i.toInt + 2 := zi_add ez3 rfl (show (2 : Int32).toInt = 2 from rfl) (by omega) (by omega)
  refine va_sld hx hb hX hbl hbA hS (vp_in_iff.mpr ⟨by omega, by omega⟩) dL_law_908 ?_
  refine lv_topi (fun y4 ey4 => ?_)
  obtain rfl : y4 = xs (9 * k + 2) := ey4.trans (congrArg xs (show z3.toInt.toNat = 9 * k + 2 by omega))
  refine lv_aload_n hx hb dL_law_909 rfl (lv_at hl 0 rfl) ?_
  refine lv_iload_n hx hb dL_law_910 rfl (lv_at hl 3 rfl) ?_
  refine lv_iconst (v := 3) hx hb dL_law_911 (by decide) ?_
  refine lv_iadd hx hb dL_law_912 ?_
  refine lv_topi (fun z5 ez5 => ?_)
  have iz5 : z5.toInt = i.toInt + 3 := zi_add ez5 rfl (show (3 : Int32).toInt = 3 from rfl) (by omega) (by omega)
  refine va_sld hx hb hX hbl hbA hS (vp_in_iff.mpr ⟨by omega, by omega⟩) dL_law_913 ?_
  refine lv_topi (fun y6 ey6 => ?_)
  obtain rfl : y6 = xs (9 * k + 3) := ey6.trans (congrArg xs (show z5.toInt.toNat = 9 * k + 3 by omega))
  refine tgk_12 hG hxo (fun y7 y7l y8 y9 y10 y11 y12 y13a y13b y13c => ?_)
  refine tpk_12 hT hxo (fun o14_x6 hf_o14 => ?_)
  refine tpk_pos (tp_in hG hxo (by decide)) hf_o14 (fun q15 eq15 => ?_)
  have hFc := tp_fr hD hS hA
  obtain ⟨R_20, hRe_20⟩ : ∃ R, R = mo_R (mo_i (f (ρ mo 2))) := ⟨_, rfl⟩; rw [← hRe_20] at l0 l1 l2 l3 l4 l5 l6
  refine va_calli (va_runV (As := [.int (xs (9 * k + 1)), .int (xs (9 * k + 2)), .int (xs (9 * k + 3))]) (rest := []) ⟨hx, hb, hml, hown, hts⟩ (t_X11_force l dC dI _ (mo_O κ mo_n) κ τ ν ρ L f hG hT xo (xs (9 * k + 1)) (xs (9 * k + 2)) (xs (9 * k + 3)) hxo) (cwV 3 hts gz_X11_force rfl rfl rfl ⟨rfl, pd_X11_force⟩ ⟨Nat.le_of_ble_eq_true rfl, Nat.le_of_ble_eq_true rfl⟩) ⟨pz_blind, va_recv hK hP (ci := 11) (q0 := q15) rfl eq15, pz_pre hP hK hD hN⟩ rfl rfl hl.1 rfl (lv_room (Nat.le_of_ble_eq_true rfl)) dL_law_914 ⟨by show _ ≤ 600000; omega, by show _ ≤ 7302249; omega⟩) hS (fun q _ h => hFc q h) hFc (fun r16 f18 t H1 locs ht hvm hw17 hB hz1 hk1 hS => ?_)
  refine tn_4 hw17 (fun hT1 hF19 hw17r hw17p => ?_); clear hw17
  obtain ⟨hw_t, hw_l⟩ := (tpg_12 hG hxo).1
  obtain ⟨-, -, -, -, -, -, ⟨ht13, -, hl13⟩, ⟨ht14, -, hl14⟩, ⟨ht15, -, -, hl15⟩, -, -, ⟨ht18, -, -, hl18⟩⟩ := tpg_11 hG hw_t
  have hJ : mo_RI (-1) 0 (mo_R (mo_i (f18 (ρ mo 2)))) := by rw [hF19 _ (by rw [hrow]; decide)]; exact hJ
  have hIM : mo_IM (mo_R (mo_i (f18 (ρ mo 3)))) := by rw [hF19 _ (by rw [hims]; decide)]; exact hIM
  obtain ⟨hXE, hw17pq⟩ := hw17p
  have it21 : (((¬ (((0 ≤ (xs (9 * k + 1)).toInt ∧ (xs (9 * k + 1)).toInt ≤ 2399) ∧ (0 ≤ (xs (9 * k + 2)).toInt ∧ (xs (9 * k + 2)).toInt ≤ 2399) ∧ (xs (9 * k + 1)).toInt ≤ (xs (9 * k + 2)).toInt) ∧ (0 ≤ (xs (9 * k + 3)).toInt ∧ (xs (9 * k + 3)).toInt ≤ 2399))) → r16.toInt = -1) ∧ (¬ (¬ (((0 ≤ (xs (9 * k + 1)).toInt ∧ (xs (9 * k + 1)).toInt ≤ 2399) ∧ (0 ≤ (xs (9 * k + 2)).toInt ∧ (xs (9 * k + 2)).toInt ≤ 2399) ∧ (xs (9 * k + 1)).toInt ≤ (xs (9 * k + 2)).toInt) ∧ (0 ≤ (xs (9 * k + 3)).toInt ∧ (xs (9 * k + 3)).toInt ≤ 2399))) → (((R_20 (7) = 20) → r16.toInt = -5) ∧ (¬ (R_20 (7) = 20) → r16.toInt = R_20 (7) + 1)))) := by have q9 := hw17pq.1; first | exact q9 | (simp only [l0, l1, l2, l3, l4, l5, l6] at q9; exact q9)
  have it22 : (((¬ (((0 ≤ (xs (9 * k + 1)).toInt ∧ (xs (9 * k + 1)).toInt ≤ 2399) ∧ (0 ≤ (xs (9 * k + 2)).toInt ∧ (xs (9 * k + 2)).toInt ≤ 2399) ∧ (xs (9 * k + 1)).toInt ≤ (xs (9 * k + 2)).toInt) ∧ (0 ≤ (xs (9 * k + 3)).toInt ∧ (xs (9 * k + 3)).toInt ≤ 2399))) → (tp_fld (f18 (ρ (ρ xo 0) 14)) 3) = R_20 (7)) ∧ (¬ (¬ (((0 ≤ (xs (9 * k + 1)).toInt ∧ (xs (9 * k + 1)).toInt ≤ 2399) ∧ (0 ≤ (xs (9 * k + 2)).toInt ∧ (xs (9 * k + 2)).toInt ≤ 2399) ∧ (xs (9 * k + 1)).toInt ≤ (xs (9 * k + 2)).toInt) ∧ (0 ≤ (xs (9 * k + 3)).toInt ∧ (xs (9 * k + 3)).toInt ≤ 2399))) → (((R_20 (7) = 20) → (tp_fld (f18 (ρ (ρ xo 0) 14)) 3) = R_20 (7)) ∧ (¬ (R_20 (7) = 20) → (tp_fld (f18 (ρ (ρ xo 0) 14)) 3) = R_20 (7) + 1)))) := by have q9 := hw17pq.2; first | exact q9 | (simp only [l0, l1, l2, l3, l4, l5, l6] at q9; exact q9)
  have m0 : tp_fld (f18 (ρ xo 0)) 0 = R_20 (11) := (congrArg (fun q => tp_fld q 0) (hXE (ρ xo 0) (Or.inr (Or.inr hw_t)) (fun q9 => by have q8 : (ρ (ρ xo 0) 30) = 14 := q9; omega))).trans l0
  have m1 : tp_fld (f18 (ρ xo 0)) 4 = R_20 (0) := (congrArg (fun q => tp_fld q 4) (hXE (ρ xo 0) (Or.inr (Or.inr hw_t)) (fun q9 => by have q8 : (ρ (ρ xo 0) 30) = 14 := q9; omega))).trans l1
  have m2 : tp_fld (f18 (ρ xo 0)) 5 = R_20 (1) := (congrArg (fun q => tp_fld q 5) (hXE (ρ xo 0) (Or.inr (Or.inr hw_t)) (fun q9 => by have q8 : (ρ (ρ xo 0) 30) = 14 := q9; omega))).trans l2
  have m3 : tp_fld (f18 (ρ (ρ xo 0) 13)) 3 = R_20 (3) := (congrArg (fun q => tp_fld q 3) (hXE (ρ (ρ xo 0) 13) (Or.inr (Or.inl ht13)) (fun q9 => by have q8 : (ρ (ρ (ρ xo 0) 13) 30) = 14 := q9; omega))).trans l3
  have m5 : tp_fld (f18 (ρ (ρ xo 0) 15)) 2 = R_20 (6) := (congrArg (fun q => tp_fld q 2) (hXE (ρ (ρ xo 0) 15) (Or.inl ht15) (fun q9 => by have q8 : (ρ (ρ (ρ xo 0) 15) 30) = 14 := q9; omega))).trans l5
  have m6 : tp_fld (f18 (ρ (ρ xo 0) 18)) 2 = R_20 (10) := (congrArg (fun q => tp_fld q 2) (hXE (ρ (ρ xo 0) 18) (Or.inl ht18) (fun q9 => by have q8 : (ρ (ρ (ρ xo 0) 18) 30) = 14 := q9; omega))).trans l6
  have m4 := it22
  have hPm := lz_P.keep hG hT hxo hXE (fun n q9 => by have q8 : n = 14 := q9; first | exact q8.elim | omega) (hF19 _ (by rw [(tpg_12 hG hxo).2.1]; decide)) (by rw [hF19 _ (by rw [hims]; decide)]) (by rw [hF19 _ (by rw [hkep]; decide)]) hPm
  have l0 := m0
  have l1 := m1
  have l2 := m2
  have l3 := m3
  have l4 := m4
  have l5 := m5
  have l6 := m6
  have hRe : mo_R (mo_i (f18 (ρ mo 2))) = R_20 := by rw [hF19 _ (by rw [hrow]; decide)]; exact hRe_20.symm
  have hT := hT1
  have hP := hB.1; rw [ht] at hP; have hD := tp_ad f18 hD; clear hB hFc hz1 hk1; subst ht; generalize t.heap = H at hP hS ⊢
  refine lv_pop hx hb dL_law_917 rfl ?_
  refine lv_aload_n hx hb dL_law_918 rfl (lv_at hl 2 rfl) ?_
  refine lv_aload_n hx hb dL_law_919 rfl (lv_at hl 0 rfl) ?_
  refine lv_iload_n hx hb dL_law_920 rfl (lv_at hl 3 rfl) ?_
  refine lv_iconst (v := 1) hx hb dL_law_921 (by decide) ?_
  refine lv_iadd hx hb dL_law_922 ?_
  refine lv_topi (fun z23 ez23 => ?_)
  have iz23 : z23.toInt = i.toInt + 1 := zi_add ez23 rfl (show (1 : Int32).toInt = 1 from rfl) (by omega) (by omega)
  refine va_sld hx hb hX hbl hbA hS (vp_in_iff.mpr ⟨by omega, by omega⟩) dL_law_923 ?_
  refine lv_topi (fun y24 ey24 => ?_)
  obtain rfl : y24 = xs (9 * k + 1) := ey24.trans (congrArg xs (show z23.toInt.toNat = 9 * k + 1 by omega))
  refine lv_aload_n hx hb dL_law_924 rfl (lv_at hl 0 rfl) ?_
  refine lv_iload_n hx hb dL_law_925 rfl (lv_at hl 3 rfl) ?_
  refine lv_iconst (v := 2) hx hb dL_law_926 (by decide) ?_
  refine lv_iadd hx hb dL_law_927 ?_
  refine lv_topi (fun z25 ez25 => ?_)
  have iz25 : z25.toInt = i.toInt + 2 := zi_add ez25 rfl (show (2 : Int32).toInt = 2 from rfl) (by omega) (by omega)
  refine va_sld hx hb hX hbl hbA hS (vp_in_iff.mpr ⟨by omega, by omega⟩) dL_law_928 ?_
  refine lv_topi (fun y26 ey26 => ?_)
  obtain rfl : y26 = xs (9 * k + 2) := ey26.trans (congrArg xs (show z25.toInt.toNat = 9 * k + 2 by omega))
  refine lv_aload_n hx hb dL_law_929 rfl (lv_at hl 0 rfl) ?_
  refine lv_iload_n hx hb dL_law_930 rfl (lv_at hl 3 rfl) ?_
  refine lv_iconst (v := 3) hx hb dL_law_931 (by decide) ?_
  refine lv_iadd hx hb dL_law_932 ?_
  refine lv_topi (fun z27 ez27 => ?_)
  have iz27 : z27.toInt = i.toInt + 3 := zi_add ez27 rfl (show (3 : Int32).toInt = 3 from rfl) (by omega) (by omega)
  refine va_sld hx hb hX hbl hbA hS (vp_in_iff.mpr ⟨by omega, by omega⟩) dL_law_933 ?_
  refine lv_topi (fun y28 ey28 => ?_)
  obtain rfl : y28 = xs (9 * k + 3) := ey28.trans (congrArg xs (show z27.toInt.toNat = 9 * k + 3 by omega))
  refine tgk_13 hG hmo (fun y29 y30 y31 y32 y33 y34 y35 y36 y37 y38 y39 y40 y41 y42 y43 y44 y45 y46 y47 y48 y49 y50 y51 y52 y53 => ?_)
  refine tpk_13 hT hmo (fun o54_x0 o54_x1 o54_x7 o54_x9 o54_x10 o54_x11 o54_x12 o54_x13 o54_x14 o54_x15 o54_x16 o54_x17 o54_x18 o54_x19 o54_x20 o54_x22 o54_x25 o54_x28 o54_x29 o54_x32 o54_x33 o54_x34 o54_x35 o54_x36 o54_x37 o54_x38 o54_x47 o54_x48 hf_o54 ro54_0 ro54_1 ro54_2 ro54_3 ro54_4 ro54_5 ro54_6 ro54_7 ro54_8 ro54_9 ro54_10 ro54_11 ro54_12 ro54_13 ro54_14 => ?_)
  refine tpk_pos (tp_in hG hmo (by decide)) hf_o54 (fun q55 eq55 => ?_)
  have hFc := tp_fr hD hS hA
  have hRe_60 : R_20 = mo_R (mo_i (f18 (ρ mo 2))) := hRe.symm
  refine va_calli (va_runV (As := [.int (xs (9 * k + 1)), .int (xs (9 * k + 2)), .int (xs (9 * k + 3))]) (rest := []) ⟨hx, hb, hml, hown, hts⟩ (t_X12_force l dC dI _ κ mo_n τ ν ρ L f18 hG hT mo (xs (9 * k + 1)) (xs (9 * k + 2)) (xs (9 * k + 3)) hmo hJ) (cwV 3 hts gz_X12_force rfl rfl rfl ⟨rfl, pd_X12_force⟩ ⟨Nat.le_of_ble_eq_true rfl, Nat.le_of_ble_eq_true rfl⟩) ⟨pz_blind, va_recv hK hP (ci := 12) (q0 := q55) rfl eq55, pz_pre hP hK hD hN⟩ rfl rfl hl.1 rfl (lv_room (Nat.le_of_ble_eq_true rfl)) dL_law_934 ⟨by show _ ≤ 600000; omega, by show _ ≤ 7302249; omega⟩) hS (fun q _ h => hFc q h) hFc (fun r56 f58 t H1 locs ht hvm hw57 hB hz1 hk1 hS => ?_)
  refine tn_4 hw57 (fun hT1 hF59 hw57r hw57p => ?_); clear hw57
  obtain ⟨hw_t, hw_l⟩ := (tpg_12 hG hxo).1
  obtain ⟨-, -, -, -, -, -, ⟨ht13, -, hl13⟩, ⟨ht14, -, hl14⟩, ⟨ht15, -, -, hl15⟩, -, -, ⟨ht18, -, -, hl18⟩⟩ := tpg_11 hG hw_t
  obtain ⟨hJ, hw57pb⟩ := hw57p
  obtain ⟨Rn, hRn⟩ : ∃ R, R = mo_R (mo_i (f58 (ρ mo 2))) := ⟨_, rfl⟩
  rw [← hRn, ← hRe_60] at hw57pb
  obtain ⟨hKN, hw57pbk⟩ := hw57pb
  have hIM : mo_IM (mo_R (mo_i (f58 (ρ mo 3)))) := by rw [hF59 _ (by rw [hims]; decide)]; exact hIM
  obtain ⟨pa9, pc9⟩ := hw57pbk
  have m0 : tp_fld (f58 (ρ xo 0)) 0 = Rn (11) := ((congrArg (fun q => tp_fld q 0) (hF59 (ρ xo 0) (by rw [hw_t]; decide))).trans l0).trans (hKN (11) (by decide) (by decide) (fun q9 => by have q8 : (11 : Int) = 7 := q9; omega)).symm
  have m1 : tp_fld (f58 (ρ xo 0)) 4 = Rn (0) := ((congrArg (fun q => tp_fld q 4) (hF59 (ρ xo 0) (by rw [hw_t]; decide))).trans l1).trans (hKN (0) (by decide) (by decide) (fun q9 => by have q8 : (0 : Int) = 7 := q9; omega)).symm
  have m2 : tp_fld (f58 (ρ xo 0)) 5 = Rn (1) := ((congrArg (fun q => tp_fld q 5) (hF59 (ρ xo 0) (by rw [hw_t]; decide))).trans l2).trans (hKN (1) (by decide) (by decide) (fun q9 => by have q8 : (1 : Int) = 7 := q9; omega)).symm
  have m3 : tp_fld (f58 (ρ (ρ xo 0) 13)) 3 = Rn (3) := ((congrArg (fun q => tp_fld q 3) (hF59 (ρ (ρ xo 0) 13) (by rw [ht13]; decide))).trans l3).trans (hKN (3) (by decide) (by decide) (fun q9 => by have q8 : (3 : Int) = 7 := q9; omega)).symm
  have m4 : tp_fld (f58 (ρ (ρ xo 0) 14)) 3 = Rn (7) := (congrArg (fun q => tp_fld q 3) (hF59 (ρ (ρ xo 0) 14) (by rw [ht14]; decide))).trans ((fun h1 h2 => tp_i h1 h2 (fun h1 h2 => tp_i h1 h2 (fun h1 h2 => h1.trans h2.symm))) l4 pc9)
  have m5 : tp_fld (f58 (ρ (ρ xo 0) 15)) 2 = Rn (6) := ((congrArg (fun q => tp_fld q 2) (hF59 (ρ (ρ xo 0) 15) (by rw [ht15]; decide))).trans l5).trans (hKN (6) (by decide) (by decide) (fun q9 => by have q8 : (6 : Int) = 7 := q9; omega)).symm
  have m6 : tp_fld (f58 (ρ (ρ xo 0) 18)) 2 = Rn (10) := ((congrArg (fun q => tp_fld q 2) (hF59 (ρ (ρ xo 0) 18) (by rw [ht18]; decide))).trans l6).trans (hKN (10) (by decide) (by decide) (fun q9 => by have q8 : (10 : Int) = 7 := q9; omega)).symm
  have l0 := m0
  have l1 := m1
  have l2 := m2
  have l3 := m3
  have l4 := m4
  have l5 := m5
  have l6 := m6
  rw [hRn] at l0 l1 l2 l3 l4 l5 l6
  have hPm := lz_P.keep hG hT hxo (tp_X.of (E := fun _ => False) hF59 (by decide)) (fun n q9 => False.elim q9) (hF59 _ (by rw [(tpg_12 hG hxo).2.1]; decide)) (by rw [hF59 _ (by rw [hims]; decide)]) (by rw [hF59 _ (by rw [hkep]; decide)]) hPm
  have hT := hT1
  have hP := hB.1; rw [ht] at hP; have hD := tp_ad f58 hD; clear hB hFc hz1 hk1; subst ht; generalize t.heap = H at hP hS ⊢
  refine lv_pop hx hb dL_law_937 rfl ?_
  refine lv_goto (tgt := 1710) hx hb dL_law_938 (by decide) ?_
  refine tp_widen (cells + 110) (slots + 2634) (by omega) (by omega) ?_
  exact kk τ ν ρ L f58 _ _ _ ⟨hG, hT, hxo, hmo, hJ, hIM, ⟨l0, l1, l2, l3, l4, l5, l6⟩, hPm⟩ hP hD hS (lv_sub hl [0, 1, 2, 3] rfl)
end
section
set_option maxHeartbeats 8000000 in
set_option maxRecDepth 100000 in
theorem law_case_19 {p : Program} {l : Launch} {e : Env} {s : State} {m : MethodId} {below : List Frame} {meth : Method} {c : Code} {b N9 : Nat} {xs : Nat → Int32} {dC : Nat → ClassId} {dI : Nat → Nat → Nat} {κ : Nat → ClassId} {adK adV : Nat → Nat} {zv : Option Nat} {xo mo : Nat} {k cells slots : Nat} {i : Int32} (C0 : lw_At p s m meth c b N9 xs) (hN9 : N9 ≤ 4608) (hN : nz_ok s) (hZ : pw_Z adK adV zv (fun q : Nat => s.heap.size ≤ q) s s.heap) (hK : va_K (dC, dI) vwCl (tp_K κ) s) (hk : 9 * k + 9 ≤ N9) (hi : i.toInt = 9 * (k : Int)) (hc : cells + 110 ≤ 600000) (hs : slots + 2634 ≤ 7302249) (kk : ∀ (τ ν : Nat → Nat) (ρ : Nat → Nat → Nat) (L : List Nat) (f : Nat → va_E) (H : Heap) (locs : List Loc) (ls : Array Slot), lz_I κ xo mo τ ν ρ L f → va_P (dC, dI) vwCl (va_pl L f) H → va_D (fun q : Nat => s.heap.size ≤ q) (va_pl L f) → va_S (fun q : Nat => s.heap.size ≤ q) s.heap H locs → lv_has ls 4 [(0, .ref b), (1, .ref xo), (2, .ref mo), (3, .int i)] → W p l e room_1 s m #[Value.ref b] below meth c H locs (cells + 110) (slots + 2634) (lw_Z below #[Value.ref b] s) (F0 m 1710 ls [])) {τ ν : Nat → Nat} {ρ : Nat → Nat → Nat} {L : List Nat} {f : Nat → va_E} {H : Heap} {locs : List Loc} {ls : Array Slot}  (hI : lz_I κ xo mo τ ν ρ L f) (hP : va_P (dC, dI) vwCl (va_pl L f) H) (hD : va_D (fun q : Nat => s.heap.size ≤ q) (va_pl L f)) (hS : va_S (fun q : Nat => s.heap.size ≤ q) s.heap H locs) (hl : lv_has ls 4 [(0, .ref b), (1, .ref xo), (2, .ref mo), (3, .int i)]) : W p l e room_1 s m #[Value.ref b] below meth c H locs cells slots (lw_Z below #[Value.ref b] s) (F0 m 941 ls []) := by
  obtain ⟨hx, hb, hr, hml, hown, hts, hX, hbl, hlocks, hgv⟩ := id C0
  have hown : s.vm.findClass RL = some m.cls := hown
  have hA : ∀ q : Nat, s.heap.size ≤ q → (fun q : Nat => s.heap.size ≤ q) q := fun _ h => h
  have hbA : ¬ (fun q : Nat => s.heap.size ≤ q) b := Nat.not_le.mpr hbl
  obtain ⟨hG, hT, hxo, hmo, hJ, hIM, ⟨l0, l1, l2, l3, l4, l5, l6⟩, hPm⟩ := hI
  have hrow := (tpg_13 hG hmo).1; have hims := (tpg_13 hG hmo).2.1; have hkep := (tpg_13 hG hmo).2.2.1
  refine lv_aload_n hx hb dL_law_941 rfl (lv_at hl 1 rfl) ?_
  refine lv_aload_n hx hb dL_law_942 rfl (lv_at hl 0 rfl) ?_
  refine lv_iload_n hx hb dL_law_943 rfl (lv_at hl 3 rfl) ?_
  refine lv_iconst (v := 1) hx hb dL_law_944 (by decide) ?_
  refine lv_iadd hx hb dL_law_945 ?_
  refine lv_topi (fun z1 ez1 => ?_)
  have iz1 : z1.toInt = i.toInt + 1 := zi_add ez1 rfl (show (1 : Int32).toInt = 1 from rfl) (by omega) (by omega)
  refine va_sld hx hb hX hbl hbA hS (vp_in_iff.mpr ⟨by omega, by omega⟩) dL_law_946 ?_
  refine lv_topi (fun y2 ey2 => ?_)
  obtain rfl : y2 = xs (9 * k + 1) := ey2.trans (congrArg xs (show z1.toInt.toNat = 9 * k + 1 by omega))
  refine lv_aload_n hx hb dL_law_947 rfl (lv_at hl 0 rfl) ?_
  refine lv_iload_n hx hb dL_law_948 rfl (lv_at hl 3 rfl) ?_
  refine lv_iconst (v := 2) hx hb dL_law_949 (by decide) ?_
  refine lv_iadd hx hb dL_law_950 ?_
  refine lv_topi (fun z3 ez3 => ?_)
  have iz3 : z3.toInt = i.toInt + 2 := zi_add ez3 rfl (show (2 : Int32).toInt = 2 from rfl) (by omega) (by omega)
  refine va_sld hx hb hX hbl hbA hS (vp_in_iff.mpr ⟨by omega, by omega⟩) dL_law_951 ?_
  refine lv_topi (fun y4 ey4 => ?_)
  obtain rfl : y4 = xs (9 * k + 2) := ey4.trans (congrArg xs (show z3.toInt.toNat = 9 * k + 2 by omega))
  refine tgk_12 hG hxo (fun y5 y5l y6 y7 y8 y9 y10 y11a y11b y11c => ?_)
  refine tpk_12 hT hxo (fun o12_x6 hf_o12 => ?_)
  refine tpk_pos (tp_in hG hxo (by decide)) hf_o12 (fun q13 eq13 => ?_)
  have hFc := tp_fr hD hS hA
  obtain ⟨R_18, hRe_18⟩ : ∃ R, R = mo_R (mo_i (f (ρ mo 2))) := ⟨_, rfl⟩; rw [← hRe_18] at l0 l1 l2 l3 l4 l5 l6
  refine va_calli (va_runV (As := [.int (xs (9 * k + 1)), .int (xs (9 * k + 2))]) (rest := []) ⟨hx, hb, hml, hown, hts⟩ (t_X11_bill l dC dI _ (mo_O κ mo_n) κ τ ν ρ L f hG hT xo (xs (9 * k + 1)) (xs (9 * k + 2)) hxo) (cwV 2 hts gz_X11_bill rfl rfl rfl ⟨rfl, pd_X11_bill⟩ ⟨Nat.le_of_ble_eq_true rfl, Nat.le_of_ble_eq_true rfl⟩) ⟨pz_blind, va_recv hK hP (ci := 11) (q0 := q13) rfl eq13, pz_pre hP hK hD hN⟩ rfl rfl hl.1 rfl (lv_room (Nat.le_of_ble_eq_true rfl)) dL_law_952 ⟨by show _ ≤ 600000; omega, by show _ ≤ 7302249; omega⟩) hS (fun q _ h => hFc q h) hFc (fun r14 f16 t H1 locs ht hvm hw15 hB hz1 hk1 hS => ?_)
  refine tn_4 hw15 (fun hT1 hF17 hw15r hw15p => ?_); clear hw15
  obtain ⟨hw_t, hw_l⟩ := (tpg_12 hG hxo).1
  obtain ⟨-, -, -, -, -, -, ⟨ht13, -, hl13⟩, ⟨ht14, -, hl14⟩, ⟨ht15, -, -, hl15⟩, -, -, ⟨ht18, -, -, hl18⟩⟩ := tpg_11 hG hw_t
  have hJ : mo_RI (-1) 0 (mo_R (mo_i (f16 (ρ mo 2)))) := by rw [hF17 _ (by rw [hrow]; decide)]; exact hJ
  have hIM : mo_IM (mo_R (mo_i (f16 (ρ mo 3)))) := by rw [hF17 _ (by rw [hims]; decide)]; exact hIM
  have hXE : tp_X τ ρ (fun n => False) f f16 := tp_X.of hF17 (by decide)
  have m0 : tp_fld (f16 (ρ xo 0)) 0 = R_18 (11) := (congrArg (fun q => tp_fld q 0) (hXE (ρ xo 0) (Or.inr (Or.inr hw_t)) (fun q9 => q9))).trans l0
  have m1 : tp_fld (f16 (ρ xo 0)) 4 = R_18 (0) := (congrArg (fun q => tp_fld q 4) (hXE (ρ xo 0) (Or.inr (Or.inr hw_t)) (fun q9 => q9))).trans l1
  have m2 : tp_fld (f16 (ρ xo 0)) 5 = R_18 (1) := (congrArg (fun q => tp_fld q 5) (hXE (ρ xo 0) (Or.inr (Or.inr hw_t)) (fun q9 => q9))).trans l2
  have m3 : tp_fld (f16 (ρ (ρ xo 0) 13)) 3 = R_18 (3) := (congrArg (fun q => tp_fld q 3) (hXE (ρ (ρ xo 0) 13) (Or.inr (Or.inl ht13)) (fun q9 => q9))).trans l3
  have m4 : tp_fld (f16 (ρ (ρ xo 0) 14)) 3 = R_18 (7) := (congrArg (fun q => tp_fld q 3) (hXE (ρ (ρ xo 0) 14) (Or.inr (Or.inl ht14)) (fun q9 => q9))).trans l4
  have m5 : tp_fld (f16 (ρ (ρ xo 0) 15)) 2 = R_18 (6) := (congrArg (fun q => tp_fld q 2) (hXE (ρ (ρ xo 0) 15) (Or.inl ht15) (fun q9 => q9))).trans l5
  have m6 : tp_fld (f16 (ρ (ρ xo 0) 18)) 2 = R_18 (10) := (congrArg (fun q => tp_fld q 2) (hXE (ρ (ρ xo 0) 18) (Or.inl ht18) (fun q9 => q9))).trans l6
  have hPm := lz_P.keep hG hT hxo hXE (fun n q9 => by have q8 : False := q9; first | exact q8.elim | omega) (hF17 _ (by rw [(tpg_12 hG hxo).2.1]; decide)) (by rw [hF17 _ (by rw [hims]; decide)]) (by rw [hF17 _ (by rw [hkep]; decide)]) hPm
  have l0 := m0
  have l1 := m1
  have l2 := m2
  have l3 := m3
  have l4 := m4
  have l5 := m5
  have l6 := m6
  have hRe : mo_R (mo_i (f16 (ρ mo 2))) = R_18 := by rw [hF17 _ (by rw [hrow]; decide)]; exact hRe_18.symm
  have hT := hT1
  have hP := hB.1; rw [ht] at hP; have hD := tp_ad f16 hD; clear hB hFc hz1 hk1; subst ht; generalize t.heap = H at hP hS ⊢
  refine lv_pop hx hb dL_law_955 rfl ?_
  refine lv_aload_n hx hb dL_law_956 rfl (lv_at hl 2 rfl) ?_
  refine lv_aload_n hx hb dL_law_957 rfl (lv_at hl 0 rfl) ?_
  refine lv_iload_n hx hb dL_law_958 rfl (lv_at hl 3 rfl) ?_
  refine lv_iconst (v := 1) hx hb dL_law_959 (by decide) ?_
  refine lv_iadd hx hb dL_law_960 ?_
  refine lv_topi (fun z19 ez19 => ?_)
  have iz19 : z19.toInt = i.toInt + 1 := zi_add ez19 rfl (show (1 : Int32).toInt = 1 from rfl) (by omega) (by omega)
  refine va_sld hx hb hX hbl hbA hS (vp_in_iff.mpr ⟨by omega, by omega⟩) dL_law_961 ?_
  refine lv_topi (fun y20 ey20 => ?_)
  obtain rfl : y20 = xs (9 * k + 1) := ey20.trans (congrArg xs (show z19.toInt.toNat = 9 * k + 1 by omega))
  refine lv_aload_n hx hb dL_law_962 rfl (lv_at hl 0 rfl) ?_
  refine lv_iload_n hx hb dL_law_963 rfl (lv_at hl 3 rfl) ?_
  refine lv_iconst (v := 2) hx hb dL_law_964 (by decide) ?_
  refine lv_iadd hx hb dL_law_965 ?_
  refine lv_topi (fun z21 ez21 => ?_)
  have iz21 : z21.toInt = i.toInt + 2 := zi_add ez21 rfl (show (2 : Int32).toInt = 2 from rfl) (by omega) (by omega)
  refine va_sld hx hb hX hbl hbA hS (vp_in_iff.mpr ⟨by omega, by omega⟩) dL_law_966 ?_
  refine lv_topi (fun y22 ey22 => ?_)
  obtain rfl : y22 = xs (9 * k + 2) := ey22.trans (congrArg xs (show z21.toInt.toNat = 9 * k + 2 by omega))
  refine tgk_13 hG hmo (fun y23 y24 y25 y26 y27 y28 y29 y30 y31 y32 y33 y34 y35 y36 y37 y38 y39 y40 y41 y42 y43 y44 y45 y46 y47 => ?_)
  refine tpk_13 hT hmo (fun o48_x0 o48_x1 o48_x7 o48_x9 o48_x10 o48_x11 o48_x12 o48_x13 o48_x14 o48_x15 o48_x16 o48_x17 o48_x18 o48_x19 o48_x20 o48_x22 o48_x25 o48_x28 o48_x29 o48_x32 o48_x33 o48_x34 o48_x35 o48_x36 o48_x37 o48_x38 o48_x47 o48_x48 hf_o48 ro48_0 ro48_1 ro48_2 ro48_3 ro48_4 ro48_5 ro48_6 ro48_7 ro48_8 ro48_9 ro48_10 ro48_11 ro48_12 ro48_13 ro48_14 => ?_)
  refine tpk_pos (tp_in hG hmo (by decide)) hf_o48 (fun q49 eq49 => ?_)
  have hFc := tp_fr hD hS hA
  have hRe_54 : R_18 = mo_R (mo_i (f16 (ρ mo 2))) := hRe.symm
  refine va_calli (va_runV (As := [.int (xs (9 * k + 1)), .int (xs (9 * k + 2))]) (rest := []) ⟨hx, hb, hml, hown, hts⟩ (t_X12_bill l dC dI _ κ mo_n τ ν ρ L f16 hG hT mo (xs (9 * k + 1)) (xs (9 * k + 2)) hmo hJ) (cwV 2 hts gz_X12_bill rfl rfl rfl ⟨rfl, pd_X12_bill⟩ ⟨Nat.le_of_ble_eq_true rfl, Nat.le_of_ble_eq_true rfl⟩) ⟨pz_blind, va_recv hK hP (ci := 12) (q0 := q49) rfl eq49, pz_pre hP hK hD hN⟩ rfl rfl hl.1 rfl (lv_room (Nat.le_of_ble_eq_true rfl)) dL_law_967 ⟨by show _ ≤ 600000; omega, by show _ ≤ 7302249; omega⟩) hS (fun q _ h => hFc q h) hFc (fun r50 f52 t H1 locs ht hvm hw51 hB hz1 hk1 hS => ?_)
  refine tn_4 hw51 (fun hT1 hF53 hw51r hw51p => ?_); clear hw51
  obtain ⟨hw_t, hw_l⟩ := (tpg_12 hG hxo).1
  obtain ⟨-, -, -, -, -, -, ⟨ht13, -, hl13⟩, ⟨ht14, -, hl14⟩, ⟨ht15, -, -, hl15⟩, -, -, ⟨ht18, -, -, hl18⟩⟩ := tpg_11 hG hw_t
  obtain ⟨hJ, hw51pb⟩ := hw51p
  obtain ⟨Rn, hRn⟩ : ∃ R, R = mo_R (mo_i (f52 (ρ mo 2))) := ⟨_, rfl⟩
  rw [← hRn, ← hRe_54] at hw51pb
  have hKN := hw51pb
  have hIM : mo_IM (mo_R (mo_i (f52 (ρ mo 3)))) := by rw [hF53 _ (by rw [hims]; decide)]; exact hIM
  have m0 : tp_fld (f52 (ρ xo 0)) 0 = Rn (11) := ((congrArg (fun q => tp_fld q 0) (hF53 (ρ xo 0) (by rw [hw_t]; decide))).trans l0).trans (hKN (11) (by decide) (by decide) (fun q9 => by have q8 : False := q9; omega)).symm
  have m1 : tp_fld (f52 (ρ xo 0)) 4 = Rn (0) := ((congrArg (fun q => tp_fld q 4) (hF53 (ρ xo 0) (by rw [hw_t]; decide))).trans l1).trans (hKN (0) (by decide) (by decide) (fun q9 => by have q8 : False := q9; omega)).symm
  have m2 : tp_fld (f52 (ρ xo 0)) 5 = Rn (1) := ((congrArg (fun q => tp_fld q 5) (hF53 (ρ xo 0) (by rw [hw_t]; decide))).trans l2).trans (hKN (1) (by decide) (by decide) (fun q9 => by have q8 : False := q9; omega)).symm
  have m3 : tp_fld (f52 (ρ (ρ xo 0) 13)) 3 = Rn (3) := ((congrArg (fun q => tp_fld q 3) (hF53 (ρ (ρ xo 0) 13) (by rw [ht13]; decide))).trans l3).trans (hKN (3) (by decide) (by decide) (fun q9 => by have q8 : False := q9; omega)).symm
  have m4 : tp_fld (f52 (ρ (ρ xo 0) 14)) 3 = Rn (7) := ((congrArg (fun q => tp_fld q 3) (hF53 (ρ (ρ xo 0) 14) (by rw [ht14]; decide))).trans l4).trans (hKN (7) (by decide) (by decide) (fun q9 => by have q8 : False := q9; omega)).symm
  have m5 : tp_fld (f52 (ρ (ρ xo 0) 15)) 2 = Rn (6) := ((congrArg (fun q => tp_fld q 2) (hF53 (ρ (ρ xo 0) 15) (by rw [ht15]; decide))).trans l5).trans (hKN (6) (by decide) (by decide) (fun q9 => by have q8 : False := q9; omega)).symm
  have m6 : tp_fld (f52 (ρ (ρ xo 0) 18)) 2 = Rn (10) := ((congrArg (fun q => tp_fld q 2) (hF53 (ρ (ρ xo 0) 18) (by rw [ht18]; decide))).trans l6).trans (hKN (10) (by decide) (by decide) (fun q9 => by have q8 : False := q9; omega)).symm
  have l0 := m0
  have l1 := m1
  have l2 := m2
  have l3 := m3
  have l4 := m4
  have l5 := m5
  have l6 := m6
  rw [hRn] at l0 l1 l2 l3 l4 l5 l6
  have hPm := lz_P.keep hG hT hxo (tp_X.of (E := fun _ => False) hF53 (by decide)) (fun n q9 => False.elim q9) (hF53 _ (by rw [(tpg_12 hG hxo).2.1]; decide)) (by rw [hF53 _ (by rw [hims]; decide)]) (by rw [hF53 _ (by rw [hkep]; decide)]) hPm
  have hT := hT1
  have hP := hB.1; rw [ht] at hP; have hD := tp_ad f52 hD; clear hB hFc hz1 hk1; subst ht; generalize t.heap = H at hP hS ⊢
  refine lv_pop hx hb dL_law_970 rfl ?_
  refine lv_goto (tgt := 1710) hx hb dL_law_971 (by decide) ?_
  refine tp_widen (cells + 110) (slots + 2634) (by omega) (by omega) ?_
  exact kk τ ν ρ L f52 _ _ _ ⟨hG, hT, hxo, hmo, hJ, hIM, ⟨l0, l1, l2, l3, l4, l5, l6⟩, hPm⟩ hP hD hS (lv_sub hl [0, 1, 2, 3] rfl)
set_option maxHeartbeats 8000000 in
set_option maxRecDepth 100000 in
theorem law_case_20 {p : Program} {l : Launch} {e : Env} {s : State} {m : MethodId} {below : List Frame} {meth : Method} {c : Code} {b N9 : Nat} {xs : Nat → Int32} {dC : Nat → ClassId} {dI : Nat → Nat → Nat} {κ : Nat → ClassId} {adK adV : Nat → Nat} {zv : Option Nat} {xo mo : Nat} {k cells slots : Nat} {i : Int32} (C0 : lw_At p s m meth c b N9 xs) (hN9 : N9 ≤ 4608) (hN : nz_ok s) (hZ : pw_Z adK adV zv (fun q : Nat => s.heap.size ≤ q) s s.heap) (hK : va_K (dC, dI) vwCl (tp_K κ) s) (hk : 9 * k + 9 ≤ N9) (hi : i.toInt = 9 * (k : Int)) (hc : cells + 110 ≤ 600000) (hs : slots + 2634 ≤ 7302249) (kk : ∀ (τ ν : Nat → Nat) (ρ : Nat → Nat → Nat) (L : List Nat) (f : Nat → va_E) (H : Heap) (locs : List Loc) (ls : Array Slot), lz_I κ xo mo τ ν ρ L f → va_P (dC, dI) vwCl (va_pl L f) H → va_D (fun q : Nat => s.heap.size ≤ q) (va_pl L f) → va_S (fun q : Nat => s.heap.size ≤ q) s.heap H locs → lv_has ls 4 [(0, .ref b), (1, .ref xo), (2, .ref mo), (3, .int i)] → W p l e room_1 s m #[Value.ref b] below meth c H locs (cells + 110) (slots + 2634) (lw_Z below #[Value.ref b] s) (F0 m 1710 ls [])) {τ ν : Nat → Nat} {ρ : Nat → Nat → Nat} {L : List Nat} {f : Nat → va_E} {H : Heap} {locs : List Loc} {ls : Array Slot}  (hI : lz_I κ xo mo τ ν ρ L f) (hP : va_P (dC, dI) vwCl (va_pl L f) H) (hD : va_D (fun q : Nat => s.heap.size ≤ q) (va_pl L f)) (hS : va_S (fun q : Nat => s.heap.size ≤ q) s.heap H locs) (hl : lv_has ls 4 [(0, .ref b), (1, .ref xo), (2, .ref mo), (3, .int i)]) : W p l e room_1 s m #[Value.ref b] below meth c H locs cells slots (lw_Z below #[Value.ref b] s) (F0 m 974 ls []) := by
  obtain ⟨hx, hb, hr, hml, hown, hts, hX, hbl, hlocks, hgv⟩ := id C0
  have hown : s.vm.findClass RL = some m.cls := hown
  have hA : ∀ q : Nat, s.heap.size ≤ q → (fun q : Nat => s.heap.size ≤ q) q := fun _ h => h
  have hbA : ¬ (fun q : Nat => s.heap.size ≤ q) b := Nat.not_le.mpr hbl
  obtain ⟨hG, hT, hxo, hmo, hJ, hIM, ⟨l0, l1, l2, l3, l4, l5, l6⟩, hPm⟩ := hI
  have hrow := (tpg_13 hG hmo).1; have hims := (tpg_13 hG hmo).2.1; have hkep := (tpg_13 hG hmo).2.2.1
  refine lv_aload_n hx hb dL_law_974 rfl (lv_at hl 1 rfl) ?_
  refine lv_aload_n hx hb dL_law_975 rfl (lv_at hl 0 rfl) ?_
  refine lv_iload_n hx hb dL_law_976 rfl (lv_at hl 3 rfl) ?_
  refine lv_iconst (v := 1) hx hb dL_law_977 (by decide) ?_
  refine lv_iadd hx hb dL_law_978 ?_
  refine lv_topi (fun z1 ez1 => ?_)
  have iz1 : z1.toInt = i.toInt + 1 := zi_add ez1 rfl (show (1 : Int32).toInt = 1 from rfl) (by omega) (by omega)
  refine va_sld hx hb hX hbl hbA hS (vp_in_iff.mpr ⟨by omega, by omega⟩) dL_law_979 ?_
  refine lv_topi (fun y2 ey2 => ?_)
  obtain rfl : y2 = xs (9 * k + 1) := ey2.trans (congrArg xs (show z1.toInt.toNat = 9 * k + 1 by omega))
  refine lv_aload_n hx hb dL_law_980 rfl (lv_at hl 0 rfl) ?_
  refine lv_iload_n hx hb dL_law_981 rfl (lv_at hl 3 rfl) ?_
  refine lv_iconst (v := 2) hx hb dL_law_982 (by decide) ?_
  refine lv_iadd hx hb dL_law_983 ?_
  refine lv_topi (fun z3 ez3 => ?_)
  have iz3 : z3.toInt = i.toInt + 2 := zi_add ez3 rfl (show (2 : Int32).toInt = 2 from rfl) (by omega) (by omega)
  refine va_sld hx hb hX hbl hbA hS (vp_in_iff.mpr ⟨by omega, by omega⟩) dL_law_984 ?_
  refine lv_topi (fun y4 ey4 => ?_)
  obtain rfl : y4 = xs (9 * k + 2) := ey4.trans (congrArg xs (show z3.toInt.toNat = 9 * k + 2 by omega))
  refine lv_aload_n hx hb dL_law_985 rfl (lv_at hl 0 rfl) ?_
  refine lv_iload_n hx hb dL_law_986 rfl (lv_at hl 3 rfl) ?_
  refine lv_iconst (v := 3) hx hb dL_law_987 (by decide) ?_
  refine lv_iadd hx hb dL_law_988 ?_
  refine lv_topi (fun z5 ez5 => ?_)
  have iz5 : z5.toInt = i.toInt + 3 := zi_add ez5 rfl (show (3 : Int32).toInt = 3 from rfl) (by omega) (by omega)
  refine va_sld hx hb hX hbl hbA hS (vp_in_iff.mpr ⟨by omega, by omega⟩) dL_law_989 ?_
  refine lv_topi (fun y6 ey6 => ?_)
  obtain rfl : y6 = xs (9 * k + 3) := ey6.trans (congrArg xs (show z5.toInt.toNat = 9 * k + 3 by omega))
  refine lv_aload_n hx hb dL_law_990 rfl (lv_at hl 0 rfl) ?_
  refine lv_iload_n hx hb dL_law_991 rfl (lv_at hl 3 rfl) ?_
  refine lv_iconst (v := 4) hx hb dL_law_992 (by decide) ?_
  refine lv_iadd hx hb dL_law_993 ?_
  refine lv_topi (fun z7 ez7 => ?_)
  have iz7 : z7.toInt = i.toInt + 4 := zi_add ez7 rfl (show (4 : Int32).toInt = 4 from rfl) (by omega) (by omega)
  refine va_sld hx hb hX hbl hbA hS (vp_in_iff.mpr ⟨by omega, by omega⟩) dL_law_994 ?_
  refine lv_topi (fun y8 ey8 => ?_)
  obtain rfl : y8 = xs (9 * k + 4) := ey8.trans (congrArg xs (show z7.toInt.toNat = 9 * k + 4 by omega))
  refine lv_aload_n hx hb dL_law_995 rfl (lv_at hl 0 rfl) ?_
  refine lv_iload_n hx hb dL_law_996 rfl (lv_at hl 3 rfl) ?_
  refine lv_iconst (v := 5) hx hb dL_law_997 (by decide) ?_
  refine lv_iadd hx hb dL_law_998 ?_
  refine lv_topi (fun z9 ez9 => ?_)
  have iz9 : z9.toInt = i.toInt + 5 := zi_add ez9 rfl (show (5 : Int32).toInt = 5 from rfl) (by omega) (by omega)
  refine va_sld hx hb hX hbl hbA hS (vp_in_iff.mpr ⟨by omega, by omega⟩) dL_law_999 ?_
  refine lv_topi (fun y10 ey10 => ?_)
  obtain rfl : y10 = xs (9 * k + 5) := ey10.trans (congrArg xs (show z9.toInt.toNat = 9 * k + 5 by omega))
  refine tgk_12 hG hxo (fun y11 y11l y12 y13 y14 y15 y16 y17a y17b y17c => ?_)
  refine tpk_12 hT hxo (fun o18_x6 hf_o18 => ?_)
  refine tpk_pos (tp_in hG hxo (by decide)) hf_o18 (fun q19 eq19 => ?_)
  have hFc := tp_fr hD hS hA
  obtain ⟨R_24, hRe_24⟩ : ∃ R, R = mo_R (mo_i (f (ρ mo 2))) := ⟨_, rfl⟩; rw [← hRe_24] at l0 l1 l2 l3 l4 l5 l6
  refine va_calli (va_runV (As := [.int (xs (9 * k + 1)), .int (xs (9 * k + 2)), .int (xs (9 * k + 3)), .int (xs (9 * k + 4)), .int (xs (9 * k + 5))]) (rest := []) ⟨hx, hb, hml, hown, hts⟩ (t_X11_feed l dC dI _ (mo_O κ mo_n) κ τ ν ρ L f hG hT xo (xs (9 * k + 1)) (xs (9 * k + 2)) (xs (9 * k + 3)) (xs (9 * k + 4)) (xs (9 * k + 5)) hxo) (cwV 5 hts gz_X11_feed rfl rfl rfl ⟨rfl, pd_X11_feed⟩ ⟨Nat.le_of_ble_eq_true rfl, Nat.le_of_ble_eq_true rfl⟩) ⟨pz_blind, va_recv hK hP (ci := 11) (q0 := q19) rfl eq19, pz_pre hP hK hD hN⟩ rfl rfl hl.1 rfl (lv_room (Nat.le_of_ble_eq_true rfl)) dL_law_1000 ⟨by show _ ≤ 600000; omega, by show _ ≤ 7302249; omega⟩) hS (fun q _ h => hFc q h) hFc (fun r20 f22 t H1 locs ht hvm hw21 hB hz1 hk1 hS => ?_)
  refine tn_4 hw21 (fun hT1 hF23 hw21r hw21p => ?_); clear hw21
  obtain ⟨hw_t, hw_l⟩ := (tpg_12 hG hxo).1
  obtain ⟨-, -, -, -, -, -, ⟨ht13, -, hl13⟩, ⟨ht14, -, hl14⟩, ⟨ht15, -, -, hl15⟩, -, -, ⟨ht18, -, -, hl18⟩⟩ := tpg_11 hG hw_t
  have hJ : mo_RI (-1) 0 (mo_R (mo_i (f22 (ρ mo 2)))) := by rw [hF23 _ (by rw [hrow]; decide)]; exact hJ
  have hIM : mo_IM (mo_R (mo_i (f22 (ρ mo 3)))) := by rw [hF23 _ (by rw [hims]; decide)]; exact hIM
  have hXE : tp_X τ ρ (fun n => False) f f22 := tp_X.of hF23 (by decide)
  have it25 : (((380 < (tp_fld (f (ρ xo 3)) 1)) → r20.toInt = -1) ∧ (¬ (380 < (tp_fld (f (ρ xo 3)) 1)) → r20.toInt = (tp_fld (f (ρ xo 3)) 1) + 20)) := by have q9 := hw21p.1; first | exact q9 | (simp only [l0, l1, l2, l3, l4, l5, l6] at q9; exact q9)
  have it26 : (((380 < (tp_fld (f (ρ xo 3)) 1)) → (tp_fld (f22 (ρ xo 3)) 1) = (tp_fld (f (ρ xo 3)) 1)) ∧ (¬ (380 < (tp_fld (f (ρ xo 3)) 1)) → (tp_fld (f22 (ρ xo 3)) 1) = (tp_fld (f (ρ xo 3)) 1) + 20)) := by have q9 := hw21p.2; first | exact q9 | (simp only [l0, l1, l2, l3, l4, l5, l6] at q9; exact q9)
  have m0 : tp_fld (f22 (ρ xo 0)) 0 = R_24 (11) := (congrArg (fun q => tp_fld q 0) (hXE (ρ xo 0) (Or.inr (Or.inr hw_t)) (fun q9 => q9))).trans l0
  have m1 : tp_fld (f22 (ρ xo 0)) 4 = R_24 (0) := (congrArg (fun q => tp_fld q 4) (hXE (ρ xo 0) (Or.inr (Or.inr hw_t)) (fun q9 => q9))).trans l1
  have m2 : tp_fld (f22 (ρ xo 0)) 5 = R_24 (1) := (congrArg (fun q => tp_fld q 5) (hXE (ρ xo 0) (Or.inr (Or.inr hw_t)) (fun q9 => q9))).trans l2
  have m3 : tp_fld (f22 (ρ (ρ xo 0) 13)) 3 = R_24 (3) := (congrArg (fun q => tp_fld q 3) (hXE (ρ (ρ xo 0) 13) (Or.inr (Or.inl ht13)) (fun q9 => q9))).trans l3
  have m4 : tp_fld (f22 (ρ (ρ xo 0) 14)) 3 = R_24 (7) := (congrArg (fun q => tp_fld q 3) (hXE (ρ (ρ xo 0) 14) (Or.inr (Or.inl ht14)) (fun q9 => q9))).trans l4
  have m5 : tp_fld (f22 (ρ (ρ xo 0) 15)) 2 = R_24 (6) := (congrArg (fun q => tp_fld q 2) (hXE (ρ (ρ xo 0) 15) (Or.inl ht15) (fun q9 => q9))).trans l5
  have m6 : tp_fld (f22 (ρ (ρ xo 0) 18)) 2 = R_24 (10) := (congrArg (fun q => tp_fld q 2) (hXE (ρ (ρ xo 0) 18) (Or.inl ht18) (fun q9 => q9))).trans l6
  have hPm := lz_P.keep hG hT hxo hXE (fun n q9 => by have q8 : False := q9; first | exact q8.elim | omega) (hF23 _ (by rw [(tpg_12 hG hxo).2.1]; decide)) (by rw [hF23 _ (by rw [hims]; decide)]) (by rw [hF23 _ (by rw [hkep]; decide)]) hPm
  have l0 := m0
  have l1 := m1
  have l2 := m2
  have l3 := m3
  have l4 := m4
  have l5 := m5
  have l6 := m6
  have hRe : mo_R (mo_i (f22 (ρ mo 2))) = R_24 := by rw [hF23 _ (by rw [hrow]; decide)]; exact hRe_24.symm
  have hT := hT1
  have hP := hB.1; rw [ht] at hP; have hD := tp_ad f22 hD; clear hB hFc hz1 hk1; subst ht; generalize t.heap = H at hP hS ⊢
  refine lv_pop hx hb dL_law_1003 rfl ?_
  refine lv_aload_n hx hb dL_law_1004 rfl (lv_at hl 2 rfl) ?_
  refine lv_aload_n hx hb dL_law_1005 rfl (lv_at hl 0 rfl) ?_
  refine lv_iload_n hx hb dL_law_1006 rfl (lv_at hl 3 rfl) ?_
  refine lv_iconst (v := 1) hx hb dL_law_1007 (by decide) ?_
  refine lv_iadd hx hb dL_law_1008 ?_
  refine lv_topi (fun z27 ez27 => ?_)
  have iz27 : z27.toInt = i.toInt + 1 := zi_add ez27 rfl (show (1 : Int32).toInt = 1 from rfl) (by omega) (by omega)
  refine va_sld hx hb hX hbl hbA hS (vp_in_iff.mpr ⟨by omega, by omega⟩) dL_law_1009 ?_
  refine lv_topi (fun y28 ey28 => ?_)
  obtain rfl : y28 = xs (9 * k + 1) := ey28.trans (congrArg xs (show z27.toInt.toNat = 9 * k + 1 by omega))
  refine lv_aload_n hx hb dL_law_1010 rfl (lv_at hl 0 rfl) ?_
  refine lv_iload_n hx hb dL_law_1011 rfl (lv_at hl 3 rfl) ?_
  refine lv_iconst (v := 2) hx hb dL_law_1012 (by decide) ?_
  refine lv_iadd hx hb dL_law_1013 ?_
  refine lv_topi (fun z29 ez29 => ?_)
  have iz29 : z29.toInt = i.toInt + 2 := zi_add ez29 rfl (show (2 : Int32).toInt = 2 from rfl) (by omega) (by omega)
  refine va_sld hx hb hX hbl hbA hS (vp_in_iff.mpr ⟨by omega, by omega⟩) dL_law_1014 ?_
  refine lv_topi (fun y30 ey30 => ?_)
  obtain rfl : y30 = xs (9 * k + 2) := ey30.trans (congrArg xs (show z29.toInt.toNat = 9 * k + 2 by omega))
  refine lv_aload_n hx hb dL_law_1015 rfl (lv_at hl 0 rfl) ?_
  refine lv_iload_n hx hb dL_law_1016 rfl (lv_at hl 3 rfl) ?_
  refine lv_iconst (v := 3) hx hb dL_law_1017 (by decide) ?_
  refine lv_iadd hx hb dL_law_1018 ?_
  refine lv_topi (fun z31 ez31 => ?_)
  have iz31 : z31.toInt = i.toInt + 3 := zi_add ez31 rfl (show (3 : Int32).toInt = 3 from rfl) (by omega) (by omega)
  refine va_sld hx hb hX hbl hbA hS (vp_in_iff.mpr ⟨by omega, by omega⟩) dL_law_1019 ?_
  refine lv_topi (fun y32 ey32 => ?_)
  obtain rfl : y32 = xs (9 * k + 3) := ey32.trans (congrArg xs (show z31.toInt.toNat = 9 * k + 3 by omega))
  refine lv_aload_n hx hb dL_law_1020 rfl (lv_at hl 0 rfl) ?_
  refine lv_iload_n hx hb dL_law_1021 rfl (lv_at hl 3 rfl) ?_
  refine lv_iconst (v := 4) hx hb dL_law_1022 (by decide) ?_
  refine lv_iadd hx hb dL_law_1023 ?_
  refine lv_topi (fun z33 ez33 => ?_)
  have iz33 : z33.toInt = i.toInt + 4 := zi_add ez33 rfl (show (4 : Int32).toInt = 4 from rfl) (by omega) (by omega)
  refine va_sld hx hb hX hbl hbA hS (vp_in_iff.mpr ⟨by omega, by omega⟩) dL_law_1024 ?_
  refine lv_topi (fun y34 ey34 => ?_)
  obtain rfl : y34 = xs (9 * k + 4) := ey34.trans (congrArg xs (show z33.toInt.toNat = 9 * k + 4 by omega))
  refine lv_aload_n hx hb dL_law_1025 rfl (lv_at hl 0 rfl) ?_
  refine lv_iload_n hx hb dL_law_1026 rfl (lv_at hl 3 rfl) ?_
  refine lv_iconst (v := 5) hx hb dL_law_1027 (by decide) ?_
  refine lv_iadd hx hb dL_law_1028 ?_
  refine lv_topi (fun z35 ez35 => ?_)
  have iz35 : z35.toInt = i.toInt + 5 := zi_add ez35 rfl (show (5 : Int32).toInt = 5 from rfl) (by omega) (by omega)
  refine va_sld hx hb hX hbl hbA hS (vp_in_iff.mpr ⟨by omega, by omega⟩) dL_law_1029 ?_
  refine lv_topi (fun y36 ey36 => ?_)
  obtain rfl : y36 = xs (9 * k + 5) := ey36.trans (congrArg xs (show z35.toInt.toNat = 9 * k + 5 by omega))
  refine tgk_13 hG hmo (fun y37 y38 y39 y40 y41 y42 y43 y44 y45 y46 y47 y48 y49 y50 y51 y52 y53 y54 y55 y56 y57 y58 y59 y60 y61 => ?_)
  refine tpk_13 hT hmo (fun o62_x0 o62_x1 o62_x7 o62_x9 o62_x10 o62_x11 o62_x12 o62_x13 o62_x14 o62_x15 o62_x16 o62_x17 o62_x18 o62_x19 o62_x20 o62_x22 o62_x25 o62_x28 o62_x29 o62_x32 o62_x33 o62_x34 o62_x35 o62_x36 o62_x37 o62_x38 o62_x47 o62_x48 hf_o62 ro62_0 ro62_1 ro62_2 ro62_3 ro62_4 ro62_5 ro62_6 ro62_7 ro62_8 ro62_9 ro62_10 ro62_11 ro62_12 ro62_13 ro62_14 => ?_)
  refine tpk_pos (tp_in hG hmo (by decide)) hf_o62 (fun q63 eq63 => ?_)
  have hFc := tp_fr hD hS hA
  have hRe_68 : R_24 = mo_R (mo_i (f22 (ρ mo 2))) := hRe.symm
  refine va_calli (va_runV (As := [.int (xs (9 * k + 1)), .int (xs (9 * k + 2)), .int (xs (9 * k + 3)), .int (xs (9 * k + 4)), .int (xs (9 * k + 5))]) (rest := []) ⟨hx, hb, hml, hown, hts⟩ (t_X12_feed l dC dI _ κ mo_n τ ν ρ L f22 hG hT mo (xs (9 * k + 1)) (xs (9 * k + 2)) (xs (9 * k + 3)) (xs (9 * k + 4)) (xs (9 * k + 5)) hmo hJ rfl) (cwV 5 hts gz_X12_feed rfl rfl rfl ⟨rfl, pd_X12_feed⟩ ⟨Nat.le_of_ble_eq_true rfl, Nat.le_of_ble_eq_true rfl⟩) ⟨pz_blind, va_recv hK hP (ci := 12) (q0 := q63) rfl eq63, pz_pre hP hK hD hN⟩ rfl rfl hl.1 rfl (lv_room (Nat.le_of_ble_eq_true rfl)) dL_law_1030 ⟨by show _ ≤ 600000; omega, by show _ ≤ 7302249; omega⟩) hS (fun q _ h => hFc q h) hFc (fun r64 f66 t H1 locs ht hvm hw65 hB hz1 hk1 hS => ?_)
  refine tn_4 hw65 (fun hT1 hF67 hw65r hw65p => ?_); clear hw65
  obtain ⟨hw_t, hw_l⟩ := (tpg_12 hG hxo).1
  obtain ⟨-, -, -, -, -, -, ⟨ht13, -, hl13⟩, ⟨ht14, -, hl14⟩, ⟨ht15, -, -, hl15⟩, -, -, ⟨ht18, -, -, hl18⟩⟩ := tpg_11 hG hw_t
  have hJ : mo_RI (-1) 0 (mo_R (mo_i (f66 (ρ mo 2)))) := by rw [hF67 _ (by rw [hrow]; decide)]; exact hJ
  have hRn : R_24 = mo_R (mo_i (f66 (ρ mo 2))) := by rw [hF67 _ (by rw [hrow]; decide)]; exact hRe_68
  have hIM : mo_IM (mo_R (mo_i (f66 (ρ mo 3)))) := by rw [hF67 _ (by rw [hims]; decide)]; exact hIM
  have m0 : tp_fld (f66 (ρ xo 0)) 0 = R_24 (11) := ((congrArg (fun q => tp_fld q 0) (hF67 (ρ xo 0) (by rw [hw_t]; decide))).trans l0)
  have m1 : tp_fld (f66 (ρ xo 0)) 4 = R_24 (0) := ((congrArg (fun q => tp_fld q 4) (hF67 (ρ xo 0) (by rw [hw_t]; decide))).trans l1)
  have m2 : tp_fld (f66 (ρ xo 0)) 5 = R_24 (1) := ((congrArg (fun q => tp_fld q 5) (hF67 (ρ xo 0) (by rw [hw_t]; decide))).trans l2)
  have m3 : tp_fld (f66 (ρ (ρ xo 0) 13)) 3 = R_24 (3) := ((congrArg (fun q => tp_fld q 3) (hF67 (ρ (ρ xo 0) 13) (by rw [ht13]; decide))).trans l3)
  have m4 : tp_fld (f66 (ρ (ρ xo 0) 14)) 3 = R_24 (7) := ((congrArg (fun q => tp_fld q 3) (hF67 (ρ (ρ xo 0) 14) (by rw [ht14]; decide))).trans l4)
  have m5 : tp_fld (f66 (ρ (ρ xo 0) 15)) 2 = R_24 (6) := ((congrArg (fun q => tp_fld q 2) (hF67 (ρ (ρ xo 0) 15) (by rw [ht15]; decide))).trans l5)
  have m6 : tp_fld (f66 (ρ (ρ xo 0) 18)) 2 = R_24 (10) := ((congrArg (fun q => tp_fld q 2) (hF67 (ρ (ρ xo 0) 18) (by rw [ht18]; decide))).trans l6)
  have l0 := m0
  have l1 := m1
  have l2 := m2
  have l3 := m3
  have l4 := m4
  have l5 := m5
  have l6 := m6
  rw [hRn] at l0 l1 l2 l3 l4 l5 l6
  have hPm := lz_P.keep hG hT hxo (tp_X.of (E := fun _ => False) hF67 (by decide)) (fun n q9 => False.elim q9) (hF67 _ (by rw [(tpg_12 hG hxo).2.1]; decide)) (by rw [hF67 _ (by rw [hims]; decide)]) (by rw [hF67 _ (by rw [hkep]; decide)]) hPm
  have hT := hT1
  have hP := hB.1; rw [ht] at hP; have hD := tp_ad f66 hD; clear hB hFc hz1 hk1; subst ht; generalize t.heap = H at hP hS ⊢
  refine lv_pop hx hb dL_law_1033 rfl ?_
  refine lv_goto (tgt := 1710) hx hb dL_law_1034 (by decide) ?_
  refine tp_widen (cells + 110) (slots + 2634) (by omega) (by omega) ?_
  exact kk τ ν ρ L f66 _ _ _ ⟨hG, hT, hxo, hmo, hJ, hIM, ⟨l0, l1, l2, l3, l4, l5, l6⟩, hPm⟩ hP hD hS (lv_sub hl [0, 1, 2, 3] rfl)
set_option maxHeartbeats 8000000 in
set_option maxRecDepth 100000 in
theorem law_case_21 {p : Program} {l : Launch} {e : Env} {s : State} {m : MethodId} {below : List Frame} {meth : Method} {c : Code} {b N9 : Nat} {xs : Nat → Int32} {dC : Nat → ClassId} {dI : Nat → Nat → Nat} {κ : Nat → ClassId} {adK adV : Nat → Nat} {zv : Option Nat} {xo mo : Nat} {k cells slots : Nat} {i : Int32} (C0 : lw_At p s m meth c b N9 xs) (hN9 : N9 ≤ 4608) (hN : nz_ok s) (hZ : pw_Z adK adV zv (fun q : Nat => s.heap.size ≤ q) s s.heap) (hK : va_K (dC, dI) vwCl (tp_K κ) s) (hk : 9 * k + 9 ≤ N9) (hi : i.toInt = 9 * (k : Int)) (hc : cells + 110 ≤ 600000) (hs : slots + 2634 ≤ 7302249) (kk : ∀ (τ ν : Nat → Nat) (ρ : Nat → Nat → Nat) (L : List Nat) (f : Nat → va_E) (H : Heap) (locs : List Loc) (ls : Array Slot), lz_I κ xo mo τ ν ρ L f → va_P (dC, dI) vwCl (va_pl L f) H → va_D (fun q : Nat => s.heap.size ≤ q) (va_pl L f) → va_S (fun q : Nat => s.heap.size ≤ q) s.heap H locs → lv_has ls 4 [(0, .ref b), (1, .ref xo), (2, .ref mo), (3, .int i)] → W p l e room_1 s m #[Value.ref b] below meth c H locs (cells + 110) (slots + 2634) (lw_Z below #[Value.ref b] s) (F0 m 1710 ls [])) {τ ν : Nat → Nat} {ρ : Nat → Nat → Nat} {L : List Nat} {f : Nat → va_E} {H : Heap} {locs : List Loc} {ls : Array Slot}  (hI : lz_I κ xo mo τ ν ρ L f) (hP : va_P (dC, dI) vwCl (va_pl L f) H) (hD : va_D (fun q : Nat => s.heap.size ≤ q) (va_pl L f)) (hS : va_S (fun q : Nat => s.heap.size ≤ q) s.heap H locs) (hl : lv_has ls 4 [(0, .ref b), (1, .ref xo), (2, .ref mo), (3, .int i)]) : W p l e room_1 s m #[Value.ref b] below meth c H locs cells slots (lw_Z below #[Value.ref b] s) (F0 m 1037 ls []) := by
  obtain ⟨hx, hb, hr, hml, hown, hts, hX, hbl, hlocks, hgv⟩ := id C0
  have hown : s.vm.findClass RL = some m.cls := hown
  have hA : ∀ q : Nat, s.heap.size ≤ q → (fun q : Nat => s.heap.size ≤ q) q := fun _ h => h
  have hbA : ¬ (fun q : Nat => s.heap.size ≤ q) b := Nat.not_le.mpr hbl
  obtain ⟨hG, hT, hxo, hmo, hJ, hIM, ⟨l0, l1, l2, l3, l4, l5, l6⟩, hPm⟩ := hI
  have hrow := (tpg_13 hG hmo).1; have hims := (tpg_13 hG hmo).2.1; have hkep := (tpg_13 hG hmo).2.2.1
  refine lv_aload_n hx hb dL_law_1037 rfl (lv_at hl 1 rfl) ?_
  refine lv_aload_n hx hb dL_law_1038 rfl (lv_at hl 0 rfl) ?_
  refine lv_iload_n hx hb dL_law_1039 rfl (lv_at hl 3 rfl) ?_
  refine lv_iconst (v := 1) hx hb dL_law_1040 (by decide) ?_
  refine lv_iadd hx hb dL_law_1041 ?_
  refine lv_topi (fun z1 ez1 => ?_)
  have iz1 : z1.toInt = i.toInt + 1 := zi_add ez1 rfl (show (1 : Int32).toInt = 1 from rfl) (by omega) (by omega)
  refine va_sld hx hb hX hbl hbA hS (vp_in_iff.mpr ⟨by omega, by omega⟩) dL_law_1042 ?_
  refine lv_topi (fun y2 ey2 => ?_)
  obtain rfl : y2 = xs (9 * k + 1) := ey2.trans (congrArg xs (show z1.toInt.toNat = 9 * k + 1 by omega))
  refine tgk_12 hG hxo (fun y3 y3l y4 y5 y6 y7 y8 y9a y9b y9c => ?_)
  refine tpk_12 hT hxo (fun o10_x6 hf_o10 => ?_)
  refine tpk_pos (tp_in hG hxo (by decide)) hf_o10 (fun q11 eq11 => ?_)
  have hFc := tp_fr hD hS hA
  obtain ⟨R_16, hRe_16⟩ : ∃ R, R = mo_R (mo_i (f (ρ mo 2))) := ⟨_, rfl⟩; rw [← hRe_16] at l0 l1 l2 l3 l4 l5 l6
  refine va_calli (va_runV (As := [.int (xs (9 * k + 1))]) (rest := []) ⟨hx, hb, hml, hown, hts⟩ (t_X11_end l dC dI _ (mo_O κ mo_n) κ τ ν ρ L f hG hT xo (xs (9 * k + 1)) hxo) (cwV 1 hts gz_X11_end rfl rfl rfl ⟨rfl, pd_X11_end⟩ ⟨Nat.le_of_ble_eq_true rfl, Nat.le_of_ble_eq_true rfl⟩) ⟨pz_blind, va_recv hK hP (ci := 11) (q0 := q11) rfl eq11, pz_pre hP hK hD hN⟩ rfl rfl hl.1 rfl (lv_room (Nat.le_of_ble_eq_true rfl)) dL_law_1043 ⟨by show _ ≤ 600000; omega, by show _ ≤ 7302249; omega⟩) hS (fun q _ h => hFc q h) hFc (fun r12 f14 t H1 locs ht hvm hw13 hB hz1 hk1 hS => ?_)
  refine tn_4 hw13 (fun hT1 hF15 hw13r hw13p => ?_); clear hw13
  obtain ⟨hw_t, hw_l⟩ := (tpg_12 hG hxo).1
  obtain ⟨-, -, -, -, -, -, ⟨ht13, -, hl13⟩, ⟨ht14, -, hl14⟩, ⟨ht15, -, -, hl15⟩, -, -, ⟨ht18, -, -, hl18⟩⟩ := tpg_11 hG hw_t
  have hJ : mo_RI (-1) 0 (mo_R (mo_i (f14 (ρ mo 2)))) := by rw [hF15 _ (by rw [hrow]; decide)]; exact hJ
  have hIM : mo_IM (mo_R (mo_i (f14 (ρ mo 3)))) := by rw [hF15 _ (by rw [hims]; decide)]; exact hIM
  have hXE : tp_X τ ρ (fun n => False) f f14 := tp_X.of hF15 (by decide)
  have it17 : (((¬ (0 ≤ (xs (9 * k + 1)).toInt ∧ (xs (9 * k + 1)).toInt ≤ (tp_fld (f (ρ xo 3)) 1))) → r12.toInt = -1) ∧ (¬ (¬ (0 ≤ (xs (9 * k + 1)).toInt ∧ (xs (9 * k + 1)).toInt ≤ (tp_fld (f (ρ xo 3)) 1))) → r12.toInt = (xs (9 * k + 1)).toInt)) := by have q9 := hw13p.1; first | exact q9 | (simp only [l0, l1, l2, l3, l4, l5, l6] at q9; exact q9)
  have it18 : (((¬ (0 ≤ (xs (9 * k + 1)).toInt ∧ (xs (9 * k + 1)).toInt ≤ (tp_fld (f (ρ xo 3)) 1))) → (tp_fld (f14 (ρ xo 3)) 1) = (tp_fld (f (ρ xo 3)) 1)) ∧ (¬ (¬ (0 ≤ (xs (9 * k + 1)).toInt ∧ (xs (9 * k + 1)).toInt ≤ (tp_fld (f (ρ xo 3)) 1))) → (tp_fld (f14 (ρ xo 3)) 1) = (xs (9 * k + 1)).toInt)) := by have q9 := hw13p.2; first | exact q9 | (simp only [l0, l1, l2, l3, l4, l5, l6] at q9; exact q9)
  have m0 : tp_fld (f14 (ρ xo 0)) 0 = R_16 (11) := (congrArg (fun q => tp_fld q 0) (hXE (ρ xo 0) (Or.inr (Or.inr hw_t)) (fun q9 => q9))).trans l0
  have m1 : tp_fld (f14 (ρ xo 0)) 4 = R_16 (0) := (congrArg (fun q => tp_fld q 4) (hXE (ρ xo 0) (Or.inr (Or.inr hw_t)) (fun q9 => q9))).trans l1
  have m2 : tp_fld (f14 (ρ xo 0)) 5 = R_16 (1) := (congrArg (fun q => tp_fld q 5) (hXE (ρ xo 0) (Or.inr (Or.inr hw_t)) (fun q9 => q9))).trans l2
  have m3 : tp_fld (f14 (ρ (ρ xo 0) 13)) 3 = R_16 (3) := (congrArg (fun q => tp_fld q 3) (hXE (ρ (ρ xo 0) 13) (Or.inr (Or.inl ht13)) (fun q9 => q9))).trans l3
  have m4 : tp_fld (f14 (ρ (ρ xo 0) 14)) 3 = R_16 (7) := (congrArg (fun q => tp_fld q 3) (hXE (ρ (ρ xo 0) 14) (Or.inr (Or.inl ht14)) (fun q9 => q9))).trans l4
  have m5 : tp_fld (f14 (ρ (ρ xo 0) 15)) 2 = R_16 (6) := (congrArg (fun q => tp_fld q 2) (hXE (ρ (ρ xo 0) 15) (Or.inl ht15) (fun q9 => q9))).trans l5
  have m6 : tp_fld (f14 (ρ (ρ xo 0) 18)) 2 = R_16 (10) := (congrArg (fun q => tp_fld q 2) (hXE (ρ (ρ xo 0) 18) (Or.inl ht18) (fun q9 => q9))).trans l6
  have hPm := lz_P.keep hG hT hxo hXE (fun n q9 => by have q8 : False := q9; first | exact q8.elim | omega) (hF15 _ (by rw [(tpg_12 hG hxo).2.1]; decide)) (by rw [hF15 _ (by rw [hims]; decide)]) (by rw [hF15 _ (by rw [hkep]; decide)]) hPm
  have l0 := m0
  have l1 := m1
  have l2 := m2
  have l3 := m3
  have l4 := m4
  have l5 := m5
  have l6 := m6
  have hRe : mo_R (mo_i (f14 (ρ mo 2))) = R_16 := by rw [hF15 _ (by rw [hrow]; decide)]; exact hRe_16.symm
  have hT := hT1
  have hP := hB.1; rw [ht] at hP; have hD := tp_ad f14 hD; clear hB hFc hz1 hk1; subst ht; generalize t.heap = H at hP hS ⊢
  refine lv_pop hx hb dL_law_1046 rfl ?_
  refine lv_aload_n hx hb dL_law_1047 rfl (lv_at hl 2 rfl) ?_
  refine lv_aload_n hx hb dL_law_1048 rfl (lv_at hl 0 rfl) ?_
  refine lv_iload_n hx hb dL_law_1049 rfl (lv_at hl 3 rfl) ?_
  refine lv_iconst (v := 1) hx hb dL_law_1050 (by decide) ?_
  refine lv_iadd hx hb dL_law_1051 ?_
  refine lv_topi (fun z19 ez19 => ?_)
  have iz19 : z19.toInt = i.toInt + 1 := zi_add ez19 rfl (show (1 : Int32).toInt = 1 from rfl) (by omega) (by omega)
  refine va_sld hx hb hX hbl hbA hS (vp_in_iff.mpr ⟨by omega, by omega⟩) dL_law_1052 ?_
  refine lv_topi (fun y20 ey20 => ?_)
  obtain rfl : y20 = xs (9 * k + 1) := ey20.trans (congrArg xs (show z19.toInt.toNat = 9 * k + 1 by omega))
  refine tgk_13 hG hmo (fun y21 y22 y23 y24 y25 y26 y27 y28 y29 y30 y31 y32 y33 y34 y35 y36 y37 y38 y39 y40 y41 y42 y43 y44 y45 => ?_)
  refine tpk_13 hT hmo (fun o46_x0 o46_x1 o46_x7 o46_x9 o46_x10 o46_x11 o46_x12 o46_x13 o46_x14 o46_x15 o46_x16 o46_x17 o46_x18 o46_x19 o46_x20 o46_x22 o46_x25 o46_x28 o46_x29 o46_x32 o46_x33 o46_x34 o46_x35 o46_x36 o46_x37 o46_x38 o46_x47 o46_x48 hf_o46 ro46_0 ro46_1 ro46_2 ro46_3 ro46_4 ro46_5 ro46_6 ro46_7 ro46_8 ro46_9 ro46_10 ro46_11 ro46_12 ro46_13 ro46_14 => ?_)
  refine tpk_pos (tp_in hG hmo (by decide)) hf_o46 (fun q47 eq47 => ?_)
  have hFc := tp_fr hD hS hA
  have hRe_52 : R_16 = mo_R (mo_i (f14 (ρ mo 2))) := hRe.symm
  refine va_calli (va_runV (As := [.int (xs (9 * k + 1))]) (rest := []) ⟨hx, hb, hml, hown, hts⟩ (t_X12_end l dC dI _ κ mo_n τ ν ρ L f14 hG hT mo (xs (9 * k + 1)) hmo hJ rfl) (cwV 1 hts gz_X12_end rfl rfl rfl ⟨rfl, pd_X12_end⟩ ⟨Nat.le_of_ble_eq_true rfl, Nat.le_of_ble_eq_true rfl⟩) ⟨pz_blind, va_recv hK hP (ci := 12) (q0 := q47) rfl eq47, pz_pre hP hK hD hN⟩ rfl rfl hl.1 rfl (lv_room (Nat.le_of_ble_eq_true rfl)) dL_law_1053 ⟨by show _ ≤ 600000; omega, by show _ ≤ 7302249; omega⟩) hS (fun q _ h => hFc q h) hFc (fun r48 f50 t H1 locs ht hvm hw49 hB hz1 hk1 hS => ?_)
  refine tn_4 hw49 (fun hT1 hF51 hw49r hw49p => ?_); clear hw49
  obtain ⟨hw_t, hw_l⟩ := (tpg_12 hG hxo).1
  obtain ⟨-, -, -, -, -, -, ⟨ht13, -, hl13⟩, ⟨ht14, -, hl14⟩, ⟨ht15, -, -, hl15⟩, -, -, ⟨ht18, -, -, hl18⟩⟩ := tpg_11 hG hw_t
  have hJ : mo_RI (-1) 0 (mo_R (mo_i (f50 (ρ mo 2)))) := by rw [hF51 _ (by rw [hrow]; decide)]; exact hJ
  have hRn : R_16 = mo_R (mo_i (f50 (ρ mo 2))) := by rw [hF51 _ (by rw [hrow]; decide)]; exact hRe_52
  have hIM : mo_IM (mo_R (mo_i (f50 (ρ mo 3)))) := by rw [hF51 _ (by rw [hims]; decide)]; exact hIM
  have m0 : tp_fld (f50 (ρ xo 0)) 0 = R_16 (11) := ((congrArg (fun q => tp_fld q 0) (hF51 (ρ xo 0) (by rw [hw_t]; decide))).trans l0)
  have m1 : tp_fld (f50 (ρ xo 0)) 4 = R_16 (0) := ((congrArg (fun q => tp_fld q 4) (hF51 (ρ xo 0) (by rw [hw_t]; decide))).trans l1)
  have m2 : tp_fld (f50 (ρ xo 0)) 5 = R_16 (1) := ((congrArg (fun q => tp_fld q 5) (hF51 (ρ xo 0) (by rw [hw_t]; decide))).trans l2)
  have m3 : tp_fld (f50 (ρ (ρ xo 0) 13)) 3 = R_16 (3) := ((congrArg (fun q => tp_fld q 3) (hF51 (ρ (ρ xo 0) 13) (by rw [ht13]; decide))).trans l3)
  have m4 : tp_fld (f50 (ρ (ρ xo 0) 14)) 3 = R_16 (7) := ((congrArg (fun q => tp_fld q 3) (hF51 (ρ (ρ xo 0) 14) (by rw [ht14]; decide))).trans l4)
  have m5 : tp_fld (f50 (ρ (ρ xo 0) 15)) 2 = R_16 (6) := ((congrArg (fun q => tp_fld q 2) (hF51 (ρ (ρ xo 0) 15) (by rw [ht15]; decide))).trans l5)
  have m6 : tp_fld (f50 (ρ (ρ xo 0) 18)) 2 = R_16 (10) := ((congrArg (fun q => tp_fld q 2) (hF51 (ρ (ρ xo 0) 18) (by rw [ht18]; decide))).trans l6)
  have l0 := m0
  have l1 := m1
  have l2 := m2
  have l3 := m3
  have l4 := m4
  have l5 := m5
  have l6 := m6
  rw [hRn] at l0 l1 l2 l3 l4 l5 l6
  have hPm := lz_P.keep hG hT hxo (tp_X.of (E := fun _ => False) hF51 (by decide)) (fun n q9 => False.elim q9) (hF51 _ (by rw [(tpg_12 hG hxo).2.1]; decide)) (by rw [hF51 _ (by rw [hims]; decide)]) (by rw [hF51 _ (by rw [hkep]; decide)]) hPm
  have hT := hT1
  have hP := hB.1; rw [ht] at hP; have hD := tp_ad f50 hD; clear hB hFc hz1 hk1; subst ht; generalize t.heap = H at hP hS ⊢
  refine lv_pop hx hb dL_law_1056 rfl ?_
  refine lv_goto (tgt := 1710) hx hb dL_law_1057 (by decide) ?_
  refine tp_widen (cells + 110) (slots + 2634) (by omega) (by omega) ?_
  exact kk τ ν ρ L f50 _ _ _ ⟨hG, hT, hxo, hmo, hJ, hIM, ⟨l0, l1, l2, l3, l4, l5, l6⟩, hPm⟩ hP hD hS (lv_sub hl [0, 1, 2, 3] rfl)
set_option maxHeartbeats 8000000 in
set_option maxRecDepth 100000 in
theorem law_case_22 {p : Program} {l : Launch} {e : Env} {s : State} {m : MethodId} {below : List Frame} {meth : Method} {c : Code} {b N9 : Nat} {xs : Nat → Int32} {dC : Nat → ClassId} {dI : Nat → Nat → Nat} {κ : Nat → ClassId} {adK adV : Nat → Nat} {zv : Option Nat} {xo mo : Nat} {k cells slots : Nat} {i : Int32} (C0 : lw_At p s m meth c b N9 xs) (hN9 : N9 ≤ 4608) (hN : nz_ok s) (hZ : pw_Z adK adV zv (fun q : Nat => s.heap.size ≤ q) s s.heap) (hK : va_K (dC, dI) vwCl (tp_K κ) s) (hk : 9 * k + 9 ≤ N9) (hi : i.toInt = 9 * (k : Int)) (hc : cells + 110 ≤ 600000) (hs : slots + 2634 ≤ 7302249) (kk : ∀ (τ ν : Nat → Nat) (ρ : Nat → Nat → Nat) (L : List Nat) (f : Nat → va_E) (H : Heap) (locs : List Loc) (ls : Array Slot), lz_I κ xo mo τ ν ρ L f → va_P (dC, dI) vwCl (va_pl L f) H → va_D (fun q : Nat => s.heap.size ≤ q) (va_pl L f) → va_S (fun q : Nat => s.heap.size ≤ q) s.heap H locs → lv_has ls 4 [(0, .ref b), (1, .ref xo), (2, .ref mo), (3, .int i)] → W p l e room_1 s m #[Value.ref b] below meth c H locs (cells + 110) (slots + 2634) (lw_Z below #[Value.ref b] s) (F0 m 1710 ls [])) {τ ν : Nat → Nat} {ρ : Nat → Nat → Nat} {L : List Nat} {f : Nat → va_E} {H : Heap} {locs : List Loc} {ls : Array Slot}  (hI : lz_I κ xo mo τ ν ρ L f) (hP : va_P (dC, dI) vwCl (va_pl L f) H) (hD : va_D (fun q : Nat => s.heap.size ≤ q) (va_pl L f)) (hS : va_S (fun q : Nat => s.heap.size ≤ q) s.heap H locs) (hl : lv_has ls 4 [(0, .ref b), (1, .ref xo), (2, .ref mo), (3, .int i)]) : W p l e room_1 s m #[Value.ref b] below meth c H locs cells slots (lw_Z below #[Value.ref b] s) (F0 m 1060 ls []) := by
  obtain ⟨hx, hb, hr, hml, hown, hts, hX, hbl, hlocks, hgv⟩ := id C0
  have hown : s.vm.findClass RL = some m.cls := hown
  have hA : ∀ q : Nat, s.heap.size ≤ q → (fun q : Nat => s.heap.size ≤ q) q := fun _ h => h
  have hbA : ¬ (fun q : Nat => s.heap.size ≤ q) b := Nat.not_le.mpr hbl
  obtain ⟨hG, hT, hxo, hmo, hJ, hIM, ⟨l0, l1, l2, l3, l4, l5, l6⟩, hPm⟩ := hI
  have hrow := (tpg_13 hG hmo).1; have hims := (tpg_13 hG hmo).2.1; have hkep := (tpg_13 hG hmo).2.2.1
  refine lv_aload_n hx hb dL_law_1060 rfl (lv_at hl 1 rfl) ?_
  refine tgk_12 hG hxo (fun y1 y1l y2 y3 y4 y5 y6 y7a y7b y7c => ?_)
  refine tpk_12 hT hxo (fun o8_x6 hf_o8 => ?_)
  refine tpk_pos (tp_in hG hxo (by decide)) hf_o8 (fun q9 eq9 => ?_)
  have hFc := tp_fr hD hS hA
  obtain ⟨R_14, hRe_14⟩ : ∃ R, R = mo_R (mo_i (f (ρ mo 2))) := ⟨_, rfl⟩; rw [← hRe_14] at l0 l1 l2 l3 l4 l5 l6
  refine va_calli (va_runV (As := []) (rest := []) ⟨hx, hb, hml, hown, hts⟩ (t_X11_contract l dC dI _ (mo_O κ mo_n) κ τ ν ρ L f hG hT adK adV zv xo hxo) (cwV 0 hts gz_X11_contract rfl rfl rfl ⟨rfl, pd_X11_contract⟩ ⟨Nat.le_of_ble_eq_true rfl, Nat.le_of_ble_eq_true rfl⟩) ⟨pw_blindZ, va_recv hK hP (ci := 11) (q0 := q9) rfl eq9, pw_preZ hP hK hD hN hZ hS (tp_fr hD hS hA)⟩ rfl rfl hl.1 rfl (lv_room (Nat.le_of_ble_eq_true rfl)) dL_law_1061 ⟨by show _ ≤ 600000; omega, by show _ ≤ 7302249; omega⟩) hS (fun q _ h => hFc q h) hFc (fun r10 x9 t H1 locs ht hvm hw11 hB hz1 hk1 hS => ?_)
  obtain ⟨τ_14, ν_14, ρ_14, L_14, f12⟩ := x9; obtain ⟨⟨hG9, hT9, hH9⟩, hw11p⟩ := hw11
  have h9_hmo := hH9.2 mo (tp_in hG hmo (by decide)) (fun z => by cases z)
  have h9_hxo := hH9.2 xo (tp_in hG hxo (by decide)) (fun z => by cases z)
  have h9_hrow := hH9.2 (ρ mo 2) (tp_in hG hrow (by decide)) (fun z => by cases z)
  have h9_hims := hH9.2 (ρ mo 3) (tp_in hG hims (by decide)) (fun z => by cases z)
  have h9_hkep := hH9.2 (ρ mo 4) (tp_in hG hkep (by decide)) (fun z => by cases z)
  have h9_hW := hH9.2 (ρ xo 0) (tp_in hG (tpg_12 hG hxo).1.1 (by decide)) (fun z => by cases z)
  have qhJ : mo_R (mo_i (f12 (ρ_14 mo 2))) = mo_R (mo_i (f (ρ mo 2))) := by have q9 : ρ_14 mo = ρ mo := h9_hmo.2.2.1; rw [q9]; have q8 : f12 (ρ mo 2) = f (ρ mo 2) := h9_hrow.2.2.2 (by rw [hrow]; decide); rw [q8]
  have qhIM : mo_R (mo_i (f12 (ρ_14 mo 3))) = mo_R (mo_i (f (ρ mo 3))) := by have q9 : ρ_14 mo = ρ mo := h9_hmo.2.2.1; rw [q9]; have q8 : f12 (ρ mo 3) = f (ρ mo 3) := h9_hims.2.2.2 (by rw [hims]; decide); rw [q8]
  have qhKe : mo_R (mo_i (f12 (ρ_14 mo 4))) = mo_R (mo_i (f (ρ mo 4))) := by have q9 : ρ_14 mo = ρ mo := h9_hmo.2.2.1; rw [q9]; have q8 : f12 (ρ mo 4) = f (ρ mo 4) := h9_hkep.2.2.2 (by rw [hkep]; decide); rw [q8]
  have q2 : mo_R (mo_i (f12 (ρ mo 2))) = mo_R (mo_i (f (ρ mo 2))) := congrArg (fun q => mo_R (mo_i q)) (h9_hrow.2.2.2 (by rw [hrow]; decide))
  have q3 : mo_R (mo_i (f12 (ρ mo 3))) = mo_R (mo_i (f (ρ mo 3))) := congrArg (fun q => mo_R (mo_i q)) (h9_hims.2.2.2 (by rw [hims]; decide))
  have q4 : mo_R (mo_i (f12 (ρ mo 4))) = mo_R (mo_i (f (ρ mo 4))) := congrArg (fun q => mo_R (mo_i q)) (h9_hkep.2.2.2 (by rw [hkep]; decide))
  obtain ⟨hw_t, hw_l⟩ := (tpg_12 hG hxo).1
  obtain ⟨-, -, -, -, -, -, ⟨ht13, -, hl13⟩, ⟨ht14, -, hl14⟩, ⟨ht15, -, -, hl15⟩, -, -, ⟨ht18, -, -, hl18⟩⟩ := tpg_11 hG hw_t
  obtain ⟨hw9, -⟩ : ρ_14 (ρ xo 0) = ρ (ρ xo 0) ∧ True := ⟨h9_hW.2.2.1, trivial⟩; have hx9 : ρ_14 xo = ρ xo := h9_hxo.2.2.1; have hm9 : ρ_14 mo = ρ mo := h9_hmo.2.2.1
  obtain ⟨hXE, v0, v1, v2, v3⟩ := hw11p
  have v0 : tp_fld (f12 (ρ_14 xo 0)) 0 = tp_fld (f (ρ xo 0)) 0 := v0
  have v1 : tp_fld (f12 (ρ_14 xo 0)) 4 = tp_fld (f (ρ xo 0)) 4 := v1
  have v2 : tp_fld (f12 (ρ_14 xo 0)) 5 = tp_fld (f (ρ xo 0)) 5 := v2
  rw [hx9] at v0 v1 v2
  have hPk := lz_P.keep (f1 := f12) hG hT hxo hXE (fun n q9 => by have q8 : n = 0 := q9; omega) ((hH9.2 (ρ xo 1) (tp_in hG (tpg_12 hG hxo).2.1 (by decide)) (fun z => by cases z)).2.2.2 (by rw [(tpg_12 hG hxo).2.1]; decide)) q3 q4 hPm
  have hPm := lz_P.grow hG hT hxo hH9 hx9 hm9 (fun j => congrArg (fun q => tp_arr q j) ((hH9.2 (ρ xo 1) (tp_in hG (tpg_12 hG hxo).2.1 (by decide)) (fun z => by cases z)).2.2.2 (by rw [(tpg_12 hG hxo).2.1]; decide))) hPk
  have m0 := v0.trans l0
  have m1 := v1.trans l1
  have m2 := v2.trans l2
  have m3 : tp_fld (f12 (ρ (ρ xo 0) 13)) 3 = R_14 (3) := (congrArg (fun q => tp_fld q 3) (hXE (ρ (ρ xo 0) 13) (Or.inr (Or.inl ht13)) (fun q9 => by have q8 : (ρ (ρ (ρ xo 0) 13) 30) = 0 := q9; omega))).trans l3
  have m4 : tp_fld (f12 (ρ (ρ xo 0) 14)) 3 = R_14 (7) := (congrArg (fun q => tp_fld q 3) (hXE (ρ (ρ xo 0) 14) (Or.inr (Or.inl ht14)) (fun q9 => by have q8 : (ρ (ρ (ρ xo 0) 14) 30) = 0 := q9; omega))).trans l4
  have m5 : tp_fld (f12 (ρ (ρ xo 0) 15)) 2 = R_14 (6) := (congrArg (fun q => tp_fld q 2) (hXE (ρ (ρ xo 0) 15) (Or.inl ht15) (fun q9 => by have q8 : (ρ (ρ (ρ xo 0) 15) 30) = 0 := q9; omega))).trans l5
  have m6 : tp_fld (f12 (ρ (ρ xo 0) 18)) 2 = R_14 (10) := (congrArg (fun q => tp_fld q 2) (hXE (ρ (ρ xo 0) 18) (Or.inl ht18) (fun q9 => by have q8 : (ρ (ρ (ρ xo 0) 18) 30) = 0 := q9; omega))).trans l6
  have l0 : tp_fld (f12 (ρ_14 xo 0)) 0 = R_14 (11) := by rw [hx9]; exact m0
  have l1 : tp_fld (f12 (ρ_14 xo 0)) 4 = R_14 (0) := by rw [hx9]; exact m1
  have l2 : tp_fld (f12 (ρ_14 xo 0)) 5 = R_14 (1) := by rw [hx9]; exact m2
  have l3 : tp_fld (f12 (ρ_14 (ρ_14 xo 0) 13)) 3 = R_14 (3) := by rw [hx9, hw9]; exact m3
  have l4 : tp_fld (f12 (ρ_14 (ρ_14 xo 0) 14)) 3 = R_14 (7) := by rw [hx9, hw9]; exact m4
  have l5 : tp_fld (f12 (ρ_14 (ρ_14 xo 0) 15)) 2 = R_14 (6) := by rw [hx9, hw9]; exact m5
  have l6 : tp_fld (f12 (ρ_14 (ρ_14 xo 0) 18)) 2 = R_14 (10) := by rw [hx9, hw9]; exact m6
  have hq3 := q3; have hq4 := q4
  have hJ : mo_RI (-1) 0 (mo_R (mo_i (f12 (ρ_14 mo 2)))) := by rw [qhJ]; exact hJ
  have hIM : mo_IM (mo_R (mo_i (f12 (ρ_14 mo 3)))) := by rw [qhIM]; exact hIM
  have hRe : mo_R (mo_i (f12 (ρ_14 mo 2))) = R_14 := by rw [qhJ]; exact hRe_14.symm
  have hmo : τ_14 mo = 13 := h9_hmo.1.trans hmo; have hxo : τ_14 xo = 12 := h9_hxo.1.trans hxo
  have hG : tp_G τ_14 ν_14 ρ_14 L_14 := hG9; have hT : tp_T (mo_O κ mo_n) κ τ_14 ν_14 ρ_14 f12 := hT9
  have hP := hB.1; rw [ht] at hP; have hD := tp_Dw hB.2.2 hFc; clear hB hFc hz1 hk1; subst ht; generalize t.heap = H at hP hS ⊢
  have hP : va_P (dC, dI) vwCl (va_pl L_14 f12) H := hP; have hD : va_D (fun q : Nat => s.heap.size ≤ q) (va_pl L_14 f12) := hD
  have hrow := (tpg_13 hG hmo).1; have hims := (tpg_13 hG hmo).2.1; have hkep := (tpg_13 hG hmo).2.2.1
  refine lv_pop hx hb dL_law_1064 rfl ?_
  refine lv_aload_n hx hb dL_law_1065 rfl (lv_at hl 2 rfl) ?_
  refine tgk_13 hG hmo (fun y15 y16 y17 y18 y19 y20 y21 y22 y23 y24 y25 y26 y27 y28 y29 y30 y31 y32 y33 y34 y35 y36 y37 y38 y39 => ?_)
  refine tpk_13 hT hmo (fun o40_x0 o40_x1 o40_x7 o40_x9 o40_x10 o40_x11 o40_x12 o40_x13 o40_x14 o40_x15 o40_x16 o40_x17 o40_x18 o40_x19 o40_x20 o40_x22 o40_x25 o40_x28 o40_x29 o40_x32 o40_x33 o40_x34 o40_x35 o40_x36 o40_x37 o40_x38 o40_x47 o40_x48 hf_o40 ro40_0 ro40_1 ro40_2 ro40_3 ro40_4 ro40_5 ro40_6 ro40_7 ro40_8 ro40_9 ro40_10 ro40_11 ro40_12 ro40_13 ro40_14 => ?_)
  refine tpk_pos (tp_in hG hmo (by decide)) hf_o40 (fun q41 eq41 => ?_)
  have hFc := tp_fr hD hS hA
  have hRe_46 : R_14 = mo_R (mo_i (f12 (ρ_14 mo 2))) := hRe.symm
  refine va_calli (va_runV (As := []) (rest := []) ⟨hx, hb, hml, hown, hts⟩ (t_X12_contract l dC dI _ κ mo_n τ_14 ν_14 ρ_14 L_14 f12 hG hT mo hmo hJ rfl) (cwV 0 hts gz_X12_contract rfl rfl rfl ⟨rfl, pd_X12_contract⟩ ⟨Nat.le_of_ble_eq_true rfl, Nat.le_of_ble_eq_true rfl⟩) ⟨pz_blind, va_recv hK hP (ci := 12) (q0 := q41) rfl eq41, pz_pre hP hK hD hN⟩ rfl rfl hl.1 rfl (lv_room (Nat.le_of_ble_eq_true rfl)) dL_law_1066 ⟨by show _ ≤ 600000; omega, by show _ ≤ 7302249; omega⟩) hS (fun q _ h => hFc q h) hFc (fun r42 f44 t H1 locs ht hvm hw43 hB hz1 hk1 hS => ?_)
  refine tn_4 hw43 (fun hT1 hF45 hw43r hw43p => ?_); clear hw43
  obtain ⟨hw_t, hw_l⟩ := (tpg_12 hG hxo).1
  obtain ⟨-, -, -, -, -, -, ⟨ht13, -, hl13⟩, ⟨ht14, -, hl14⟩, ⟨ht15, -, -, hl15⟩, -, -, ⟨ht18, -, -, hl18⟩⟩ := tpg_11 hG hw_t
  obtain ⟨hJ, hw43pb⟩ := hw43p
  obtain ⟨Rn, hRn⟩ : ∃ R, R = mo_R (mo_i (f44 (ρ_14 mo 2))) := ⟨_, rfl⟩
  rw [← hRn, ← hRe_46] at hw43pb
  obtain ⟨hKN, hw43pbk⟩ := hw43pb
  have hIM : mo_IM (mo_R (mo_i (f44 (ρ_14 mo 3)))) := by rw [hF45 _ (by rw [hims]; decide)]; exact hIM
  have m0 : tp_fld (f44 (ρ_14 xo 0)) 0 = Rn (11) := ((congrArg (fun q => tp_fld q 0) (hF45 (ρ_14 xo 0) (by rw [hw_t]; decide))).trans l0).trans (hKN (11) (by decide) (by decide) (fun q9 => by have q8 : (11 : Int) = 8 := q9; omega)).symm
  have m1 : tp_fld (f44 (ρ_14 xo 0)) 4 = Rn (0) := ((congrArg (fun q => tp_fld q 4) (hF45 (ρ_14 xo 0) (by rw [hw_t]; decide))).trans l1).trans (hKN (0) (by decide) (by decide) (fun q9 => by have q8 : (0 : Int) = 8 := q9; omega)).symm
  have m2 : tp_fld (f44 (ρ_14 xo 0)) 5 = Rn (1) := ((congrArg (fun q => tp_fld q 5) (hF45 (ρ_14 xo 0) (by rw [hw_t]; decide))).trans l2).trans (hKN (1) (by decide) (by decide) (fun q9 => by have q8 : (1 : Int) = 8 := q9; omega)).symm
  have m3 : tp_fld (f44 (ρ_14 (ρ_14 xo 0) 13)) 3 = Rn (3) := ((congrArg (fun q => tp_fld q 3) (hF45 (ρ_14 (ρ_14 xo 0) 13) (by rw [ht13]; decide))).trans l3).trans (hKN (3) (by decide) (by decide) (fun q9 => by have q8 : (3 : Int) = 8 := q9; omega)).symm
  have m4 : tp_fld (f44 (ρ_14 (ρ_14 xo 0) 14)) 3 = Rn (7) := ((congrArg (fun q => tp_fld q 3) (hF45 (ρ_14 (ρ_14 xo 0) 14) (by rw [ht14]; decide))).trans l4).trans (hKN (7) (by decide) (by decide) (fun q9 => by have q8 : (7 : Int) = 8 := q9; omega)).symm
  have m5 : tp_fld (f44 (ρ_14 (ρ_14 xo 0) 15)) 2 = Rn (6) := ((congrArg (fun q => tp_fld q 2) (hF45 (ρ_14 (ρ_14 xo 0) 15) (by rw [ht15]; decide))).trans l5).trans (hKN (6) (by decide) (by decide) (fun q9 => by have q8 : (6 : Int) = 8 := q9; omega)).symm
  have m6 : tp_fld (f44 (ρ_14 (ρ_14 xo 0) 18)) 2 = Rn (10) := ((congrArg (fun q => tp_fld q 2) (hF45 (ρ_14 (ρ_14 xo 0) 18) (by rw [ht18]; decide))).trans l6).trans (hKN (10) (by decide) (by decide) (fun q9 => by have q8 : (10 : Int) = 8 := q9; omega)).symm
  have l0 := m0
  have l1 := m1
  have l2 := m2
  have l3 := m3
  have l4 := m4
  have l5 := m5
  have l6 := m6
  rw [hRn] at l0 l1 l2 l3 l4 l5 l6
  have hPm := lz_P.keep hG hT hxo (tp_X.of (E := fun _ => False) hF45 (by decide)) (fun n q9 => False.elim q9) (hF45 _ (by rw [(tpg_12 hG hxo).2.1]; decide)) (by rw [hF45 _ (by rw [hims]; decide)]) (by rw [hF45 _ (by rw [hkep]; decide)]) hPm
  have hT := hT1
  have hP := hB.1; rw [ht] at hP; have hD := tp_ad f44 hD; clear hB hFc hz1 hk1; subst ht; generalize t.heap = H at hP hS ⊢
  refine lv_pop hx hb dL_law_1069 rfl ?_
  refine lv_goto (tgt := 1710) hx hb dL_law_1070 (by decide) ?_
  refine tp_widen (cells + 110) (slots + 2634) (by omega) (by omega) ?_
  exact kk τ_14 ν_14 ρ_14 L_14 f44 _ _ _ ⟨hG, hT, hxo, hmo, hJ, hIM, ⟨l0, l1, l2, l3, l4, l5, l6⟩, hPm⟩ hP hD hS (lv_sub hl [0, 1, 2, 3] rfl)
set_option maxHeartbeats 8000000 in
set_option maxRecDepth 100000 in
theorem law_case_23 {p : Program} {l : Launch} {e : Env} {s : State} {m : MethodId} {below : List Frame} {meth : Method} {c : Code} {b N9 : Nat} {xs : Nat → Int32} {dC : Nat → ClassId} {dI : Nat → Nat → Nat} {κ : Nat → ClassId} {adK adV : Nat → Nat} {zv : Option Nat} {xo mo : Nat} {k cells slots : Nat} {i : Int32} (C0 : lw_At p s m meth c b N9 xs) (hN9 : N9 ≤ 4608) (hN : nz_ok s) (hZ : pw_Z adK adV zv (fun q : Nat => s.heap.size ≤ q) s s.heap) (hK : va_K (dC, dI) vwCl (tp_K κ) s) (hk : 9 * k + 9 ≤ N9) (hi : i.toInt = 9 * (k : Int)) (hc : cells + 110 ≤ 600000) (hs : slots + 2634 ≤ 7302249) (kk : ∀ (τ ν : Nat → Nat) (ρ : Nat → Nat → Nat) (L : List Nat) (f : Nat → va_E) (H : Heap) (locs : List Loc) (ls : Array Slot), lz_I κ xo mo τ ν ρ L f → va_P (dC, dI) vwCl (va_pl L f) H → va_D (fun q : Nat => s.heap.size ≤ q) (va_pl L f) → va_S (fun q : Nat => s.heap.size ≤ q) s.heap H locs → lv_has ls 4 [(0, .ref b), (1, .ref xo), (2, .ref mo), (3, .int i)] → W p l e room_1 s m #[Value.ref b] below meth c H locs (cells + 110) (slots + 2634) (lw_Z below #[Value.ref b] s) (F0 m 1710 ls [])) {τ ν : Nat → Nat} {ρ : Nat → Nat → Nat} {L : List Nat} {f : Nat → va_E} {H : Heap} {locs : List Loc} {ls : Array Slot}  (hI : lz_I κ xo mo τ ν ρ L f) (hP : va_P (dC, dI) vwCl (va_pl L f) H) (hD : va_D (fun q : Nat => s.heap.size ≤ q) (va_pl L f)) (hS : va_S (fun q : Nat => s.heap.size ≤ q) s.heap H locs) (hl : lv_has ls 4 [(0, .ref b), (1, .ref xo), (2, .ref mo), (3, .int i)]) : W p l e room_1 s m #[Value.ref b] below meth c H locs cells slots (lw_Z below #[Value.ref b] s) (F0 m 1073 ls []) := by
  obtain ⟨hx, hb, hr, hml, hown, hts, hX, hbl, hlocks, hgv⟩ := id C0
  have hown : s.vm.findClass RL = some m.cls := hown
  have hA : ∀ q : Nat, s.heap.size ≤ q → (fun q : Nat => s.heap.size ≤ q) q := fun _ h => h
  have hbA : ¬ (fun q : Nat => s.heap.size ≤ q) b := Nat.not_le.mpr hbl
  obtain ⟨hG, hT, hxo, hmo, hJ, hIM, ⟨l0, l1, l2, l3, l4, l5, l6⟩, hPm⟩ := hI
  have hrow := (tpg_13 hG hmo).1; have hims := (tpg_13 hG hmo).2.1; have hkep := (tpg_13 hG hmo).2.2.1
  refine lv_aload_n hx hb dL_law_1073 rfl (lv_at hl 1 rfl) ?_
  refine tgk_12 hG hxo (fun y1 y1l y2 y3 y4 y5 y6 y7a y7b y7c => ?_)
  refine tpk_12 hT hxo (fun o8_x6 hf_o8 => ?_)
  refine tpk_pos (tp_in hG hxo (by decide)) hf_o8 (fun q9 eq9 => ?_)
  have hFc := tp_fr hD hS hA
  obtain ⟨R_14, hRe_14⟩ : ∃ R, R = mo_R (mo_i (f (ρ mo 2))) := ⟨_, rfl⟩; rw [← hRe_14] at l0 l1 l2 l3 l4 l5 l6
  refine va_calli (va_runV (As := []) (rest := []) ⟨hx, hb, hml, hown, hts⟩ (t_X11_fault l dC dI _ (mo_O κ mo_n) κ τ ν ρ L f hG hT xo hxo) (cwV 0 hts gz_X11_fault rfl rfl rfl ⟨rfl, pd_X11_fault⟩ ⟨Nat.le_of_ble_eq_true rfl, Nat.le_of_ble_eq_true rfl⟩) ⟨pz_blind, va_recv hK hP (ci := 11) (q0 := q9) rfl eq9, pz_pre hP hK hD hN⟩ rfl rfl hl.1 rfl (lv_room (Nat.le_of_ble_eq_true rfl)) dL_law_1074 ⟨by show _ ≤ 600000; omega, by show _ ≤ 7302249; omega⟩) hS (fun q _ h => hFc q h) hFc (fun r10 f12 t H1 locs ht hvm hw11 hB hz1 hk1 hS => ?_)
  refine tn_4 hw11 (fun hT1 hF13 hw11r hw11p => ?_); clear hw11
  obtain ⟨hw_t, hw_l⟩ := (tpg_12 hG hxo).1
  obtain ⟨-, -, -, -, -, -, ⟨ht13, -, hl13⟩, ⟨ht14, -, hl14⟩, ⟨ht15, -, -, hl15⟩, -, -, ⟨ht18, -, -, hl18⟩⟩ := tpg_11 hG hw_t
  have hJ : mo_RI (-1) 0 (mo_R (mo_i (f12 (ρ mo 2)))) := by rw [hF13 _ (by rw [hrow]; decide)]; exact hJ
  have hIM : mo_IM (mo_R (mo_i (f12 (ρ mo 3)))) := by rw [hF13 _ (by rw [hims]; decide)]; exact hIM
  have hXE : tp_X τ ρ (fun n => False) f f12 := tp_X.of hF13 (by decide)
  have m0 : tp_fld (f12 (ρ xo 0)) 0 = R_14 (11) := (congrArg (fun q => tp_fld q 0) (hXE (ρ xo 0) (Or.inr (Or.inr hw_t)) (fun q9 => q9))).trans l0
  have m1 : tp_fld (f12 (ρ xo 0)) 4 = R_14 (0) := (congrArg (fun q => tp_fld q 4) (hXE (ρ xo 0) (Or.inr (Or.inr hw_t)) (fun q9 => q9))).trans l1
  have m2 : tp_fld (f12 (ρ xo 0)) 5 = R_14 (1) := (congrArg (fun q => tp_fld q 5) (hXE (ρ xo 0) (Or.inr (Or.inr hw_t)) (fun q9 => q9))).trans l2
  have m3 : tp_fld (f12 (ρ (ρ xo 0) 13)) 3 = R_14 (3) := (congrArg (fun q => tp_fld q 3) (hXE (ρ (ρ xo 0) 13) (Or.inr (Or.inl ht13)) (fun q9 => q9))).trans l3
  have m4 : tp_fld (f12 (ρ (ρ xo 0) 14)) 3 = R_14 (7) := (congrArg (fun q => tp_fld q 3) (hXE (ρ (ρ xo 0) 14) (Or.inr (Or.inl ht14)) (fun q9 => q9))).trans l4
  have m5 : tp_fld (f12 (ρ (ρ xo 0) 15)) 2 = R_14 (6) := (congrArg (fun q => tp_fld q 2) (hXE (ρ (ρ xo 0) 15) (Or.inl ht15) (fun q9 => q9))).trans l5
  have m6 : tp_fld (f12 (ρ (ρ xo 0) 18)) 2 = R_14 (10) := (congrArg (fun q => tp_fld q 2) (hXE (ρ (ρ xo 0) 18) (Or.inl ht18) (fun q9 => q9))).trans l6
  have hPm := lz_P.keep hG hT hxo hXE (fun n q9 => by have q8 : False := q9; first | exact q8.elim | omega) (hF13 _ (by rw [(tpg_12 hG hxo).2.1]; decide)) (by rw [hF13 _ (by rw [hims]; decide)]) (by rw [hF13 _ (by rw [hkep]; decide)]) hPm
  have l0 := m0
  have l1 := m1
  have l2 := m2
  have l3 := m3
  have l4 := m4
  have l5 := m5
  have l6 := m6
  have hRe : mo_R (mo_i (f12 (ρ mo 2))) = R_14 := by rw [hF13 _ (by rw [hrow]; decide)]; exact hRe_14.symm
  have hT := hT1
  have hP := hB.1; rw [ht] at hP; have hD := tp_ad f12 hD; clear hB hFc hz1 hk1; subst ht; generalize t.heap = H at hP hS ⊢
  refine lv_pop hx hb dL_law_1077 rfl ?_
  refine lv_aload_n hx hb dL_law_1078 rfl (lv_at hl 2 rfl) ?_
  refine tgk_13 hG hmo (fun y15 y16 y17 y18 y19 y20 y21 y22 y23 y24 y25 y26 y27 y28 y29 y30 y31 y32 y33 y34 y35 y36 y37 y38 y39 => ?_)
  refine tpk_13 hT hmo (fun o40_x0 o40_x1 o40_x7 o40_x9 o40_x10 o40_x11 o40_x12 o40_x13 o40_x14 o40_x15 o40_x16 o40_x17 o40_x18 o40_x19 o40_x20 o40_x22 o40_x25 o40_x28 o40_x29 o40_x32 o40_x33 o40_x34 o40_x35 o40_x36 o40_x37 o40_x38 o40_x47 o40_x48 hf_o40 ro40_0 ro40_1 ro40_2 ro40_3 ro40_4 ro40_5 ro40_6 ro40_7 ro40_8 ro40_9 ro40_10 ro40_11 ro40_12 ro40_13 ro40_14 => ?_)
  refine tpk_pos (tp_in hG hmo (by decide)) hf_o40 (fun q41 eq41 => ?_)
  have hFc := tp_fr hD hS hA
  have hRe_46 : R_14 = mo_R (mo_i (f12 (ρ mo 2))) := hRe.symm
  refine va_calli (va_runV (As := []) (rest := []) ⟨hx, hb, hml, hown, hts⟩ (t_X12_fault l dC dI _ κ mo_n τ ν ρ L f12 hG hT mo hmo hJ) (cwV 0 hts gz_X12_fault rfl rfl rfl ⟨rfl, pd_X12_fault⟩ ⟨Nat.le_of_ble_eq_true rfl, Nat.le_of_ble_eq_true rfl⟩) ⟨pz_blind, va_recv hK hP (ci := 12) (q0 := q41) rfl eq41, pz_pre hP hK hD hN⟩ rfl rfl hl.1 rfl (lv_room (Nat.le_of_ble_eq_true rfl)) dL_law_1079 ⟨by show _ ≤ 600000; omega, by show _ ≤ 7302249; omega⟩) hS (fun q _ h => hFc q h) hFc (fun r42 f44 t H1 locs ht hvm hw43 hB hz1 hk1 hS => ?_)
  refine tn_4 hw43 (fun hT1 hF45 hw43r hw43p => ?_); clear hw43
  obtain ⟨hw_t, hw_l⟩ := (tpg_12 hG hxo).1
  obtain ⟨-, -, -, -, -, -, ⟨ht13, -, hl13⟩, ⟨ht14, -, hl14⟩, ⟨ht15, -, -, hl15⟩, -, -, ⟨ht18, -, -, hl18⟩⟩ := tpg_11 hG hw_t
  have hJ : mo_RI (-1) 0 (mo_R (mo_i (f44 (ρ mo 2)))) := by rw [hF45 _ (by rw [hrow]; decide)]; exact hJ
  have hRn : R_14 = mo_R (mo_i (f44 (ρ mo 2))) := by rw [hF45 _ (by rw [hrow]; decide)]; exact hRe_46
  have hIM : mo_IM (mo_R (mo_i (f44 (ρ mo 3)))) := by rw [hF45 _ (by rw [hims]; decide)]; exact hIM
  have m0 : tp_fld (f44 (ρ xo 0)) 0 = R_14 (11) := ((congrArg (fun q => tp_fld q 0) (hF45 (ρ xo 0) (by rw [hw_t]; decide))).trans l0)
  have m1 : tp_fld (f44 (ρ xo 0)) 4 = R_14 (0) := ((congrArg (fun q => tp_fld q 4) (hF45 (ρ xo 0) (by rw [hw_t]; decide))).trans l1)
  have m2 : tp_fld (f44 (ρ xo 0)) 5 = R_14 (1) := ((congrArg (fun q => tp_fld q 5) (hF45 (ρ xo 0) (by rw [hw_t]; decide))).trans l2)
  have m3 : tp_fld (f44 (ρ (ρ xo 0) 13)) 3 = R_14 (3) := ((congrArg (fun q => tp_fld q 3) (hF45 (ρ (ρ xo 0) 13) (by rw [ht13]; decide))).trans l3)
  have m4 : tp_fld (f44 (ρ (ρ xo 0) 14)) 3 = R_14 (7) := ((congrArg (fun q => tp_fld q 3) (hF45 (ρ (ρ xo 0) 14) (by rw [ht14]; decide))).trans l4)
  have m5 : tp_fld (f44 (ρ (ρ xo 0) 15)) 2 = R_14 (6) := ((congrArg (fun q => tp_fld q 2) (hF45 (ρ (ρ xo 0) 15) (by rw [ht15]; decide))).trans l5)
  have m6 : tp_fld (f44 (ρ (ρ xo 0) 18)) 2 = R_14 (10) := ((congrArg (fun q => tp_fld q 2) (hF45 (ρ (ρ xo 0) 18) (by rw [ht18]; decide))).trans l6)
  have l0 := m0
  have l1 := m1
  have l2 := m2
  have l3 := m3
  have l4 := m4
  have l5 := m5
  have l6 := m6
  rw [hRn] at l0 l1 l2 l3 l4 l5 l6
  have hPm := lz_P.keep hG hT hxo (tp_X.of (E := fun _ => False) hF45 (by decide)) (fun n q9 => False.elim q9) (hF45 _ (by rw [(tpg_12 hG hxo).2.1]; decide)) (by rw [hF45 _ (by rw [hims]; decide)]) (by rw [hF45 _ (by rw [hkep]; decide)]) hPm
  have hT := hT1
  have hP := hB.1; rw [ht] at hP; have hD := tp_ad f44 hD; clear hB hFc hz1 hk1; subst ht; generalize t.heap = H at hP hS ⊢
  refine lv_pop hx hb dL_law_1082 rfl ?_
  refine lv_goto (tgt := 1710) hx hb dL_law_1083 (by decide) ?_
  refine tp_widen (cells + 110) (slots + 2634) (by omega) (by omega) ?_
  exact kk τ ν ρ L f44 _ _ _ ⟨hG, hT, hxo, hmo, hJ, hIM, ⟨l0, l1, l2, l3, l4, l5, l6⟩, hPm⟩ hP hD hS (lv_sub hl [0, 1, 2, 3] rfl)
end
section
set_option maxHeartbeats 8000000 in
set_option maxRecDepth 100000 in
theorem law_case_24 {p : Program} {l : Launch} {e : Env} {s : State} {m : MethodId} {below : List Frame} {meth : Method} {c : Code} {b N9 : Nat} {xs : Nat → Int32} {dC : Nat → ClassId} {dI : Nat → Nat → Nat} {κ : Nat → ClassId} {adK adV : Nat → Nat} {zv : Option Nat} {xo mo : Nat} {k cells slots : Nat} {i : Int32} (C0 : lw_At p s m meth c b N9 xs) (hN9 : N9 ≤ 4608) (hN : nz_ok s) (hZ : pw_Z adK adV zv (fun q : Nat => s.heap.size ≤ q) s s.heap) (hK : va_K (dC, dI) vwCl (tp_K κ) s) (hk : 9 * k + 9 ≤ N9) (hi : i.toInt = 9 * (k : Int)) (hc : cells + 110 ≤ 600000) (hs : slots + 2634 ≤ 7302249) (kk : ∀ (τ ν : Nat → Nat) (ρ : Nat → Nat → Nat) (L : List Nat) (f : Nat → va_E) (H : Heap) (locs : List Loc) (ls : Array Slot), lz_I κ xo mo τ ν ρ L f → va_P (dC, dI) vwCl (va_pl L f) H → va_D (fun q : Nat => s.heap.size ≤ q) (va_pl L f) → va_S (fun q : Nat => s.heap.size ≤ q) s.heap H locs → lv_has ls 4 [(0, .ref b), (1, .ref xo), (2, .ref mo), (3, .int i)] → W p l e room_1 s m #[Value.ref b] below meth c H locs (cells + 110) (slots + 2634) (lw_Z below #[Value.ref b] s) (F0 m 1710 ls [])) {τ ν : Nat → Nat} {ρ : Nat → Nat → Nat} {L : List Nat} {f : Nat → va_E} {H : Heap} {locs : List Loc} {ls : Array Slot}  (hI : lz_I κ xo mo τ ν ρ L f) (hP : va_P (dC, dI) vwCl (va_pl L f) H) (hD : va_D (fun q : Nat => s.heap.size ≤ q) (va_pl L f)) (hS : va_S (fun q : Nat => s.heap.size ≤ q) s.heap H locs) (hl : lv_has ls 4 [(0, .ref b), (1, .ref xo), (2, .ref mo), (3, .int i)]) : W p l e room_1 s m #[Value.ref b] below meth c H locs cells slots (lw_Z below #[Value.ref b] s) (F0 m 1086 ls []) := by
  obtain ⟨hx, hb, hr, hml, hown, hts, hX, hbl, hlocks, hgv⟩ := id C0
  have hown : s.vm.findClass RL = some m.cls := hown
  have hA : ∀ q : Nat, s.heap.size ≤ q → (fun q : Nat => s.heap.size ≤ q) q := fun _ h => h
  have hbA : ¬ (fun q : Nat => s.heap.size ≤ q) b := Nat.not_le.mpr hbl
  obtain ⟨hG, hT, hxo, hmo, hJ, hIM, ⟨l0, l1, l2, l3, l4, l5, l6⟩, hPm⟩ := hI
  have hrow := (tpg_13 hG hmo).1; have hims := (tpg_13 hG hmo).2.1; have hkep := (tpg_13 hG hmo).2.2.1
  refine lv_aload_n hx hb dL_law_1086 rfl (lv_at hl 1 rfl) ?_
  refine lv_aload_n hx hb dL_law_1087 rfl (lv_at hl 0 rfl) ?_
  refine lv_iload_n hx hb dL_law_1088 rfl (lv_at hl 3 rfl) ?_
  refine lv_iconst (v := 1) hx hb dL_law_1089 (by decide) ?_
  refine lv_iadd hx hb dL_law_1090 ?_
  refine lv_topi (fun z1 ez1 => ?_)
  have iz1 : z1.toInt = i.toInt + 1 := zi_add ez1 rfl (show (1 : Int32).toInt = 1 from rfl) (by omega) (by omega)
  refine va_sld hx hb hX hbl hbA hS (vp_in_iff.mpr ⟨by omega, by omega⟩) dL_law_1091 ?_
  refine lv_topi (fun y2 ey2 => ?_)
  obtain rfl : y2 = xs (9 * k + 1) := ey2.trans (congrArg xs (show z1.toInt.toNat = 9 * k + 1 by omega))
  refine lv_aload_n hx hb dL_law_1092 rfl (lv_at hl 0 rfl) ?_
  refine lv_iload_n hx hb dL_law_1093 rfl (lv_at hl 3 rfl) ?_
  refine lv_iconst (v := 2) hx hb dL_law_1094 (by decide) ?_
  refine lv_iadd hx hb dL_law_1095 ?_
  refine lv_topi (fun z3 ez3 => ?_)
  have iz3 : z3.toInt = i.toInt + 2 := zi_add ez3 rfl (show (2 : Int32).toInt = 2 from rfl) (by omega) (by omega)
  refine va_sld hx hb hX hbl hbA hS (vp_in_iff.mpr ⟨by omega, by omega⟩) dL_law_1096 ?_
  refine lv_topi (fun y4 ey4 => ?_)
  obtain rfl : y4 = xs (9 * k + 2) := ey4.trans (congrArg xs (show z3.toInt.toNat = 9 * k + 2 by omega))
  refine lv_aload_n hx hb dL_law_1097 rfl (lv_at hl 0 rfl) ?_
  refine lv_iload_n hx hb dL_law_1098 rfl (lv_at hl 3 rfl) ?_
  refine lv_iconst (v := 3) hx hb dL_law_1099 (by decide) ?_
  refine lv_iadd hx hb dL_law_1100 ?_
  refine lv_topi (fun z5 ez5 => ?_)
  have iz5 : z5.toInt = i.toInt + 3 := zi_add ez5 rfl (show (3 : Int32).toInt = 3 from rfl) (by omega) (by omega)
  refine va_sld hx hb hX hbl hbA hS (vp_in_iff.mpr ⟨by omega, by omega⟩) dL_law_1101 ?_
  refine lv_topi (fun y6 ey6 => ?_)
  obtain rfl : y6 = xs (9 * k + 3) := ey6.trans (congrArg xs (show z5.toInt.toNat = 9 * k + 3 by omega))
  refine lv_aload_n hx hb dL_law_1102 rfl (lv_at hl 0 rfl) ?_
  refine lv_iload_n hx hb dL_law_1103 rfl (lv_at hl 3 rfl) ?_
  refine lv_iconst (v := 4) hx hb dL_law_1104 (by decide) ?_
  refine lv_iadd hx hb dL_law_1105 ?_
  refine lv_topi (fun z7 ez7 => ?_)
  have iz7 : z7.toInt = i.toInt + 4 := zi_add ez7 rfl (show (4 : Int32).toInt = 4 from rfl) (by omega) (by omega)
  refine va_sld hx hb hX hbl hbA hS (vp_in_iff.mpr ⟨by omega, by omega⟩) dL_law_1106 ?_
  refine lv_topi (fun y8 ey8 => ?_)
  obtain rfl : y8 = xs (9 * k + 4) := ey8.trans (congrArg xs (show z7.toInt.toNat = 9 * k + 4 by omega))
  refine tgk_12 hG hxo (fun y9 y9l y10 y11 y12 y13 y14 y15a y15b y15c => ?_)
  refine tpk_12 hT hxo (fun o16_x6 hf_o16 => ?_)
  refine tpk_pos (tp_in hG hxo (by decide)) hf_o16 (fun q17 eq17 => ?_)
  have hFc := tp_fr hD hS hA
  obtain ⟨R_22, hRe_22⟩ : ∃ R, R = mo_R (mo_i (f (ρ mo 2))) := ⟨_, rfl⟩; rw [← hRe_22] at l0 l1 l2 l3 l4 l5 l6
  refine va_calll (va_runV (As := [.int (xs (9 * k + 1)), .int (xs (9 * k + 2)), .int (xs (9 * k + 3)), .int (xs (9 * k + 4))]) (rest := []) ⟨hx, hb, hml, hown, hts⟩ (t_X11_due l dC dI _ (mo_O κ mo_n) κ τ ν ρ L f hG hT xo (xs (9 * k + 1)) (xs (9 * k + 2)) (xs (9 * k + 3)) (xs (9 * k + 4)) hxo) (cwV 4 hts gz_X11_due rfl rfl rfl ⟨rfl, pd_X11_due⟩ ⟨Nat.le_of_ble_eq_true rfl, Nat.le_of_ble_eq_true rfl⟩) ⟨pz_blind, va_recv hK hP (ci := 11) (q0 := q17) rfl eq17, pz_pre hP hK hD hN⟩ rfl rfl hl.1 rfl (lv_room (Nat.le_of_ble_eq_true rfl)) dL_law_1107 ⟨by show _ ≤ 600000; omega, by show _ ≤ 7302249; omega⟩) hS (fun q _ h => hFc q h) hFc (fun r18 f20 t H1 locs ht hvm hw19 hB hz1 hk1 hS => ?_)
  refine tn_4 hw19 (fun hT1 hF21 hw19r hw19p => ?_); clear hw19
  obtain ⟨hw_t, hw_l⟩ := (tpg_12 hG hxo).1
  obtain ⟨-, -, -, -, -, -, ⟨ht13, -, hl13⟩, ⟨ht14, -, hl14⟩, ⟨ht15, -, -, hl15⟩, -, -, ⟨ht18, -, -, hl18⟩⟩ := tpg_11 hG hw_t
  have hJ : mo_RI (-1) 0 (mo_R (mo_i (f20 (ρ mo 2)))) := by rw [hF21 _ (by rw [hrow]; decide)]; exact hJ
  have hIM : mo_IM (mo_R (mo_i (f20 (ρ mo 3)))) := by rw [hF21 _ (by rw [hims]; decide)]; exact hIM
  have hXE : tp_X τ ρ (fun n => False) f f20 := tp_X.of hF21 (by decide)
  have m0 : tp_fld (f20 (ρ xo 0)) 0 = R_22 (11) := (congrArg (fun q => tp_fld q 0) (hXE (ρ xo 0) (Or.inr (Or.inr hw_t)) (fun q9 => q9))).trans l0
  have m1 : tp_fld (f20 (ρ xo 0)) 4 = R_22 (0) := (congrArg (fun q => tp_fld q 4) (hXE (ρ xo 0) (Or.inr (Or.inr hw_t)) (fun q9 => q9))).trans l1
  have m2 : tp_fld (f20 (ρ xo 0)) 5 = R_22 (1) := (congrArg (fun q => tp_fld q 5) (hXE (ρ xo 0) (Or.inr (Or.inr hw_t)) (fun q9 => q9))).trans l2
  have m3 : tp_fld (f20 (ρ (ρ xo 0) 13)) 3 = R_22 (3) := (congrArg (fun q => tp_fld q 3) (hXE (ρ (ρ xo 0) 13) (Or.inr (Or.inl ht13)) (fun q9 => q9))).trans l3
  have m4 : tp_fld (f20 (ρ (ρ xo 0) 14)) 3 = R_22 (7) := (congrArg (fun q => tp_fld q 3) (hXE (ρ (ρ xo 0) 14) (Or.inr (Or.inl ht14)) (fun q9 => q9))).trans l4
  have m5 : tp_fld (f20 (ρ (ρ xo 0) 15)) 2 = R_22 (6) := (congrArg (fun q => tp_fld q 2) (hXE (ρ (ρ xo 0) 15) (Or.inl ht15) (fun q9 => q9))).trans l5
  have m6 : tp_fld (f20 (ρ (ρ xo 0) 18)) 2 = R_22 (10) := (congrArg (fun q => tp_fld q 2) (hXE (ρ (ρ xo 0) 18) (Or.inl ht18) (fun q9 => q9))).trans l6
  have hPm := lz_P.keep hG hT hxo hXE (fun n q9 => by have q8 : False := q9; first | exact q8.elim | omega) (hF21 _ (by rw [(tpg_12 hG hxo).2.1]; decide)) (by rw [hF21 _ (by rw [hims]; decide)]) (by rw [hF21 _ (by rw [hkep]; decide)]) hPm
  have l0 := m0
  have l1 := m1
  have l2 := m2
  have l3 := m3
  have l4 := m4
  have l5 := m5
  have l6 := m6
  have hRe : mo_R (mo_i (f20 (ρ mo 2))) = R_22 := by rw [hF21 _ (by rw [hrow]; decide)]; exact hRe_22.symm
  have hT := hT1
  have hP := hB.1; rw [ht] at hP; have hD := tp_ad f20 hD; clear hB hFc hz1 hk1; subst ht; generalize t.heap = H at hP hS ⊢
  refine lv_pop2_2 hx hb dL_law_1110 rfl ?_
  refine lv_aload_n hx hb dL_law_1111 rfl (lv_at hl 2 rfl) ?_
  refine lv_aload_n hx hb dL_law_1112 rfl (lv_at hl 0 rfl) ?_
  refine lv_iload_n hx hb dL_law_1113 rfl (lv_at hl 3 rfl) ?_
  refine lv_iconst (v := 1) hx hb dL_law_1114 (by decide) ?_
  refine lv_iadd hx hb dL_law_1115 ?_
  refine lv_topi (fun z23 ez23 => ?_)
  have iz23 : z23.toInt = i.toInt + 1 := zi_add ez23 rfl (show (1 : Int32).toInt = 1 from rfl) (by omega) (by omega)
  refine va_sld hx hb hX hbl hbA hS (vp_in_iff.mpr ⟨by omega, by omega⟩) dL_law_1116 ?_
  refine lv_topi (fun y24 ey24 => ?_)
  obtain rfl : y24 = xs (9 * k + 1) := ey24.trans (congrArg xs (show z23.toInt.toNat = 9 * k + 1 by omega))
  refine lv_aload_n hx hb dL_law_1117 rfl (lv_at hl 0 rfl) ?_
  refine lv_iload_n hx hb dL_law_1118 rfl (lv_at hl 3 rfl) ?_
  refine lv_iconst (v := 2) hx hb dL_law_1119 (by decide) ?_
  refine lv_iadd hx hb dL_law_1120 ?_
  refine lv_topi (fun z25 ez25 => ?_)
  have iz25 : z25.toInt = i.toInt + 2 := zi_add ez25 rfl (show (2 : Int32).toInt = 2 from rfl) (by omega) (by omega)
  refine va_sld hx hb hX hbl hbA hS (vp_in_iff.mpr ⟨by omega, by omega⟩) dL_law_1121 ?_
  refine lv_topi (fun y26 ey26 => ?_)
  obtain rfl : y26 = xs (9 * k + 2) := ey26.trans (congrArg xs (show z25.toInt.toNat = 9 * k + 2 by omega))
  refine lv_aload_n hx hb dL_law_1122 rfl (lv_at hl 0 rfl) ?_
  refine lv_iload_n hx hb dL_law_1123 rfl (lv_at hl 3 rfl) ?_
  refine lv_iconst (v := 3) hx hb dL_law_1124 (by decide) ?_
  refine lv_iadd hx hb dL_law_1125 ?_
  refine lv_topi (fun z27 ez27 => ?_)
  have iz27 : z27.toInt = i.toInt + 3 := zi_add ez27 rfl (show (3 : Int32).toInt = 3 from rfl) (by omega) (by omega)
  refine va_sld hx hb hX hbl hbA hS (vp_in_iff.mpr ⟨by omega, by omega⟩) dL_law_1126 ?_
  refine lv_topi (fun y28 ey28 => ?_)
  obtain rfl : y28 = xs (9 * k + 3) := ey28.trans (congrArg xs (show z27.toInt.toNat = 9 * k + 3 by omega))
  refine lv_aload_n hx hb dL_law_1127 rfl (lv_at hl 0 rfl) ?_
  refine lv_iload_n hx hb dL_law_1128 rfl (lv_at hl 3 rfl) ?_
  refine lv_iconst (v := 4) hx hb dL_law_1129 (by decide) ?_
  refine lv_iadd hx hb dL_law_1130 ?_
  refine lv_topi (fun z29 ez29 => ?_)
  have iz29 : z29.toInt = i.toInt + 4 := zi_add ez29 rfl (show (4 : Int32).toInt = 4 from rfl) (by omega) (by omega)
  refine va_sld hx hb hX hbl hbA hS (vp_in_iff.mpr ⟨by omega, by omega⟩) dL_law_1131 ?_
  refine lv_topi (fun y30 ey30 => ?_)
  obtain rfl : y30 = xs (9 * k + 4) := ey30.trans (congrArg xs (show z29.toInt.toNat = 9 * k + 4 by omega))
  refine tgk_13 hG hmo (fun y31 y32 y33 y34 y35 y36 y37 y38 y39 y40 y41 y42 y43 y44 y45 y46 y47 y48 y49 y50 y51 y52 y53 y54 y55 => ?_)
  refine tpk_13 hT hmo (fun o56_x0 o56_x1 o56_x7 o56_x9 o56_x10 o56_x11 o56_x12 o56_x13 o56_x14 o56_x15 o56_x16 o56_x17 o56_x18 o56_x19 o56_x20 o56_x22 o56_x25 o56_x28 o56_x29 o56_x32 o56_x33 o56_x34 o56_x35 o56_x36 o56_x37 o56_x38 o56_x47 o56_x48 hf_o56 ro56_0 ro56_1 ro56_2 ro56_3 ro56_4 ro56_5 ro56_6 ro56_7 ro56_8 ro56_9 ro56_10 ro56_11 ro56_12 ro56_13 ro56_14 => ?_)
  refine tpk_pos (tp_in hG hmo (by decide)) hf_o56 (fun q57 eq57 => ?_)
  have hFc := tp_fr hD hS hA
  have hRe_62 : R_22 = mo_R (mo_i (f20 (ρ mo 2))) := hRe.symm
  refine va_calll (va_runV (As := [.int (xs (9 * k + 1)), .int (xs (9 * k + 2)), .int (xs (9 * k + 3)), .int (xs (9 * k + 4))]) (rest := []) ⟨hx, hb, hml, hown, hts⟩ (t_X12_due l dC dI _ κ mo_n τ ν ρ L f20 hG hT mo (xs (9 * k + 1)) (xs (9 * k + 2)) (xs (9 * k + 3)) (xs (9 * k + 4)) hmo hJ) (cwV 4 hts gz_X12_due rfl rfl rfl ⟨rfl, pd_X12_due⟩ ⟨Nat.le_of_ble_eq_true rfl, Nat.le_of_ble_eq_true rfl⟩) ⟨pz_blind, va_recv hK hP (ci := 12) (q0 := q57) rfl eq57, pz_pre hP hK hD hN⟩ rfl rfl hl.1 rfl (lv_room (Nat.le_of_ble_eq_true rfl)) dL_law_1132 ⟨by show _ ≤ 600000; omega, by show _ ≤ 7302249; omega⟩) hS (fun q _ h => hFc q h) hFc (fun r58 f60 t H1 locs ht hvm hw59 hB hz1 hk1 hS => ?_)
  refine tn_4 hw59 (fun hT1 hF61 hw59r hw59p => ?_); clear hw59
  obtain ⟨hw_t, hw_l⟩ := (tpg_12 hG hxo).1
  obtain ⟨-, -, -, -, -, -, ⟨ht13, -, hl13⟩, ⟨ht14, -, hl14⟩, ⟨ht15, -, -, hl15⟩, -, -, ⟨ht18, -, -, hl18⟩⟩ := tpg_11 hG hw_t
  have hJ : mo_RI (-1) 0 (mo_R (mo_i (f60 (ρ mo 2)))) := by rw [hF61 _ (by rw [hrow]; decide)]; exact hJ
  have hRn : R_22 = mo_R (mo_i (f60 (ρ mo 2))) := by rw [hF61 _ (by rw [hrow]; decide)]; exact hRe_62
  have hIM : mo_IM (mo_R (mo_i (f60 (ρ mo 3)))) := by rw [hF61 _ (by rw [hims]; decide)]; exact hIM
  have m0 : tp_fld (f60 (ρ xo 0)) 0 = R_22 (11) := ((congrArg (fun q => tp_fld q 0) (hF61 (ρ xo 0) (by rw [hw_t]; decide))).trans l0)
  have m1 : tp_fld (f60 (ρ xo 0)) 4 = R_22 (0) := ((congrArg (fun q => tp_fld q 4) (hF61 (ρ xo 0) (by rw [hw_t]; decide))).trans l1)
  have m2 : tp_fld (f60 (ρ xo 0)) 5 = R_22 (1) := ((congrArg (fun q => tp_fld q 5) (hF61 (ρ xo 0) (by rw [hw_t]; decide))).trans l2)
  have m3 : tp_fld (f60 (ρ (ρ xo 0) 13)) 3 = R_22 (3) := ((congrArg (fun q => tp_fld q 3) (hF61 (ρ (ρ xo 0) 13) (by rw [ht13]; decide))).trans l3)
  have m4 : tp_fld (f60 (ρ (ρ xo 0) 14)) 3 = R_22 (7) := ((congrArg (fun q => tp_fld q 3) (hF61 (ρ (ρ xo 0) 14) (by rw [ht14]; decide))).trans l4)
  have m5 : tp_fld (f60 (ρ (ρ xo 0) 15)) 2 = R_22 (6) := ((congrArg (fun q => tp_fld q 2) (hF61 (ρ (ρ xo 0) 15) (by rw [ht15]; decide))).trans l5)
  have m6 : tp_fld (f60 (ρ (ρ xo 0) 18)) 2 = R_22 (10) := ((congrArg (fun q => tp_fld q 2) (hF61 (ρ (ρ xo 0) 18) (by rw [ht18]; decide))).trans l6)
  have l0 := m0
  have l1 := m1
  have l2 := m2
  have l3 := m3
  have l4 := m4
  have l5 := m5
  have l6 := m6
  rw [hRn] at l0 l1 l2 l3 l4 l5 l6
  have hPm := lz_P.keep hG hT hxo (tp_X.of (E := fun _ => False) hF61 (by decide)) (fun n q9 => False.elim q9) (hF61 _ (by rw [(tpg_12 hG hxo).2.1]; decide)) (by rw [hF61 _ (by rw [hims]; decide)]) (by rw [hF61 _ (by rw [hkep]; decide)]) hPm
  have hT := hT1
  have hP := hB.1; rw [ht] at hP; have hD := tp_ad f60 hD; clear hB hFc hz1 hk1; subst ht; generalize t.heap = H at hP hS ⊢
  refine lv_pop2_2 hx hb dL_law_1135 rfl ?_
  refine lv_goto (tgt := 1710) hx hb dL_law_1136 (by decide) ?_
  refine tp_widen (cells + 110) (slots + 2634) (by omega) (by omega) ?_
  exact kk τ ν ρ L f60 _ _ _ ⟨hG, hT, hxo, hmo, hJ, hIM, ⟨l0, l1, l2, l3, l4, l5, l6⟩, hPm⟩ hP hD hS (lv_sub hl [0, 1, 2, 3] rfl)
set_option maxHeartbeats 8000000 in
set_option maxRecDepth 100000 in
theorem law_case_25 {p : Program} {l : Launch} {e : Env} {s : State} {m : MethodId} {below : List Frame} {meth : Method} {c : Code} {b N9 : Nat} {xs : Nat → Int32} {dC : Nat → ClassId} {dI : Nat → Nat → Nat} {κ : Nat → ClassId} {adK adV : Nat → Nat} {zv : Option Nat} {xo mo : Nat} {k cells slots : Nat} {i : Int32} (C0 : lw_At p s m meth c b N9 xs) (hN9 : N9 ≤ 4608) (hN : nz_ok s) (hZ : pw_Z adK adV zv (fun q : Nat => s.heap.size ≤ q) s s.heap) (hK : va_K (dC, dI) vwCl (tp_K κ) s) (hk : 9 * k + 9 ≤ N9) (hi : i.toInt = 9 * (k : Int)) (hc : cells + 110 ≤ 600000) (hs : slots + 2634 ≤ 7302249) (kk : ∀ (τ ν : Nat → Nat) (ρ : Nat → Nat → Nat) (L : List Nat) (f : Nat → va_E) (H : Heap) (locs : List Loc) (ls : Array Slot), lz_I κ xo mo τ ν ρ L f → va_P (dC, dI) vwCl (va_pl L f) H → va_D (fun q : Nat => s.heap.size ≤ q) (va_pl L f) → va_S (fun q : Nat => s.heap.size ≤ q) s.heap H locs → lv_has ls 4 [(0, .ref b), (1, .ref xo), (2, .ref mo), (3, .int i)] → W p l e room_1 s m #[Value.ref b] below meth c H locs (cells + 110) (slots + 2634) (lw_Z below #[Value.ref b] s) (F0 m 1710 ls [])) {τ ν : Nat → Nat} {ρ : Nat → Nat → Nat} {L : List Nat} {f : Nat → va_E} {H : Heap} {locs : List Loc} {ls : Array Slot}  (hI : lz_I κ xo mo τ ν ρ L f) (hP : va_P (dC, dI) vwCl (va_pl L f) H) (hD : va_D (fun q : Nat => s.heap.size ≤ q) (va_pl L f)) (hS : va_S (fun q : Nat => s.heap.size ≤ q) s.heap H locs) (hl : lv_has ls 4 [(0, .ref b), (1, .ref xo), (2, .ref mo), (3, .int i)]) : W p l e room_1 s m #[Value.ref b] below meth c H locs cells slots (lw_Z below #[Value.ref b] s) (F0 m 1139 ls []) := by
  obtain ⟨hx, hb, hr, hml, hown, hts, hX, hbl, hlocks, hgv⟩ := id C0
  have hown : s.vm.findClass RL = some m.cls := hown
  have hA : ∀ q : Nat, s.heap.size ≤ q → (fun q : Nat => s.heap.size ≤ q) q := fun _ h => h
  have hbA : ¬ (fun q : Nat => s.heap.size ≤ q) b := Nat.not_le.mpr hbl
  obtain ⟨hG, hT, hxo, hmo, hJ, hIM, ⟨l0, l1, l2, l3, l4, l5, l6⟩, hPm⟩ := hI
  have hrow := (tpg_13 hG hmo).1; have hims := (tpg_13 hG hmo).2.1; have hkep := (tpg_13 hG hmo).2.2.1
  refine lv_aload_n hx hb dL_law_1139 rfl (lv_at hl 1 rfl) ?_
  refine lv_aload_n hx hb dL_law_1140 rfl (lv_at hl 0 rfl) ?_
  refine lv_iload_n hx hb dL_law_1141 rfl (lv_at hl 3 rfl) ?_
  refine lv_iconst (v := 1) hx hb dL_law_1142 (by decide) ?_
  refine lv_iadd hx hb dL_law_1143 ?_
  refine lv_topi (fun z1 ez1 => ?_)
  have iz1 : z1.toInt = i.toInt + 1 := zi_add ez1 rfl (show (1 : Int32).toInt = 1 from rfl) (by omega) (by omega)
  refine va_sld hx hb hX hbl hbA hS (vp_in_iff.mpr ⟨by omega, by omega⟩) dL_law_1144 ?_
  refine lv_topi (fun y2 ey2 => ?_)
  obtain rfl : y2 = xs (9 * k + 1) := ey2.trans (congrArg xs (show z1.toInt.toNat = 9 * k + 1 by omega))
  refine lv_aload_n hx hb dL_law_1145 rfl (lv_at hl 0 rfl) ?_
  refine lv_iload_n hx hb dL_law_1146 rfl (lv_at hl 3 rfl) ?_
  refine lv_iconst (v := 2) hx hb dL_law_1147 (by decide) ?_
  refine lv_iadd hx hb dL_law_1148 ?_
  refine lv_topi (fun z3 ez3 => ?_)
  have iz3 : z3.toInt = i.toInt + 2 := zi_add ez3 rfl (show (2 : Int32).toInt = 2 from rfl) (by omega) (by omega)
  refine va_sld hx hb hX hbl hbA hS (vp_in_iff.mpr ⟨by omega, by omega⟩) dL_law_1149 ?_
  refine lv_topi (fun y4 ey4 => ?_)
  obtain rfl : y4 = xs (9 * k + 2) := ey4.trans (congrArg xs (show z3.toInt.toNat = 9 * k + 2 by omega))
  refine tgk_12 hG hxo (fun y5 y5l y6 y7 y8 y9 y10 y11a y11b y11c => ?_)
  refine tpk_12 hT hxo (fun o12_x6 hf_o12 => ?_)
  refine tpk_pos (tp_in hG hxo (by decide)) hf_o12 (fun q13 eq13 => ?_)
  have hFc := tp_fr hD hS hA
  obtain ⟨R_18, hRe_18⟩ : ∃ R, R = mo_R (mo_i (f (ρ mo 2))) := ⟨_, rfl⟩; rw [← hRe_18] at l0 l1 l2 l3 l4 l5 l6
  refine va_calli (va_runV (As := [.int (xs (9 * k + 1)), .int (xs (9 * k + 2))]) (rest := []) ⟨hx, hb, hml, hown, hts⟩ (t_X11_settle l dC dI _ (mo_O κ mo_n) κ τ ν ρ L f hG hT xo (xs (9 * k + 1)) (xs (9 * k + 2)) hxo) (cwV 2 hts gz_X11_settle rfl rfl rfl ⟨rfl, pd_X11_settle⟩ ⟨Nat.le_of_ble_eq_true rfl, Nat.le_of_ble_eq_true rfl⟩) ⟨pz_blind, va_recv hK hP (ci := 11) (q0 := q13) rfl eq13, pz_pre hP hK hD hN⟩ rfl rfl hl.1 rfl (lv_room (Nat.le_of_ble_eq_true rfl)) dL_law_1150 ⟨by show _ ≤ 600000; omega, by show _ ≤ 7302249; omega⟩) hS (fun q _ h => hFc q h) hFc (fun r14 f16 t H1 locs ht hvm hw15 hB hz1 hk1 hS => ?_)
  refine tn_4 hw15 (fun hT1 hF17 hw15r hw15p => ?_); clear hw15
  obtain ⟨hw_t, hw_l⟩ := (tpg_12 hG hxo).1
  obtain ⟨-, -, -, -, -, -, ⟨ht13, -, hl13⟩, ⟨ht14, -, hl14⟩, ⟨ht15, -, -, hl15⟩, -, -, ⟨ht18, -, -, hl18⟩⟩ := tpg_11 hG hw_t
  have hJ : mo_RI (-1) 0 (mo_R (mo_i (f16 (ρ mo 2)))) := by rw [hF17 _ (by rw [hrow]; decide)]; exact hJ
  have hIM : mo_IM (mo_R (mo_i (f16 (ρ mo 3)))) := by rw [hF17 _ (by rw [hims]; decide)]; exact hIM
  have hXE : tp_X τ ρ (fun n => False) f f16 := tp_X.of hF17 (by decide)
  have m0 : tp_fld (f16 (ρ xo 0)) 0 = R_18 (11) := (congrArg (fun q => tp_fld q 0) (hXE (ρ xo 0) (Or.inr (Or.inr hw_t)) (fun q9 => q9))).trans l0
  have m1 : tp_fld (f16 (ρ xo 0)) 4 = R_18 (0) := (congrArg (fun q => tp_fld q 4) (hXE (ρ xo 0) (Or.inr (Or.inr hw_t)) (fun q9 => q9))).trans l1
  have m2 : tp_fld (f16 (ρ xo 0)) 5 = R_18 (1) := (congrArg (fun q => tp_fld q 5) (hXE (ρ xo 0) (Or.inr (Or.inr hw_t)) (fun q9 => q9))).trans l2
  have m3 : tp_fld (f16 (ρ (ρ xo 0) 13)) 3 = R_18 (3) := (congrArg (fun q => tp_fld q 3) (hXE (ρ (ρ xo 0) 13) (Or.inr (Or.inl ht13)) (fun q9 => q9))).trans l3
  have m4 : tp_fld (f16 (ρ (ρ xo 0) 14)) 3 = R_18 (7) := (congrArg (fun q => tp_fld q 3) (hXE (ρ (ρ xo 0) 14) (Or.inr (Or.inl ht14)) (fun q9 => q9))).trans l4
  have m5 : tp_fld (f16 (ρ (ρ xo 0) 15)) 2 = R_18 (6) := (congrArg (fun q => tp_fld q 2) (hXE (ρ (ρ xo 0) 15) (Or.inl ht15) (fun q9 => q9))).trans l5
  have m6 : tp_fld (f16 (ρ (ρ xo 0) 18)) 2 = R_18 (10) := (congrArg (fun q => tp_fld q 2) (hXE (ρ (ρ xo 0) 18) (Or.inl ht18) (fun q9 => q9))).trans l6
  have hPm := lz_P.keep hG hT hxo hXE (fun n q9 => by have q8 : False := q9; first | exact q8.elim | omega) (hF17 _ (by rw [(tpg_12 hG hxo).2.1]; decide)) (by rw [hF17 _ (by rw [hims]; decide)]) (by rw [hF17 _ (by rw [hkep]; decide)]) hPm
  have l0 := m0
  have l1 := m1
  have l2 := m2
  have l3 := m3
  have l4 := m4
  have l5 := m5
  have l6 := m6
  have hRe : mo_R (mo_i (f16 (ρ mo 2))) = R_18 := by rw [hF17 _ (by rw [hrow]; decide)]; exact hRe_18.symm
  have hT := hT1
  have hP := hB.1; rw [ht] at hP; have hD := tp_ad f16 hD; clear hB hFc hz1 hk1; subst ht; generalize t.heap = H at hP hS ⊢
  refine lv_pop hx hb dL_law_1153 rfl ?_
  refine lv_aload_n hx hb dL_law_1154 rfl (lv_at hl 2 rfl) ?_
  refine lv_aload_n hx hb dL_law_1155 rfl (lv_at hl 0 rfl) ?_
  refine lv_iload_n hx hb dL_law_1156 rfl (lv_at hl 3 rfl) ?_
  refine lv_iconst (v := 1) hx hb dL_law_1157 (by decide) ?_
  refine lv_iadd hx hb dL_law_1158 ?_
  refine lv_topi (fun z19 ez19 => ?_)
  have iz19 : z19.toInt = i.toInt + 1 := zi_add ez19 rfl (show (1 : Int32).toInt = 1 from rfl) (by omega) (by omega)
  refine va_sld hx hb hX hbl hbA hS (vp_in_iff.mpr ⟨by omega, by omega⟩) dL_law_1159 ?_
  refine lv_topi (fun y20 ey20 => ?_)
  obtain rfl : y20 = xs (9 * k + 1) := ey20.trans (congrArg xs (show z19.toInt.toNat = 9 * k + 1 by omega))
  refine lv_aload_n hx hb dL_law_1160 rfl (lv_at hl 0 rfl) ?_
  refine lv_iload_n hx hb dL_law_1161 rfl (lv_at hl 3 rfl) ?_
  refine lv_iconst (v := 2) hx hb dL_law_1162 (by decide) ?_
  refine lv_iadd hx hb dL_law_1163 ?_
  refine lv_topi (fun z21 ez21 => ?_)
  have iz21 : z21.toInt = i.toInt + 2 := zi_add ez21 rfl (show (2 : Int32).toInt = 2 from rfl) (by omega) (by omega)
  refine va_sld hx hb hX hbl hbA hS (vp_in_iff.mpr ⟨by omega, by omega⟩) dL_law_1164 ?_
  refine lv_topi (fun y22 ey22 => ?_)
  obtain rfl : y22 = xs (9 * k + 2) := ey22.trans (congrArg xs (show z21.toInt.toNat = 9 * k + 2 by omega))
  refine tgk_13 hG hmo (fun y23 y24 y25 y26 y27 y28 y29 y30 y31 y32 y33 y34 y35 y36 y37 y38 y39 y40 y41 y42 y43 y44 y45 y46 y47 => ?_)
  refine tpk_13 hT hmo (fun o48_x0 o48_x1 o48_x7 o48_x9 o48_x10 o48_x11 o48_x12 o48_x13 o48_x14 o48_x15 o48_x16 o48_x17 o48_x18 o48_x19 o48_x20 o48_x22 o48_x25 o48_x28 o48_x29 o48_x32 o48_x33 o48_x34 o48_x35 o48_x36 o48_x37 o48_x38 o48_x47 o48_x48 hf_o48 ro48_0 ro48_1 ro48_2 ro48_3 ro48_4 ro48_5 ro48_6 ro48_7 ro48_8 ro48_9 ro48_10 ro48_11 ro48_12 ro48_13 ro48_14 => ?_)
  refine tpk_pos (tp_in hG hmo (by decide)) hf_o48 (fun q49 eq49 => ?_)
  have hFc := tp_fr hD hS hA
  have hRe_54 : R_18 = mo_R (mo_i (f16 (ρ mo 2))) := hRe.symm
  refine va_calli (va_runV (As := [.int (xs (9 * k + 1)), .int (xs (9 * k + 2))]) (rest := []) ⟨hx, hb, hml, hown, hts⟩ (t_X12_settle l dC dI _ κ mo_n τ ν ρ L f16 hG hT mo (xs (9 * k + 1)) (xs (9 * k + 2)) hmo hJ) (cwV 2 hts gz_X12_settle rfl rfl rfl ⟨rfl, pd_X12_settle⟩ ⟨Nat.le_of_ble_eq_true rfl, Nat.le_of_ble_eq_true rfl⟩) ⟨pz_blind, va_recv hK hP (ci := 12) (q0 := q49) rfl eq49, pz_pre hP hK hD hN⟩ rfl rfl hl.1 rfl (lv_room (Nat.le_of_ble_eq_true rfl)) dL_law_1165 ⟨by show _ ≤ 600000; omega, by show _ ≤ 7302249; omega⟩) hS (fun q _ h => hFc q h) hFc (fun r50 f52 t H1 locs ht hvm hw51 hB hz1 hk1 hS => ?_)
  refine tn_4 hw51 (fun hT1 hF53 hw51r hw51p => ?_); clear hw51
  obtain ⟨hw_t, hw_l⟩ := (tpg_12 hG hxo).1
  obtain ⟨-, -, -, -, -, -, ⟨ht13, -, hl13⟩, ⟨ht14, -, hl14⟩, ⟨ht15, -, -, hl15⟩, -, -, ⟨ht18, -, -, hl18⟩⟩ := tpg_11 hG hw_t
  obtain ⟨hJ, hw51pb⟩ := hw51p
  obtain ⟨Rn, hRn⟩ : ∃ R, R = mo_R (mo_i (f52 (ρ mo 2))) := ⟨_, rfl⟩
  rw [← hRn, ← hRe_54] at hw51pb
  have hKN := hw51pb
  have hIM : mo_IM (mo_R (mo_i (f52 (ρ mo 3)))) := by rw [hF53 _ (by rw [hims]; decide)]; exact hIM
  have m0 : tp_fld (f52 (ρ xo 0)) 0 = Rn (11) := ((congrArg (fun q => tp_fld q 0) (hF53 (ρ xo 0) (by rw [hw_t]; decide))).trans l0).trans (hKN (11) (by decide) (by decide) (fun q9 => by have q8 : False := q9; omega)).symm
  have m1 : tp_fld (f52 (ρ xo 0)) 4 = Rn (0) := ((congrArg (fun q => tp_fld q 4) (hF53 (ρ xo 0) (by rw [hw_t]; decide))).trans l1).trans (hKN (0) (by decide) (by decide) (fun q9 => by have q8 : False := q9; omega)).symm
  have m2 : tp_fld (f52 (ρ xo 0)) 5 = Rn (1) := ((congrArg (fun q => tp_fld q 5) (hF53 (ρ xo 0) (by rw [hw_t]; decide))).trans l2).trans (hKN (1) (by decide) (by decide) (fun q9 => by have q8 : False := q9; omega)).symm
  have m3 : tp_fld (f52 (ρ (ρ xo 0) 13)) 3 = Rn (3) := ((congrArg (fun q => tp_fld q 3) (hF53 (ρ (ρ xo 0) 13) (by rw [ht13]; decide))).trans l3).trans (hKN (3) (by decide) (by decide) (fun q9 => by have q8 : False := q9; omega)).symm
  have m4 : tp_fld (f52 (ρ (ρ xo 0) 14)) 3 = Rn (7) := ((congrArg (fun q => tp_fld q 3) (hF53 (ρ (ρ xo 0) 14) (by rw [ht14]; decide))).trans l4).trans (hKN (7) (by decide) (by decide) (fun q9 => by have q8 : False := q9; omega)).symm
  have m5 : tp_fld (f52 (ρ (ρ xo 0) 15)) 2 = Rn (6) := ((congrArg (fun q => tp_fld q 2) (hF53 (ρ (ρ xo 0) 15) (by rw [ht15]; decide))).trans l5).trans (hKN (6) (by decide) (by decide) (fun q9 => by have q8 : False := q9; omega)).symm
  have m6 : tp_fld (f52 (ρ (ρ xo 0) 18)) 2 = Rn (10) := ((congrArg (fun q => tp_fld q 2) (hF53 (ρ (ρ xo 0) 18) (by rw [ht18]; decide))).trans l6).trans (hKN (10) (by decide) (by decide) (fun q9 => by have q8 : False := q9; omega)).symm
  have l0 := m0
  have l1 := m1
  have l2 := m2
  have l3 := m3
  have l4 := m4
  have l5 := m5
  have l6 := m6
  rw [hRn] at l0 l1 l2 l3 l4 l5 l6
  have hPm := lz_P.keep hG hT hxo (tp_X.of (E := fun _ => False) hF53 (by decide)) (fun n q9 => False.elim q9) (hF53 _ (by rw [(tpg_12 hG hxo).2.1]; decide)) (by rw [hF53 _ (by rw [hims]; decide)]) (by rw [hF53 _ (by rw [hkep]; decide)]) hPm
  have hT := hT1
  have hP := hB.1; rw [ht] at hP; have hD := tp_ad f52 hD; clear hB hFc hz1 hk1; subst ht; generalize t.heap = H at hP hS ⊢
  refine lv_pop hx hb dL_law_1168 rfl ?_
  refine lv_goto (tgt := 1710) hx hb dL_law_1169 (by decide) ?_
  refine tp_widen (cells + 110) (slots + 2634) (by omega) (by omega) ?_
  exact kk τ ν ρ L f52 _ _ _ ⟨hG, hT, hxo, hmo, hJ, hIM, ⟨l0, l1, l2, l3, l4, l5, l6⟩, hPm⟩ hP hD hS (lv_sub hl [0, 1, 2, 3] rfl)
set_option maxHeartbeats 8000000 in
set_option maxRecDepth 100000 in
theorem law_case_26 {p : Program} {l : Launch} {e : Env} {s : State} {m : MethodId} {below : List Frame} {meth : Method} {c : Code} {b N9 : Nat} {xs : Nat → Int32} {dC : Nat → ClassId} {dI : Nat → Nat → Nat} {κ : Nat → ClassId} {adK adV : Nat → Nat} {zv : Option Nat} {xo mo : Nat} {k cells slots : Nat} {i : Int32} (C0 : lw_At p s m meth c b N9 xs) (hN9 : N9 ≤ 4608) (hN : nz_ok s) (hZ : pw_Z adK adV zv (fun q : Nat => s.heap.size ≤ q) s s.heap) (hK : va_K (dC, dI) vwCl (tp_K κ) s) (hk : 9 * k + 9 ≤ N9) (hi : i.toInt = 9 * (k : Int)) (hc : cells + 110 ≤ 600000) (hs : slots + 2634 ≤ 7302249) (kk : ∀ (τ ν : Nat → Nat) (ρ : Nat → Nat → Nat) (L : List Nat) (f : Nat → va_E) (H : Heap) (locs : List Loc) (ls : Array Slot), lz_I κ xo mo τ ν ρ L f → va_P (dC, dI) vwCl (va_pl L f) H → va_D (fun q : Nat => s.heap.size ≤ q) (va_pl L f) → va_S (fun q : Nat => s.heap.size ≤ q) s.heap H locs → lv_has ls 4 [(0, .ref b), (1, .ref xo), (2, .ref mo), (3, .int i)] → W p l e room_1 s m #[Value.ref b] below meth c H locs (cells + 110) (slots + 2634) (lw_Z below #[Value.ref b] s) (F0 m 1710 ls [])) {τ ν : Nat → Nat} {ρ : Nat → Nat → Nat} {L : List Nat} {f : Nat → va_E} {H : Heap} {locs : List Loc} {ls : Array Slot}  (hI : lz_I κ xo mo τ ν ρ L f) (hP : va_P (dC, dI) vwCl (va_pl L f) H) (hD : va_D (fun q : Nat => s.heap.size ≤ q) (va_pl L f)) (hS : va_S (fun q : Nat => s.heap.size ≤ q) s.heap H locs) (hl : lv_has ls 4 [(0, .ref b), (1, .ref xo), (2, .ref mo), (3, .int i)]) : W p l e room_1 s m #[Value.ref b] below meth c H locs cells slots (lw_Z below #[Value.ref b] s) (F0 m 1172 ls []) := by
  obtain ⟨hx, hb, hr, hml, hown, hts, hX, hbl, hlocks, hgv⟩ := id C0
  have hown : s.vm.findClass RL = some m.cls := hown
  have hA : ∀ q : Nat, s.heap.size ≤ q → (fun q : Nat => s.heap.size ≤ q) q := fun _ h => h
  have hbA : ¬ (fun q : Nat => s.heap.size ≤ q) b := Nat.not_le.mpr hbl
  obtain ⟨hG, hT, hxo, hmo, hJ, hIM, ⟨l0, l1, l2, l3, l4, l5, l6⟩, hPm⟩ := hI
  have hrow := (tpg_13 hG hmo).1; have hims := (tpg_13 hG hmo).2.1; have hkep := (tpg_13 hG hmo).2.2.1
  refine lv_aload_n hx hb dL_law_1172 rfl (lv_at hl 1 rfl) ?_
  refine lv_aload_n hx hb dL_law_1173 rfl (lv_at hl 0 rfl) ?_
  refine lv_iload_n hx hb dL_law_1174 rfl (lv_at hl 3 rfl) ?_
  refine lv_iconst (v := 1) hx hb dL_law_1175 (by decide) ?_
  refine lv_iadd hx hb dL_law_1176 ?_
  refine lv_topi (fun z1 ez1 => ?_)
  have iz1 : z1.toInt = i.toInt + 1 := zi_add ez1 rfl (show (1 : Int32).toInt = 1 from rfl) (by omega) (by omega)
  refine va_sld hx hb hX hbl hbA hS (vp_in_iff.mpr ⟨by omega, by omega⟩) dL_law_1177 ?_
  refine lv_topi (fun y2 ey2 => ?_)
  obtain rfl : y2 = xs (9 * k + 1) := ey2.trans (congrArg xs (show z1.toInt.toNat = 9 * k + 1 by omega))
  refine lv_aload_n hx hb dL_law_1178 rfl (lv_at hl 0 rfl) ?_
  refine lv_iload_n hx hb dL_law_1179 rfl (lv_at hl 3 rfl) ?_
  refine lv_iconst (v := 2) hx hb dL_law_1180 (by decide) ?_
  refine lv_iadd hx hb dL_law_1181 ?_
  refine lv_topi (fun z3 ez3 => ?_)
  have iz3 : z3.toInt = i.toInt + 2 := zi_add ez3 rfl (show (2 : Int32).toInt = 2 from rfl) (by omega) (by omega)
  refine va_sld hx hb hX hbl hbA hS (vp_in_iff.mpr ⟨by omega, by omega⟩) dL_law_1182 ?_
  refine lv_topi (fun y4 ey4 => ?_)
  obtain rfl : y4 = xs (9 * k + 2) := ey4.trans (congrArg xs (show z3.toInt.toNat = 9 * k + 2 by omega))
  refine tgk_12 hG hxo (fun y5 y5l y6 y7 y8 y9 y10 y11a y11b y11c => ?_)
  refine tpk_12 hT hxo (fun o12_x6 hf_o12 => ?_)
  refine tpk_pos (tp_in hG hxo (by decide)) hf_o12 (fun q13 eq13 => ?_)
  have hFc := tp_fr hD hS hA
  obtain ⟨R_18, hRe_18⟩ : ∃ R, R = mo_R (mo_i (f (ρ mo 2))) := ⟨_, rfl⟩; rw [← hRe_18] at l0 l1 l2 l3 l4 l5 l6
  refine va_calll (va_runV (As := [.int (xs (9 * k + 1)), .int (xs (9 * k + 2))]) (rest := []) ⟨hx, hb, hml, hown, hts⟩ (t_X11_settled l dC dI _ (mo_O κ mo_n) κ τ ν ρ L f hG hT xo (xs (9 * k + 1)) (xs (9 * k + 2)) hxo) (cwV 2 hts gz_X11_settled rfl rfl rfl ⟨rfl, pd_X11_settled⟩ ⟨Nat.le_of_ble_eq_true rfl, Nat.le_of_ble_eq_true rfl⟩) ⟨pz_blind, va_recv hK hP (ci := 11) (q0 := q13) rfl eq13, pz_pre hP hK hD hN⟩ rfl rfl hl.1 rfl (lv_room (Nat.le_of_ble_eq_true rfl)) dL_law_1183 ⟨by show _ ≤ 600000; omega, by show _ ≤ 7302249; omega⟩) hS (fun q _ h => hFc q h) hFc (fun r14 f16 t H1 locs ht hvm hw15 hB hz1 hk1 hS => ?_)
  refine tn_4 hw15 (fun hT1 hF17 hw15r hw15p => ?_); clear hw15
  obtain ⟨hw_t, hw_l⟩ := (tpg_12 hG hxo).1
  obtain ⟨-, -, -, -, -, -, ⟨ht13, -, hl13⟩, ⟨ht14, -, hl14⟩, ⟨ht15, -, -, hl15⟩, -, -, ⟨ht18, -, -, hl18⟩⟩ := tpg_11 hG hw_t
  have hJ : mo_RI (-1) 0 (mo_R (mo_i (f16 (ρ mo 2)))) := by rw [hF17 _ (by rw [hrow]; decide)]; exact hJ
  have hIM : mo_IM (mo_R (mo_i (f16 (ρ mo 3)))) := by rw [hF17 _ (by rw [hims]; decide)]; exact hIM
  have hXE : tp_X τ ρ (fun n => False) f f16 := tp_X.of hF17 (by decide)
  have m0 : tp_fld (f16 (ρ xo 0)) 0 = R_18 (11) := (congrArg (fun q => tp_fld q 0) (hXE (ρ xo 0) (Or.inr (Or.inr hw_t)) (fun q9 => q9))).trans l0
  have m1 : tp_fld (f16 (ρ xo 0)) 4 = R_18 (0) := (congrArg (fun q => tp_fld q 4) (hXE (ρ xo 0) (Or.inr (Or.inr hw_t)) (fun q9 => q9))).trans l1
  have m2 : tp_fld (f16 (ρ xo 0)) 5 = R_18 (1) := (congrArg (fun q => tp_fld q 5) (hXE (ρ xo 0) (Or.inr (Or.inr hw_t)) (fun q9 => q9))).trans l2
  have m3 : tp_fld (f16 (ρ (ρ xo 0) 13)) 3 = R_18 (3) := (congrArg (fun q => tp_fld q 3) (hXE (ρ (ρ xo 0) 13) (Or.inr (Or.inl ht13)) (fun q9 => q9))).trans l3
  have m4 : tp_fld (f16 (ρ (ρ xo 0) 14)) 3 = R_18 (7) := (congrArg (fun q => tp_fld q 3) (hXE (ρ (ρ xo 0) 14) (Or.inr (Or.inl ht14)) (fun q9 => q9))).trans l4
  have m5 : tp_fld (f16 (ρ (ρ xo 0) 15)) 2 = R_18 (6) := (congrArg (fun q => tp_fld q 2) (hXE (ρ (ρ xo 0) 15) (Or.inl ht15) (fun q9 => q9))).trans l5
  have m6 : tp_fld (f16 (ρ (ρ xo 0) 18)) 2 = R_18 (10) := (congrArg (fun q => tp_fld q 2) (hXE (ρ (ρ xo 0) 18) (Or.inl ht18) (fun q9 => q9))).trans l6
  have hPm := lz_P.keep hG hT hxo hXE (fun n q9 => by have q8 : False := q9; first | exact q8.elim | omega) (hF17 _ (by rw [(tpg_12 hG hxo).2.1]; decide)) (by rw [hF17 _ (by rw [hims]; decide)]) (by rw [hF17 _ (by rw [hkep]; decide)]) hPm
  have l0 := m0
  have l1 := m1
  have l2 := m2
  have l3 := m3
  have l4 := m4
  have l5 := m5
  have l6 := m6
  have hRe : mo_R (mo_i (f16 (ρ mo 2))) = R_18 := by rw [hF17 _ (by rw [hrow]; decide)]; exact hRe_18.symm
  have hT := hT1
  have hP := hB.1; rw [ht] at hP; have hD := tp_ad f16 hD; clear hB hFc hz1 hk1; subst ht; generalize t.heap = H at hP hS ⊢
  refine lv_pop2_2 hx hb dL_law_1186 rfl ?_
  refine lv_aload_n hx hb dL_law_1187 rfl (lv_at hl 2 rfl) ?_
  refine lv_aload_n hx hb dL_law_1188 rfl (lv_at hl 0 rfl) ?_
  refine lv_iload_n hx hb dL_law_1189 rfl (lv_at hl 3 rfl) ?_
  refine lv_iconst (v := 1) hx hb dL_law_1190 (by decide) ?_
  refine lv_iadd hx hb dL_law_1191 ?_
  refine lv_topi (fun z19 ez19 => ?_)
  have iz19 : z19.toInt = i.toInt + 1 := zi_add ez19 rfl (show (1 : Int32).toInt = 1 from rfl) (by omega) (by omega)
  refine va_sld hx hb hX hbl hbA hS (vp_in_iff.mpr ⟨by omega, by omega⟩) dL_law_1192 ?_
  refine lv_topi (fun y20 ey20 => ?_)
  obtain rfl : y20 = xs (9 * k + 1) := ey20.trans (congrArg xs (show z19.toInt.toNat = 9 * k + 1 by omega))
  refine lv_aload_n hx hb dL_law_1193 rfl (lv_at hl 0 rfl) ?_
  refine lv_iload_n hx hb dL_law_1194 rfl (lv_at hl 3 rfl) ?_
  refine lv_iconst (v := 2) hx hb dL_law_1195 (by decide) ?_
  refine lv_iadd hx hb dL_law_1196 ?_
  refine lv_topi (fun z21 ez21 => ?_)
  have iz21 : z21.toInt = i.toInt + 2 := zi_add ez21 rfl (show (2 : Int32).toInt = 2 from rfl) (by omega) (by omega)
  refine va_sld hx hb hX hbl hbA hS (vp_in_iff.mpr ⟨by omega, by omega⟩) dL_law_1197 ?_
  refine lv_topi (fun y22 ey22 => ?_)
  obtain rfl : y22 = xs (9 * k + 2) := ey22.trans (congrArg xs (show z21.toInt.toNat = 9 * k + 2 by omega))
  refine tgk_13 hG hmo (fun y23 y24 y25 y26 y27 y28 y29 y30 y31 y32 y33 y34 y35 y36 y37 y38 y39 y40 y41 y42 y43 y44 y45 y46 y47 => ?_)
  refine tpk_13 hT hmo (fun o48_x0 o48_x1 o48_x7 o48_x9 o48_x10 o48_x11 o48_x12 o48_x13 o48_x14 o48_x15 o48_x16 o48_x17 o48_x18 o48_x19 o48_x20 o48_x22 o48_x25 o48_x28 o48_x29 o48_x32 o48_x33 o48_x34 o48_x35 o48_x36 o48_x37 o48_x38 o48_x47 o48_x48 hf_o48 ro48_0 ro48_1 ro48_2 ro48_3 ro48_4 ro48_5 ro48_6 ro48_7 ro48_8 ro48_9 ro48_10 ro48_11 ro48_12 ro48_13 ro48_14 => ?_)
  refine tpk_pos (tp_in hG hmo (by decide)) hf_o48 (fun q49 eq49 => ?_)
  have hFc := tp_fr hD hS hA
  have hRe_54 : R_18 = mo_R (mo_i (f16 (ρ mo 2))) := hRe.symm
  refine va_calll (va_runV (As := [.int (xs (9 * k + 1)), .int (xs (9 * k + 2))]) (rest := []) ⟨hx, hb, hml, hown, hts⟩ (t_X12_settled l dC dI _ κ mo_n τ ν ρ L f16 hG hT mo (xs (9 * k + 1)) (xs (9 * k + 2)) hmo hJ) (cwV 2 hts gz_X12_settled rfl rfl rfl ⟨rfl, pd_X12_settled⟩ ⟨Nat.le_of_ble_eq_true rfl, Nat.le_of_ble_eq_true rfl⟩) ⟨pz_blind, va_recv hK hP (ci := 12) (q0 := q49) rfl eq49, pz_pre hP hK hD hN⟩ rfl rfl hl.1 rfl (lv_room (Nat.le_of_ble_eq_true rfl)) dL_law_1198 ⟨by show _ ≤ 600000; omega, by show _ ≤ 7302249; omega⟩) hS (fun q _ h => hFc q h) hFc (fun r50 f52 t H1 locs ht hvm hw51 hB hz1 hk1 hS => ?_)
  refine tn_4 hw51 (fun hT1 hF53 hw51r hw51p => ?_); clear hw51
  obtain ⟨hw_t, hw_l⟩ := (tpg_12 hG hxo).1
  obtain ⟨-, -, -, -, -, -, ⟨ht13, -, hl13⟩, ⟨ht14, -, hl14⟩, ⟨ht15, -, -, hl15⟩, -, -, ⟨ht18, -, -, hl18⟩⟩ := tpg_11 hG hw_t
  have hJ : mo_RI (-1) 0 (mo_R (mo_i (f52 (ρ mo 2)))) := by rw [hF53 _ (by rw [hrow]; decide)]; exact hJ
  have hRn : R_18 = mo_R (mo_i (f52 (ρ mo 2))) := by rw [hF53 _ (by rw [hrow]; decide)]; exact hRe_54
  have hIM : mo_IM (mo_R (mo_i (f52 (ρ mo 3)))) := by rw [hF53 _ (by rw [hims]; decide)]; exact hIM
  have m0 : tp_fld (f52 (ρ xo 0)) 0 = R_18 (11) := ((congrArg (fun q => tp_fld q 0) (hF53 (ρ xo 0) (by rw [hw_t]; decide))).trans l0)
  have m1 : tp_fld (f52 (ρ xo 0)) 4 = R_18 (0) := ((congrArg (fun q => tp_fld q 4) (hF53 (ρ xo 0) (by rw [hw_t]; decide))).trans l1)
  have m2 : tp_fld (f52 (ρ xo 0)) 5 = R_18 (1) := ((congrArg (fun q => tp_fld q 5) (hF53 (ρ xo 0) (by rw [hw_t]; decide))).trans l2)
  have m3 : tp_fld (f52 (ρ (ρ xo 0) 13)) 3 = R_18 (3) := ((congrArg (fun q => tp_fld q 3) (hF53 (ρ (ρ xo 0) 13) (by rw [ht13]; decide))).trans l3)
  have m4 : tp_fld (f52 (ρ (ρ xo 0) 14)) 3 = R_18 (7) := ((congrArg (fun q => tp_fld q 3) (hF53 (ρ (ρ xo 0) 14) (by rw [ht14]; decide))).trans l4)
  have m5 : tp_fld (f52 (ρ (ρ xo 0) 15)) 2 = R_18 (6) := ((congrArg (fun q => tp_fld q 2) (hF53 (ρ (ρ xo 0) 15) (by rw [ht15]; decide))).trans l5)
  have m6 : tp_fld (f52 (ρ (ρ xo 0) 18)) 2 = R_18 (10) := ((congrArg (fun q => tp_fld q 2) (hF53 (ρ (ρ xo 0) 18) (by rw [ht18]; decide))).trans l6)
  have l0 := m0
  have l1 := m1
  have l2 := m2
  have l3 := m3
  have l4 := m4
  have l5 := m5
  have l6 := m6
  rw [hRn] at l0 l1 l2 l3 l4 l5 l6
  have hPm := lz_P.keep hG hT hxo (tp_X.of (E := fun _ => False) hF53 (by decide)) (fun n q9 => False.elim q9) (hF53 _ (by rw [(tpg_12 hG hxo).2.1]; decide)) (by rw [hF53 _ (by rw [hims]; decide)]) (by rw [hF53 _ (by rw [hkep]; decide)]) hPm
  have hT := hT1
  have hP := hB.1; rw [ht] at hP; have hD := tp_ad f52 hD; clear hB hFc hz1 hk1; subst ht; generalize t.heap = H at hP hS ⊢
  refine lv_pop2_2 hx hb dL_law_1201 rfl ?_
  refine lv_goto (tgt := 1710) hx hb dL_law_1202 (by decide) ?_
  refine tp_widen (cells + 110) (slots + 2634) (by omega) (by omega) ?_
  exact kk τ ν ρ L f52 _ _ _ ⟨hG, hT, hxo, hmo, hJ, hIM, ⟨l0, l1, l2, l3, l4, l5, l6⟩, hPm⟩ hP hD hS (lv_sub hl [0, 1, 2, 3] rfl)
set_option maxHeartbeats 8000000 in
set_option maxRecDepth 100000 in
theorem law_case_27 {p : Program} {l : Launch} {e : Env} {s : State} {m : MethodId} {below : List Frame} {meth : Method} {c : Code} {b N9 : Nat} {xs : Nat → Int32} {dC : Nat → ClassId} {dI : Nat → Nat → Nat} {κ : Nat → ClassId} {adK adV : Nat → Nat} {zv : Option Nat} {xo mo : Nat} {k cells slots : Nat} {i : Int32} (C0 : lw_At p s m meth c b N9 xs) (hN9 : N9 ≤ 4608) (hN : nz_ok s) (hZ : pw_Z adK adV zv (fun q : Nat => s.heap.size ≤ q) s s.heap) (hK : va_K (dC, dI) vwCl (tp_K κ) s) (hk : 9 * k + 9 ≤ N9) (hi : i.toInt = 9 * (k : Int)) (hc : cells + 110 ≤ 600000) (hs : slots + 2634 ≤ 7302249) (kk : ∀ (τ ν : Nat → Nat) (ρ : Nat → Nat → Nat) (L : List Nat) (f : Nat → va_E) (H : Heap) (locs : List Loc) (ls : Array Slot), lz_I κ xo mo τ ν ρ L f → va_P (dC, dI) vwCl (va_pl L f) H → va_D (fun q : Nat => s.heap.size ≤ q) (va_pl L f) → va_S (fun q : Nat => s.heap.size ≤ q) s.heap H locs → lv_has ls 4 [(0, .ref b), (1, .ref xo), (2, .ref mo), (3, .int i)] → W p l e room_1 s m #[Value.ref b] below meth c H locs (cells + 110) (slots + 2634) (lw_Z below #[Value.ref b] s) (F0 m 1710 ls [])) {τ ν : Nat → Nat} {ρ : Nat → Nat → Nat} {L : List Nat} {f : Nat → va_E} {H : Heap} {locs : List Loc} {ls : Array Slot}  (hI : lz_I κ xo mo τ ν ρ L f) (hP : va_P (dC, dI) vwCl (va_pl L f) H) (hD : va_D (fun q : Nat => s.heap.size ≤ q) (va_pl L f)) (hS : va_S (fun q : Nat => s.heap.size ≤ q) s.heap H locs) (hl : lv_has ls 4 [(0, .ref b), (1, .ref xo), (2, .ref mo), (3, .int i)]) : W p l e room_1 s m #[Value.ref b] below meth c H locs cells slots (lw_Z below #[Value.ref b] s) (F0 m 1205 ls []) := by
  obtain ⟨hx, hb, hr, hml, hown, hts, hX, hbl, hlocks, hgv⟩ := id C0
  have hown : s.vm.findClass RL = some m.cls := hown
  have hA : ∀ q : Nat, s.heap.size ≤ q → (fun q : Nat => s.heap.size ≤ q) q := fun _ h => h
  have hbA : ¬ (fun q : Nat => s.heap.size ≤ q) b := Nat.not_le.mpr hbl
  obtain ⟨hG, hT, hxo, hmo, hJ, hIM, ⟨l0, l1, l2, l3, l4, l5, l6⟩, hPm⟩ := hI
  have hrow := (tpg_13 hG hmo).1; have hims := (tpg_13 hG hmo).2.1; have hkep := (tpg_13 hG hmo).2.2.1
  refine lv_aload_n hx hb dL_law_1205 rfl (lv_at hl 1 rfl) ?_
  refine lv_aload_n hx hb dL_law_1206 rfl (lv_at hl 0 rfl) ?_
  refine lv_iload_n hx hb dL_law_1207 rfl (lv_at hl 3 rfl) ?_
  refine lv_iconst (v := 1) hx hb dL_law_1208 (by decide) ?_
  refine lv_iadd hx hb dL_law_1209 ?_
  refine lv_topi (fun z1 ez1 => ?_)
  have iz1 : z1.toInt = i.toInt + 1 := zi_add ez1 rfl (show (1 : Int32).toInt = 1 from rfl) (by omega) (by omega)
  refine va_sld hx hb hX hbl hbA hS (vp_in_iff.mpr ⟨by omega, by omega⟩) dL_law_1210 ?_
  refine lv_topi (fun y2 ey2 => ?_)
  obtain rfl : y2 = xs (9 * k + 1) := ey2.trans (congrArg xs (show z1.toInt.toNat = 9 * k + 1 by omega))
  refine lv_aload_n hx hb dL_law_1211 rfl (lv_at hl 0 rfl) ?_
  refine lv_iload_n hx hb dL_law_1212 rfl (lv_at hl 3 rfl) ?_
  refine lv_iconst (v := 2) hx hb dL_law_1213 (by decide) ?_
  refine lv_iadd hx hb dL_law_1214 ?_
  refine lv_topi (fun z3 ez3 => ?_)
  have iz3 : z3.toInt = i.toInt + 2 := zi_add ez3 rfl (show (2 : Int32).toInt = 2 from rfl) (by omega) (by omega)
  refine va_sld hx hb hX hbl hbA hS (vp_in_iff.mpr ⟨by omega, by omega⟩) dL_law_1215 ?_
  refine lv_topi (fun y4 ey4 => ?_)
  obtain rfl : y4 = xs (9 * k + 2) := ey4.trans (congrArg xs (show z3.toInt.toNat = 9 * k + 2 by omega))
  refine lv_aload_n hx hb dL_law_1216 rfl (lv_at hl 0 rfl) ?_
  refine lv_iload_n hx hb dL_law_1217 rfl (lv_at hl 3 rfl) ?_
  refine lv_iconst (v := 3) hx hb dL_law_1218 (by decide) ?_
  refine lv_iadd hx hb dL_law_1219 ?_
  refine lv_topi (fun z5 ez5 => ?_)
  have iz5 : z5.toInt = i.toInt + 3 := zi_add ez5 rfl (show (3 : Int32).toInt = 3 from rfl) (by omega) (by omega)
  refine va_sld hx hb hX hbl hbA hS (vp_in_iff.mpr ⟨by omega, by omega⟩) dL_law_1220 ?_
  refine lv_topi (fun y6 ey6 => ?_)
  obtain rfl : y6 = xs (9 * k + 3) := ey6.trans (congrArg xs (show z5.toInt.toNat = 9 * k + 3 by omega))
  refine lv_aload_n hx hb dL_law_1221 rfl (lv_at hl 0 rfl) ?_
  refine lv_iload_n hx hb dL_law_1222 rfl (lv_at hl 3 rfl) ?_
  refine lv_iconst (v := 4) hx hb dL_law_1223 (by decide) ?_
  refine lv_iadd hx hb dL_law_1224 ?_
  refine lv_topi (fun z7 ez7 => ?_)
  have iz7 : z7.toInt = i.toInt + 4 := zi_add ez7 rfl (show (4 : Int32).toInt = 4 from rfl) (by omega) (by omega)
  refine va_sld hx hb hX hbl hbA hS (vp_in_iff.mpr ⟨by omega, by omega⟩) dL_law_1225 ?_
  refine lv_topi (fun y8 ey8 => ?_)
  obtain rfl : y8 = xs (9 * k + 4) := ey8.trans (congrArg xs (show z7.toInt.toNat = 9 * k + 4 by omega))
  refine tgk_12 hG hxo (fun y9 y9l y10 y11 y12 y13 y14 y15a y15b y15c => ?_)
  refine tpk_12 hT hxo (fun o16_x6 hf_o16 => ?_)
  refine tpk_pos (tp_in hG hxo (by decide)) hf_o16 (fun q17 eq17 => ?_)
  have hFc := tp_fr hD hS hA
  obtain ⟨R_22, hRe_22⟩ : ∃ R, R = mo_R (mo_i (f (ρ mo 2))) := ⟨_, rfl⟩; rw [← hRe_22] at l0 l1 l2 l3 l4 l5 l6
  refine va_calli (va_runV (As := [.int (xs (9 * k + 1)), .int (xs (9 * k + 2)), .int (xs (9 * k + 3)), .int (xs (9 * k + 4))]) (rest := []) ⟨hx, hb, hml, hown, hts⟩ (t_X11_table l dC dI _ (mo_O κ mo_n) κ τ ν ρ L f hG hT xo (xs (9 * k + 1)) (xs (9 * k + 2)) (xs (9 * k + 3)) (xs (9 * k + 4)) hxo) (cwV 4 hts gz_X11_table rfl rfl rfl ⟨rfl, pd_X11_table⟩ ⟨Nat.le_of_ble_eq_true rfl, Nat.le_of_ble_eq_true rfl⟩) ⟨pz_blind, va_recv hK hP (ci := 11) (q0 := q17) rfl eq17, pz_pre hP hK hD hN⟩ rfl rfl hl.1 rfl (lv_room (Nat.le_of_ble_eq_true rfl)) dL_law_1226 ⟨by show _ ≤ 600000; omega, by show _ ≤ 7302249; omega⟩) hS (fun q _ h => hFc q h) hFc (fun r18 f20 t H1 locs ht hvm hw19 hB hz1 hk1 hS => ?_)
  refine tn_4 hw19 (fun hT1 hF21 hw19r hw19p => ?_); clear hw19
  obtain ⟨hw_t, hw_l⟩ := (tpg_12 hG hxo).1
  obtain ⟨-, -, -, -, -, -, ⟨ht13, -, hl13⟩, ⟨ht14, -, hl14⟩, ⟨ht15, -, -, hl15⟩, -, -, ⟨ht18, -, -, hl18⟩⟩ := tpg_11 hG hw_t
  have hJ : mo_RI (-1) 0 (mo_R (mo_i (f20 (ρ mo 2)))) := by rw [hF21 _ (by rw [hrow]; decide)]; exact hJ
  have hIM : mo_IM (mo_R (mo_i (f20 (ρ mo 3)))) := by rw [hF21 _ (by rw [hims]; decide)]; exact hIM
  have hXE : tp_X τ ρ (fun n => False) f f20 := tp_X.of hF21 (by decide)
  have it23 : (((¬ ((0 ≤ (xs (9 * k + 2)).toInt ∧ (xs (9 * k + 2)).toInt ≤ 3) ∧ (0 ≤ (xs (9 * k + 3)).toInt ∧ (xs (9 * k + 3)).toInt ≤ 5000) ∧ (0 ≤ (xs (9 * k + 4)).toInt ∧ (xs (9 * k + 4)).toInt ≤ 200000))) → r18.toInt = -1) ∧ (¬ (¬ ((0 ≤ (xs (9 * k + 2)).toInt ∧ (xs (9 * k + 2)).toInt ≤ 3) ∧ (0 ≤ (xs (9 * k + 3)).toInt ∧ (xs (9 * k + 3)).toInt ≤ 5000) ∧ (0 ≤ (xs (9 * k + 4)).toInt ∧ (xs (9 * k + 4)).toInt ≤ 200000))) → (((¬ (0 ≤ (xs (9 * k + 1)).toInt ∧ (xs (9 * k + 1)).toInt < R_22 (1))) → r18.toInt = -2) ∧ (¬ (¬ (0 ≤ (xs (9 * k + 1)).toInt ∧ (xs (9 * k + 1)).toInt < R_22 (1))) → r18.toInt = 0)))) := by have q9 := hw19p; first | exact q9 | (simp only [l0, l1, l2, l3, l4, l5, l6] at q9; exact q9)
  have m0 : tp_fld (f20 (ρ xo 0)) 0 = R_22 (11) := (congrArg (fun q => tp_fld q 0) (hXE (ρ xo 0) (Or.inr (Or.inr hw_t)) (fun q9 => q9))).trans l0
  have m1 : tp_fld (f20 (ρ xo 0)) 4 = R_22 (0) := (congrArg (fun q => tp_fld q 4) (hXE (ρ xo 0) (Or.inr (Or.inr hw_t)) (fun q9 => q9))).trans l1
  have m2 : tp_fld (f20 (ρ xo 0)) 5 = R_22 (1) := (congrArg (fun q => tp_fld q 5) (hXE (ρ xo 0) (Or.inr (Or.inr hw_t)) (fun q9 => q9))).trans l2
  have m3 : tp_fld (f20 (ρ (ρ xo 0) 13)) 3 = R_22 (3) := (congrArg (fun q => tp_fld q 3) (hXE (ρ (ρ xo 0) 13) (Or.inr (Or.inl ht13)) (fun q9 => q9))).trans l3
  have m4 : tp_fld (f20 (ρ (ρ xo 0) 14)) 3 = R_22 (7) := (congrArg (fun q => tp_fld q 3) (hXE (ρ (ρ xo 0) 14) (Or.inr (Or.inl ht14)) (fun q9 => q9))).trans l4
  have m5 : tp_fld (f20 (ρ (ρ xo 0) 15)) 2 = R_22 (6) := (congrArg (fun q => tp_fld q 2) (hXE (ρ (ρ xo 0) 15) (Or.inl ht15) (fun q9 => q9))).trans l5
  have m6 : tp_fld (f20 (ρ (ρ xo 0) 18)) 2 = R_22 (10) := (congrArg (fun q => tp_fld q 2) (hXE (ρ (ρ xo 0) 18) (Or.inl ht18) (fun q9 => q9))).trans l6
  have hPm := lz_P.keep hG hT hxo hXE (fun n q9 => by have q8 : False := q9; first | exact q8.elim | omega) (hF21 _ (by rw [(tpg_12 hG hxo).2.1]; decide)) (by rw [hF21 _ (by rw [hims]; decide)]) (by rw [hF21 _ (by rw [hkep]; decide)]) hPm
  have l0 := m0
  have l1 := m1
  have l2 := m2
  have l3 := m3
  have l4 := m4
  have l5 := m5
  have l6 := m6
  have hRe : mo_R (mo_i (f20 (ρ mo 2))) = R_22 := by rw [hF21 _ (by rw [hrow]; decide)]; exact hRe_22.symm
  have hT := hT1
  have hP := hB.1; rw [ht] at hP; have hD := tp_ad f20 hD; clear hB hFc hz1 hk1; subst ht; generalize t.heap = H at hP hS ⊢
  refine lv_pop hx hb dL_law_1229 rfl ?_
  refine lv_aload_n hx hb dL_law_1230 rfl (lv_at hl 2 rfl) ?_
  refine lv_aload_n hx hb dL_law_1231 rfl (lv_at hl 0 rfl) ?_
  refine lv_iload_n hx hb dL_law_1232 rfl (lv_at hl 3 rfl) ?_
  refine lv_iconst (v := 1) hx hb dL_law_1233 (by decide) ?_
  refine lv_iadd hx hb dL_law_1234 ?_
  refine lv_topi (fun z24 ez24 => ?_)
  have iz24 : z24.toInt = i.toInt + 1 := zi_add ez24 rfl (show (1 : Int32).toInt = 1 from rfl) (by omega) (by omega)
  refine va_sld hx hb hX hbl hbA hS (vp_in_iff.mpr ⟨by omega, by omega⟩) dL_law_1235 ?_
  refine lv_topi (fun y25 ey25 => ?_)
  obtain rfl : y25 = xs (9 * k + 1) := ey25.trans (congrArg xs (show z24.toInt.toNat = 9 * k + 1 by omega))
  refine lv_aload_n hx hb dL_law_1236 rfl (lv_at hl 0 rfl) ?_
  refine lv_iload_n hx hb dL_law_1237 rfl (lv_at hl 3 rfl) ?_
  refine lv_iconst (v := 2) hx hb dL_law_1238 (by decide) ?_
  refine lv_iadd hx hb dL_law_1239 ?_
  refine lv_topi (fun z26 ez26 => ?_)
  have iz26 : z26.toInt = i.toInt + 2 := zi_add ez26 rfl (show (2 : Int32).toInt = 2 from rfl) (by omega) (by omega)
  refine va_sld hx hb hX hbl hbA hS (vp_in_iff.mpr ⟨by omega, by omega⟩) dL_law_1240 ?_
  refine lv_topi (fun y27 ey27 => ?_)
  obtain rfl : y27 = xs (9 * k + 2) := ey27.trans (congrArg xs (show z26.toInt.toNat = 9 * k + 2 by omega))
  refine lv_aload_n hx hb dL_law_1241 rfl (lv_at hl 0 rfl) ?_
  refine lv_iload_n hx hb dL_law_1242 rfl (lv_at hl 3 rfl) ?_
  refine lv_iconst (v := 3) hx hb dL_law_1243 (by decide) ?_
  refine lv_iadd hx hb dL_law_1244 ?_
  refine lv_topi (fun z28 ez28 => ?_)
  have iz28 : z28.toInt = i.toInt + 3 := zi_add ez28 rfl (show (3 : Int32).toInt = 3 from rfl) (by omega) (by omega)
  refine va_sld hx hb hX hbl hbA hS (vp_in_iff.mpr ⟨by omega, by omega⟩) dL_law_1245 ?_
  refine lv_topi (fun y29 ey29 => ?_)
  obtain rfl : y29 = xs (9 * k + 3) := ey29.trans (congrArg xs (show z28.toInt.toNat = 9 * k + 3 by omega))
  refine lv_aload_n hx hb dL_law_1246 rfl (lv_at hl 0 rfl) ?_
  refine lv_iload_n hx hb dL_law_1247 rfl (lv_at hl 3 rfl) ?_
  refine lv_iconst (v := 4) hx hb dL_law_1248 (by decide) ?_
  refine lv_iadd hx hb dL_law_1249 ?_
  refine lv_topi (fun z30 ez30 => ?_)
  have iz30 : z30.toInt = i.toInt + 4 := zi_add ez30 rfl (show (4 : Int32).toInt = 4 from rfl) (by omega) (by omega)
  refine va_sld hx hb hX hbl hbA hS (vp_in_iff.mpr ⟨by omega, by omega⟩) dL_law_1250 ?_
  refine lv_topi (fun y31 ey31 => ?_)
  obtain rfl : y31 = xs (9 * k + 4) := ey31.trans (congrArg xs (show z30.toInt.toNat = 9 * k + 4 by omega))
  refine tgk_13 hG hmo (fun y32 y33 y34 y35 y36 y37 y38 y39 y40 y41 y42 y43 y44 y45 y46 y47 y48 y49 y50 y51 y52 y53 y54 y55 y56 => ?_)
  refine tpk_13 hT hmo (fun o57_x0 o57_x1 o57_x7 o57_x9 o57_x10 o57_x11 o57_x12 o57_x13 o57_x14 o57_x15 o57_x16 o57_x17 o57_x18 o57_x19 o57_x20 o57_x22 o57_x25 o57_x28 o57_x29 o57_x32 o57_x33 o57_x34 o57_x35 o57_x36 o57_x37 o57_x38 o57_x47 o57_x48 hf_o57 ro57_0 ro57_1 ro57_2 ro57_3 ro57_4 ro57_5 ro57_6 ro57_7 ro57_8 ro57_9 ro57_10 ro57_11 ro57_12 ro57_13 ro57_14 => ?_)
  refine tpk_pos (tp_in hG hmo (by decide)) hf_o57 (fun q58 eq58 => ?_)
  have hFc := tp_fr hD hS hA
  have hRe_63 : R_22 = mo_R (mo_i (f20 (ρ mo 2))) := hRe.symm
  refine va_calli (va_runV (As := [.int (xs (9 * k + 1)), .int (xs (9 * k + 2)), .int (xs (9 * k + 3)), .int (xs (9 * k + 4))]) (rest := []) ⟨hx, hb, hml, hown, hts⟩ (t_X12_table l dC dI _ κ mo_n τ ν ρ L f20 hG hT mo (xs (9 * k + 1)) (xs (9 * k + 2)) (xs (9 * k + 3)) (xs (9 * k + 4)) hmo hJ) (cwV 4 hts gz_X12_table rfl rfl rfl ⟨rfl, pd_X12_table⟩ ⟨Nat.le_of_ble_eq_true rfl, Nat.le_of_ble_eq_true rfl⟩) ⟨pz_blind, va_recv hK hP (ci := 12) (q0 := q58) rfl eq58, pz_pre hP hK hD hN⟩ rfl rfl hl.1 rfl (lv_room (Nat.le_of_ble_eq_true rfl)) dL_law_1251 ⟨by show _ ≤ 600000; omega, by show _ ≤ 7302249; omega⟩) hS (fun q _ h => hFc q h) hFc (fun r59 f61 t H1 locs ht hvm hw60 hB hz1 hk1 hS => ?_)
  refine tn_4 hw60 (fun hT1 hF62 hw60r hw60p => ?_); clear hw60
  obtain ⟨hw_t, hw_l⟩ := (tpg_12 hG hxo).1
  obtain ⟨-, -, -, -, -, -, ⟨ht13, -, hl13⟩, ⟨ht14, -, hl14⟩, ⟨ht15, -, -, hl15⟩, -, -, ⟨ht18, -, -, hl18⟩⟩ := tpg_11 hG hw_t
  obtain ⟨hJ, hw60pb⟩ := hw60p
  obtain ⟨Rn, hRn⟩ : ∃ R, R = mo_R (mo_i (f61 (ρ mo 2))) := ⟨_, rfl⟩
  rw [← hRn, ← hRe_63] at hw60pb
  obtain ⟨hKN, hw60pbk⟩ := hw60pb
  have hIM : mo_IM (mo_R (mo_i (f61 (ρ mo 3)))) := by rw [hF62 _ (by rw [hims]; decide)]; exact hIM
  have m0 : tp_fld (f61 (ρ xo 0)) 0 = Rn (11) := ((congrArg (fun q => tp_fld q 0) (hF62 (ρ xo 0) (by rw [hw_t]; decide))).trans l0).trans (hKN (11) (by decide) (by decide) (fun q9 => by have q8 : False := q9; omega)).symm
  have m1 : tp_fld (f61 (ρ xo 0)) 4 = Rn (0) := ((congrArg (fun q => tp_fld q 4) (hF62 (ρ xo 0) (by rw [hw_t]; decide))).trans l1).trans (hKN (0) (by decide) (by decide) (fun q9 => by have q8 : False := q9; omega)).symm
  have m2 : tp_fld (f61 (ρ xo 0)) 5 = Rn (1) := ((congrArg (fun q => tp_fld q 5) (hF62 (ρ xo 0) (by rw [hw_t]; decide))).trans l2).trans (hKN (1) (by decide) (by decide) (fun q9 => by have q8 : False := q9; omega)).symm
  have m3 : tp_fld (f61 (ρ (ρ xo 0) 13)) 3 = Rn (3) := ((congrArg (fun q => tp_fld q 3) (hF62 (ρ (ρ xo 0) 13) (by rw [ht13]; decide))).trans l3).trans (hKN (3) (by decide) (by decide) (fun q9 => by have q8 : False := q9; omega)).symm
  have m4 : tp_fld (f61 (ρ (ρ xo 0) 14)) 3 = Rn (7) := ((congrArg (fun q => tp_fld q 3) (hF62 (ρ (ρ xo 0) 14) (by rw [ht14]; decide))).trans l4).trans (hKN (7) (by decide) (by decide) (fun q9 => by have q8 : False := q9; omega)).symm
  have m5 : tp_fld (f61 (ρ (ρ xo 0) 15)) 2 = Rn (6) := ((congrArg (fun q => tp_fld q 2) (hF62 (ρ (ρ xo 0) 15) (by rw [ht15]; decide))).trans l5).trans (hKN (6) (by decide) (by decide) (fun q9 => by have q8 : False := q9; omega)).symm
  have m6 : tp_fld (f61 (ρ (ρ xo 0) 18)) 2 = Rn (10) := ((congrArg (fun q => tp_fld q 2) (hF62 (ρ (ρ xo 0) 18) (by rw [ht18]; decide))).trans l6).trans (hKN (10) (by decide) (by decide) (fun q9 => by have q8 : False := q9; omega)).symm
  have l0 := m0
  have l1 := m1
  have l2 := m2
  have l3 := m3
  have l4 := m4
  have l5 := m5
  have l6 := m6
  rw [hRn] at l0 l1 l2 l3 l4 l5 l6
  have hPm := lz_P.keep hG hT hxo (tp_X.of (E := fun _ => False) hF62 (by decide)) (fun n q9 => False.elim q9) (hF62 _ (by rw [(tpg_12 hG hxo).2.1]; decide)) (by rw [hF62 _ (by rw [hims]; decide)]) (by rw [hF62 _ (by rw [hkep]; decide)]) hPm
  have hT := hT1
  have hP := hB.1; rw [ht] at hP; have hD := tp_ad f61 hD; clear hB hFc hz1 hk1; subst ht; generalize t.heap = H at hP hS ⊢
  refine lv_pop hx hb dL_law_1254 rfl ?_
  refine lv_goto (tgt := 1710) hx hb dL_law_1255 (by decide) ?_
  refine tp_widen (cells + 110) (slots + 2634) (by omega) (by omega) ?_
  exact kk τ ν ρ L f61 _ _ _ ⟨hG, hT, hxo, hmo, hJ, hIM, ⟨l0, l1, l2, l3, l4, l5, l6⟩, hPm⟩ hP hD hS (lv_sub hl [0, 1, 2, 3] rfl)
set_option maxHeartbeats 8000000 in
set_option maxRecDepth 100000 in
theorem law_case_28 {p : Program} {l : Launch} {e : Env} {s : State} {m : MethodId} {below : List Frame} {meth : Method} {c : Code} {b N9 : Nat} {xs : Nat → Int32} {dC : Nat → ClassId} {dI : Nat → Nat → Nat} {κ : Nat → ClassId} {adK adV : Nat → Nat} {zv : Option Nat} {xo mo : Nat} {k cells slots : Nat} {i : Int32} (C0 : lw_At p s m meth c b N9 xs) (hN9 : N9 ≤ 4608) (hN : nz_ok s) (hZ : pw_Z adK adV zv (fun q : Nat => s.heap.size ≤ q) s s.heap) (hK : va_K (dC, dI) vwCl (tp_K κ) s) (hk : 9 * k + 9 ≤ N9) (hi : i.toInt = 9 * (k : Int)) (hc : cells + 110 ≤ 600000) (hs : slots + 2634 ≤ 7302249) (kk : ∀ (τ ν : Nat → Nat) (ρ : Nat → Nat → Nat) (L : List Nat) (f : Nat → va_E) (H : Heap) (locs : List Loc) (ls : Array Slot), lz_I κ xo mo τ ν ρ L f → va_P (dC, dI) vwCl (va_pl L f) H → va_D (fun q : Nat => s.heap.size ≤ q) (va_pl L f) → va_S (fun q : Nat => s.heap.size ≤ q) s.heap H locs → lv_has ls 4 [(0, .ref b), (1, .ref xo), (2, .ref mo), (3, .int i)] → W p l e room_1 s m #[Value.ref b] below meth c H locs (cells + 110) (slots + 2634) (lw_Z below #[Value.ref b] s) (F0 m 1710 ls [])) {τ ν : Nat → Nat} {ρ : Nat → Nat → Nat} {L : List Nat} {f : Nat → va_E} {H : Heap} {locs : List Loc} {ls : Array Slot}  (hI : lz_I κ xo mo τ ν ρ L f) (hP : va_P (dC, dI) vwCl (va_pl L f) H) (hD : va_D (fun q : Nat => s.heap.size ≤ q) (va_pl L f)) (hS : va_S (fun q : Nat => s.heap.size ≤ q) s.heap H locs) (hl : lv_has ls 4 [(0, .ref b), (1, .ref xo), (2, .ref mo), (3, .int i)]) : W p l e room_1 s m #[Value.ref b] below meth c H locs cells slots (lw_Z below #[Value.ref b] s) (F0 m 1258 ls []) := by
  obtain ⟨hx, hb, hr, hml, hown, hts, hX, hbl, hlocks, hgv⟩ := id C0
  have hown : s.vm.findClass RL = some m.cls := hown
  have hA : ∀ q : Nat, s.heap.size ≤ q → (fun q : Nat => s.heap.size ≤ q) q := fun _ h => h
  have hbA : ¬ (fun q : Nat => s.heap.size ≤ q) b := Nat.not_le.mpr hbl
  obtain ⟨hG, hT, hxo, hmo, hJ, hIM, ⟨l0, l1, l2, l3, l4, l5, l6⟩, hPm⟩ := hI
  have hrow := (tpg_13 hG hmo).1; have hims := (tpg_13 hG hmo).2.1; have hkep := (tpg_13 hG hmo).2.2.1
  refine lv_aload_n hx hb dL_law_1258 rfl (lv_at hl 1 rfl) ?_
  refine lv_aload_n hx hb dL_law_1259 rfl (lv_at hl 0 rfl) ?_
  refine lv_iload_n hx hb dL_law_1260 rfl (lv_at hl 3 rfl) ?_
  refine lv_iconst (v := 1) hx hb dL_law_1261 (by decide) ?_
  refine lv_iadd hx hb dL_law_1262 ?_
  refine lv_topi (fun z1 ez1 => ?_)
  have iz1 : z1.toInt = i.toInt + 1 := zi_add ez1 rfl (show (1 : Int32).toInt = 1 from rfl) (by omega) (by omega)
  refine va_sld hx hb hX hbl hbA hS (vp_in_iff.mpr ⟨by omega, by omega⟩) dL_law_1263 ?_
  refine lv_topi (fun y2 ey2 => ?_)
  obtain rfl : y2 = xs (9 * k + 1) := ey2.trans (congrArg xs (show z1.toInt.toNat = 9 * k + 1 by omega))
  refine lv_aload_n hx hb dL_law_1264 rfl (lv_at hl 0 rfl) ?_
  refine lv_iload_n hx hb dL_law_1265 rfl (lv_at hl 3 rfl) ?_
  refine lv_iconst (v := 2) hx hb dL_law_1266 (by decide) ?_
  refine lv_iadd hx hb dL_law_1267 ?_
  refine lv_topi (fun z3 ez3 => ?_)
  have iz3 : z3.toInt = i.toInt + 2 := zi_add ez3 rfl (show (2 : Int32).toInt = 2 from rfl) (by omega) (by omega)
  refine va_sld hx hb hX hbl hbA hS (vp_in_iff.mpr ⟨by omega, by omega⟩) dL_law_1268 ?_
  refine lv_topi (fun y4 ey4 => ?_)
  obtain rfl : y4 = xs (9 * k + 2) := ey4.trans (congrArg xs (show z3.toInt.toNat = 9 * k + 2 by omega))
  refine tgk_12 hG hxo (fun y5 y5l y6 y7 y8 y9 y10 y11a y11b y11c => ?_)
  refine tpk_12 hT hxo (fun o12_x6 hf_o12 => ?_)
  refine tpk_pos (tp_in hG hxo (by decide)) hf_o12 (fun q13 eq13 => ?_)
  have hFc := tp_fr hD hS hA
  obtain ⟨R_18, hRe_18⟩ : ∃ R, R = mo_R (mo_i (f (ρ mo 2))) := ⟨_, rfl⟩; rw [← hRe_18] at l0 l1 l2 l3 l4 l5 l6
  refine va_calli (va_runV (As := [.int (xs (9 * k + 1)), .int (xs (9 * k + 2))]) (rest := []) ⟨hx, hb, hml, hown, hts⟩ (t_X11_list l dC dI _ (mo_O κ mo_n) κ τ ν ρ L f hG hT xo (xs (9 * k + 1)) (xs (9 * k + 2)) hxo) (cwV 2 hts gz_X11_list rfl rfl rfl ⟨rfl, pd_X11_list⟩ ⟨Nat.le_of_ble_eq_true rfl, Nat.le_of_ble_eq_true rfl⟩) ⟨pz_blind, va_recv hK hP (ci := 11) (q0 := q13) rfl eq13, pz_pre hP hK hD hN⟩ rfl rfl hl.1 rfl (lv_room (Nat.le_of_ble_eq_true rfl)) dL_law_1269 ⟨by show _ ≤ 600000; omega, by show _ ≤ 7302249; omega⟩) hS (fun q _ h => hFc q h) hFc (fun r14 f16 t H1 locs ht hvm hw15 hB hz1 hk1 hS => ?_)
  refine tn_4 hw15 (fun hT1 hF17 hw15r hw15p => ?_); clear hw15
  obtain ⟨hw_t, hw_l⟩ := (tpg_12 hG hxo).1
  obtain ⟨-, -, -, -, -, -, ⟨ht13, -, hl13⟩, ⟨ht14, -, hl14⟩, ⟨ht15, -, -, hl15⟩, -, -, ⟨ht18, -, -, hl18⟩⟩ := tpg_11 hG hw_t
  have hJ : mo_RI (-1) 0 (mo_R (mo_i (f16 (ρ mo 2)))) := by rw [hF17 _ (by rw [hrow]; decide)]; exact hJ
  have hIM : mo_IM (mo_R (mo_i (f16 (ρ mo 3)))) := by rw [hF17 _ (by rw [hims]; decide)]; exact hIM
  have hXE : tp_X τ ρ (fun n => False) f f16 := tp_X.of hF17 (by decide)
  have m0 : tp_fld (f16 (ρ xo 0)) 0 = R_18 (11) := (congrArg (fun q => tp_fld q 0) (hXE (ρ xo 0) (Or.inr (Or.inr hw_t)) (fun q9 => q9))).trans l0
  have m1 : tp_fld (f16 (ρ xo 0)) 4 = R_18 (0) := (congrArg (fun q => tp_fld q 4) (hXE (ρ xo 0) (Or.inr (Or.inr hw_t)) (fun q9 => q9))).trans l1
  have m2 : tp_fld (f16 (ρ xo 0)) 5 = R_18 (1) := (congrArg (fun q => tp_fld q 5) (hXE (ρ xo 0) (Or.inr (Or.inr hw_t)) (fun q9 => q9))).trans l2
  have m3 : tp_fld (f16 (ρ (ρ xo 0) 13)) 3 = R_18 (3) := (congrArg (fun q => tp_fld q 3) (hXE (ρ (ρ xo 0) 13) (Or.inr (Or.inl ht13)) (fun q9 => q9))).trans l3
  have m4 : tp_fld (f16 (ρ (ρ xo 0) 14)) 3 = R_18 (7) := (congrArg (fun q => tp_fld q 3) (hXE (ρ (ρ xo 0) 14) (Or.inr (Or.inl ht14)) (fun q9 => q9))).trans l4
  have m5 : tp_fld (f16 (ρ (ρ xo 0) 15)) 2 = R_18 (6) := (congrArg (fun q => tp_fld q 2) (hXE (ρ (ρ xo 0) 15) (Or.inl ht15) (fun q9 => q9))).trans l5
  have m6 : tp_fld (f16 (ρ (ρ xo 0) 18)) 2 = R_18 (10) := (congrArg (fun q => tp_fld q 2) (hXE (ρ (ρ xo 0) 18) (Or.inl ht18) (fun q9 => q9))).trans l6
  have hPm := lz_P.keep hG hT hxo hXE (fun n q9 => by have q8 : False := q9; first | exact q8.elim | omega) (hF17 _ (by rw [(tpg_12 hG hxo).2.1]; decide)) (by rw [hF17 _ (by rw [hims]; decide)]) (by rw [hF17 _ (by rw [hkep]; decide)]) hPm
  have l0 := m0
  have l1 := m1
  have l2 := m2
  have l3 := m3
  have l4 := m4
  have l5 := m5
  have l6 := m6
  have hRe : mo_R (mo_i (f16 (ρ mo 2))) = R_18 := by rw [hF17 _ (by rw [hrow]; decide)]; exact hRe_18.symm
  have hT := hT1
  have hP := hB.1; rw [ht] at hP; have hD := tp_ad f16 hD; clear hB hFc hz1 hk1; subst ht; generalize t.heap = H at hP hS ⊢
  refine lv_pop hx hb dL_law_1272 rfl ?_
  refine lv_aload_n hx hb dL_law_1273 rfl (lv_at hl 2 rfl) ?_
  refine lv_aload_n hx hb dL_law_1274 rfl (lv_at hl 0 rfl) ?_
  refine lv_iload_n hx hb dL_law_1275 rfl (lv_at hl 3 rfl) ?_
  refine lv_iconst (v := 1) hx hb dL_law_1276 (by decide) ?_
  refine lv_iadd hx hb dL_law_1277 ?_
  refine lv_topi (fun z19 ez19 => ?_)
  have iz19 : z19.toInt = i.toInt + 1 := zi_add ez19 rfl (show (1 : Int32).toInt = 1 from rfl) (by omega) (by omega)
  refine va_sld hx hb hX hbl hbA hS (vp_in_iff.mpr ⟨by omega, by omega⟩) dL_law_1278 ?_
  refine lv_topi (fun y20 ey20 => ?_)
  obtain rfl : y20 = xs (9 * k + 1) := ey20.trans (congrArg xs (show z19.toInt.toNat = 9 * k + 1 by omega))
  refine lv_aload_n hx hb dL_law_1279 rfl (lv_at hl 0 rfl) ?_
  refine lv_iload_n hx hb dL_law_1280 rfl (lv_at hl 3 rfl) ?_
  refine lv_iconst (v := 2) hx hb dL_law_1281 (by decide) ?_
  refine lv_iadd hx hb dL_law_1282 ?_
  refine lv_topi (fun z21 ez21 => ?_)
  have iz21 : z21.toInt = i.toInt + 2 := zi_add ez21 rfl (show (2 : Int32).toInt = 2 from rfl) (by omega) (by omega)
  refine va_sld hx hb hX hbl hbA hS (vp_in_iff.mpr ⟨by omega, by omega⟩) dL_law_1283 ?_
  refine lv_topi (fun y22 ey22 => ?_)
  obtain rfl : y22 = xs (9 * k + 2) := ey22.trans (congrArg xs (show z21.toInt.toNat = 9 * k + 2 by omega))
  refine tgk_13 hG hmo (fun y23 y24 y25 y26 y27 y28 y29 y30 y31 y32 y33 y34 y35 y36 y37 y38 y39 y40 y41 y42 y43 y44 y45 y46 y47 => ?_)
  refine tpk_13 hT hmo (fun o48_x0 o48_x1 o48_x7 o48_x9 o48_x10 o48_x11 o48_x12 o48_x13 o48_x14 o48_x15 o48_x16 o48_x17 o48_x18 o48_x19 o48_x20 o48_x22 o48_x25 o48_x28 o48_x29 o48_x32 o48_x33 o48_x34 o48_x35 o48_x36 o48_x37 o48_x38 o48_x47 o48_x48 hf_o48 ro48_0 ro48_1 ro48_2 ro48_3 ro48_4 ro48_5 ro48_6 ro48_7 ro48_8 ro48_9 ro48_10 ro48_11 ro48_12 ro48_13 ro48_14 => ?_)
  refine tpk_pos (tp_in hG hmo (by decide)) hf_o48 (fun q49 eq49 => ?_)
  have hFc := tp_fr hD hS hA
  have hRe_54 : R_18 = mo_R (mo_i (f16 (ρ mo 2))) := hRe.symm
  refine va_calli (va_runV (As := [.int (xs (9 * k + 1)), .int (xs (9 * k + 2))]) (rest := []) ⟨hx, hb, hml, hown, hts⟩ (t_X12_list l dC dI _ κ mo_n τ ν ρ L f16 hG hT mo (xs (9 * k + 1)) (xs (9 * k + 2)) hmo hJ) (cwV 2 hts gz_X12_list rfl rfl rfl ⟨rfl, pd_X12_list⟩ ⟨Nat.le_of_ble_eq_true rfl, Nat.le_of_ble_eq_true rfl⟩) ⟨pz_blind, va_recv hK hP (ci := 12) (q0 := q49) rfl eq49, pz_pre hP hK hD hN⟩ rfl rfl hl.1 rfl (lv_room (Nat.le_of_ble_eq_true rfl)) dL_law_1284 ⟨by show _ ≤ 600000; omega, by show _ ≤ 7302249; omega⟩) hS (fun q _ h => hFc q h) hFc (fun r50 f52 t H1 locs ht hvm hw51 hB hz1 hk1 hS => ?_)
  refine tn_4 hw51 (fun hT1 hF53 hw51r hw51p => ?_); clear hw51
  obtain ⟨hw_t, hw_l⟩ := (tpg_12 hG hxo).1
  obtain ⟨-, -, -, -, -, -, ⟨ht13, -, hl13⟩, ⟨ht14, -, hl14⟩, ⟨ht15, -, -, hl15⟩, -, -, ⟨ht18, -, -, hl18⟩⟩ := tpg_11 hG hw_t
  obtain ⟨hJ, hw51pb⟩ := hw51p
  obtain ⟨Rn, hRn⟩ : ∃ R, R = mo_R (mo_i (f52 (ρ mo 2))) := ⟨_, rfl⟩
  rw [← hRn, ← hRe_54] at hw51pb
  have hKN := hw51pb
  have hIM : mo_IM (mo_R (mo_i (f52 (ρ mo 3)))) := by rw [hF53 _ (by rw [hims]; decide)]; exact hIM
  have m0 : tp_fld (f52 (ρ xo 0)) 0 = Rn (11) := ((congrArg (fun q => tp_fld q 0) (hF53 (ρ xo 0) (by rw [hw_t]; decide))).trans l0).trans (hKN (11) (by decide) (by decide) (fun q9 => by have q8 : False := q9; omega)).symm
  have m1 : tp_fld (f52 (ρ xo 0)) 4 = Rn (0) := ((congrArg (fun q => tp_fld q 4) (hF53 (ρ xo 0) (by rw [hw_t]; decide))).trans l1).trans (hKN (0) (by decide) (by decide) (fun q9 => by have q8 : False := q9; omega)).symm
  have m2 : tp_fld (f52 (ρ xo 0)) 5 = Rn (1) := ((congrArg (fun q => tp_fld q 5) (hF53 (ρ xo 0) (by rw [hw_t]; decide))).trans l2).trans (hKN (1) (by decide) (by decide) (fun q9 => by have q8 : False := q9; omega)).symm
  have m3 : tp_fld (f52 (ρ (ρ xo 0) 13)) 3 = Rn (3) := ((congrArg (fun q => tp_fld q 3) (hF53 (ρ (ρ xo 0) 13) (by rw [ht13]; decide))).trans l3).trans (hKN (3) (by decide) (by decide) (fun q9 => by have q8 : False := q9; omega)).symm
  have m4 : tp_fld (f52 (ρ (ρ xo 0) 14)) 3 = Rn (7) := ((congrArg (fun q => tp_fld q 3) (hF53 (ρ (ρ xo 0) 14) (by rw [ht14]; decide))).trans l4).trans (hKN (7) (by decide) (by decide) (fun q9 => by have q8 : False := q9; omega)).symm
  have m5 : tp_fld (f52 (ρ (ρ xo 0) 15)) 2 = Rn (6) := ((congrArg (fun q => tp_fld q 2) (hF53 (ρ (ρ xo 0) 15) (by rw [ht15]; decide))).trans l5).trans (hKN (6) (by decide) (by decide) (fun q9 => by have q8 : False := q9; omega)).symm
  have m6 : tp_fld (f52 (ρ (ρ xo 0) 18)) 2 = Rn (10) := ((congrArg (fun q => tp_fld q 2) (hF53 (ρ (ρ xo 0) 18) (by rw [ht18]; decide))).trans l6).trans (hKN (10) (by decide) (by decide) (fun q9 => by have q8 : False := q9; omega)).symm
  have l0 := m0
  have l1 := m1
  have l2 := m2
  have l3 := m3
  have l4 := m4
  have l5 := m5
  have l6 := m6
  rw [hRn] at l0 l1 l2 l3 l4 l5 l6
  have hPm := lz_P.keep hG hT hxo (tp_X.of (E := fun _ => False) hF53 (by decide)) (fun n q9 => False.elim q9) (hF53 _ (by rw [(tpg_12 hG hxo).2.1]; decide)) (by rw [hF53 _ (by rw [hims]; decide)]) (by rw [hF53 _ (by rw [hkep]; decide)]) hPm
  have hT := hT1
  have hP := hB.1; rw [ht] at hP; have hD := tp_ad f52 hD; clear hB hFc hz1 hk1; subst ht; generalize t.heap = H at hP hS ⊢
  refine lv_pop hx hb dL_law_1287 rfl ?_
  refine lv_goto (tgt := 1710) hx hb dL_law_1288 (by decide) ?_
  refine tp_widen (cells + 110) (slots + 2634) (by omega) (by omega) ?_
  exact kk τ ν ρ L f52 _ _ _ ⟨hG, hT, hxo, hmo, hJ, hIM, ⟨l0, l1, l2, l3, l4, l5, l6⟩, hPm⟩ hP hD hS (lv_sub hl [0, 1, 2, 3] rfl)
end
section
set_option maxHeartbeats 8000000 in
set_option maxRecDepth 100000 in
theorem law_case_29 {p : Program} {l : Launch} {e : Env} {s : State} {m : MethodId} {below : List Frame} {meth : Method} {c : Code} {b N9 : Nat} {xs : Nat → Int32} {dC : Nat → ClassId} {dI : Nat → Nat → Nat} {κ : Nat → ClassId} {adK adV : Nat → Nat} {zv : Option Nat} {xo mo : Nat} {k cells slots : Nat} {i : Int32} (C0 : lw_At p s m meth c b N9 xs) (hN9 : N9 ≤ 4608) (hN : nz_ok s) (hZ : pw_Z adK adV zv (fun q : Nat => s.heap.size ≤ q) s s.heap) (hK : va_K (dC, dI) vwCl (tp_K κ) s) (hk : 9 * k + 9 ≤ N9) (hi : i.toInt = 9 * (k : Int)) (hc : cells + 110 ≤ 600000) (hs : slots + 2634 ≤ 7302249) (kk : ∀ (τ ν : Nat → Nat) (ρ : Nat → Nat → Nat) (L : List Nat) (f : Nat → va_E) (H : Heap) (locs : List Loc) (ls : Array Slot), lz_I κ xo mo τ ν ρ L f → va_P (dC, dI) vwCl (va_pl L f) H → va_D (fun q : Nat => s.heap.size ≤ q) (va_pl L f) → va_S (fun q : Nat => s.heap.size ≤ q) s.heap H locs → lv_has ls 4 [(0, .ref b), (1, .ref xo), (2, .ref mo), (3, .int i)] → W p l e room_1 s m #[Value.ref b] below meth c H locs (cells + 110) (slots + 2634) (lw_Z below #[Value.ref b] s) (F0 m 1710 ls [])) {τ ν : Nat → Nat} {ρ : Nat → Nat → Nat} {L : List Nat} {f : Nat → va_E} {H : Heap} {locs : List Loc} {ls : Array Slot}  (hI : lz_I κ xo mo τ ν ρ L f) (hP : va_P (dC, dI) vwCl (va_pl L f) H) (hD : va_D (fun q : Nat => s.heap.size ≤ q) (va_pl L f)) (hS : va_S (fun q : Nat => s.heap.size ≤ q) s.heap H locs) (hl : lv_has ls 4 [(0, .ref b), (1, .ref xo), (2, .ref mo), (3, .int i)]) : W p l e room_1 s m #[Value.ref b] below meth c H locs cells slots (lw_Z below #[Value.ref b] s) (F0 m 1291 ls []) := by
  obtain ⟨hx, hb, hr, hml, hown, hts, hX, hbl, hlocks, hgv⟩ := id C0
  have hown : s.vm.findClass RL = some m.cls := hown
  have hA : ∀ q : Nat, s.heap.size ≤ q → (fun q : Nat => s.heap.size ≤ q) q := fun _ h => h
  have hbA : ¬ (fun q : Nat => s.heap.size ≤ q) b := Nat.not_le.mpr hbl
  obtain ⟨hG, hT, hxo, hmo, hJ, hIM, ⟨l0, l1, l2, l3, l4, l5, l6⟩, hPm⟩ := hI
  have hrow := (tpg_13 hG hmo).1; have hims := (tpg_13 hG hmo).2.1; have hkep := (tpg_13 hG hmo).2.2.1
  refine lv_aload_n hx hb dL_law_1291 rfl (lv_at hl 1 rfl) ?_
  refine lv_aload_n hx hb dL_law_1292 rfl (lv_at hl 0 rfl) ?_
  refine lv_iload_n hx hb dL_law_1293 rfl (lv_at hl 3 rfl) ?_
  refine lv_iconst (v := 1) hx hb dL_law_1294 (by decide) ?_
  refine lv_iadd hx hb dL_law_1295 ?_
  refine lv_topi (fun z1 ez1 => ?_)
  have iz1 : z1.toInt = i.toInt + 1 := zi_add ez1 rfl (show (1 : Int32).toInt = 1 from rfl) (by omega) (by omega)
  refine va_sld hx hb hX hbl hbA hS (vp_in_iff.mpr ⟨by omega, by omega⟩) dL_law_1296 ?_
  refine lv_topi (fun y2 ey2 => ?_)
  obtain rfl : y2 = xs (9 * k + 1) := ey2.trans (congrArg xs (show z1.toInt.toNat = 9 * k + 1 by omega))
  refine lv_aload_n hx hb dL_law_1297 rfl (lv_at hl 0 rfl) ?_
  refine lv_iload_n hx hb dL_law_1298 rfl (lv_at hl 3 rfl) ?_
  refine lv_iconst (v := 2) hx hb dL_law_1299 (by decide) ?_
  refine lv_iadd hx hb dL_law_1300 ?_
  refine lv_topi (fun z3 ez3 => ?_)
  have iz3 : z3.toInt = i.toInt + 2 := zi_add ez3 rfl (show (2 : Int32).toInt = 2 from rfl) (by omega) (by omega)
  refine va_sld hx hb hX hbl hbA hS (vp_in_iff.mpr ⟨by omega, by omega⟩) dL_law_1301 ?_
  refine lv_topi (fun y4 ey4 => ?_)
  obtain rfl : y4 = xs (9 * k + 2) := ey4.trans (congrArg xs (show z3.toInt.toNat = 9 * k + 2 by omega))
  refine lv_aload_n hx hb dL_law_1302 rfl (lv_at hl 0 rfl) ?_
  refine lv_iload_n hx hb dL_law_1303 rfl (lv_at hl 3 rfl) ?_
  refine lv_iconst (v := 3) hx hb dL_law_1304 (by decide) ?_
  refine lv_iadd hx hb dL_law_1305 ?_
  refine lv_topi (fun z5 ez5 => ?_)
  have iz5 : z5.toInt = i.toInt + 3 := zi_add ez5 rfl (show (3 : Int32).toInt = 3 from rfl) (by omega) (by omega)
  refine va_sld hx hb hX hbl hbA hS (vp_in_iff.mpr ⟨by omega, by omega⟩) dL_law_1306 ?_
  refine lv_topi (fun y6 ey6 => ?_)
  obtain rfl : y6 = xs (9 * k + 3) := ey6.trans (congrArg xs (show z5.toInt.toNat = 9 * k + 3 by omega))
  refine lv_aload_n hx hb dL_law_1307 rfl (lv_at hl 0 rfl) ?_
  refine lv_iload_n hx hb dL_law_1308 rfl (lv_at hl 3 rfl) ?_
  refine lv_iconst (v := 4) hx hb dL_law_1309 (by decide) ?_
  refine lv_iadd hx hb dL_law_1310 ?_
  refine lv_topi (fun z7 ez7 => ?_)
  have iz7 : z7.toInt = i.toInt + 4 := zi_add ez7 rfl (show (4 : Int32).toInt = 4 from rfl) (by omega) (by omega)
  refine va_sld hx hb hX hbl hbA hS (vp_in_iff.mpr ⟨by omega, by omega⟩) dL_law_1311 ?_
  refine lv_topi (fun y8 ey8 => ?_)
  obtain rfl : y8 = xs (9 * k + 4) := ey8.trans (congrArg xs (show z7.toInt.toNat = 9 * k + 4 by omega))
  refine lv_aload_n hx hb dL_law_1312 rfl (lv_at hl 0 rfl) ?_
  refine lv_iload_n hx hb dL_law_1313 rfl (lv_at hl 3 rfl) ?_
  refine lv_iconst (v := 5) hx hb dL_law_1314 (by decide) ?_
  refine lv_iadd hx hb dL_law_1315 ?_
  refine lv_topi (fun z9 ez9 => ?_)
  have iz9 : z9.toInt = i.toInt + 5 := zi_add ez9 rfl (show (5 : Int32).toInt = 5 from rfl) (by omega) (by omega)
  refine va_sld hx hb hX hbl hbA hS (vp_in_iff.mpr ⟨by omega, by omega⟩) dL_law_1316 ?_
  refine lv_topi (fun y10 ey10 => ?_)
  obtain rfl : y10 = xs (9 * k + 5) := ey10.trans (congrArg xs (show z9.toInt.toNat = 9 * k + 5 by omega))
  refine tgk_12 hG hxo (fun y11 y11l y12 y13 y14 y15 y16 y17a y17b y17c => ?_)
  refine tpk_12 hT hxo (fun o18_x6 hf_o18 => ?_)
  refine tpk_pos (tp_in hG hxo (by decide)) hf_o18 (fun q19 eq19 => ?_)
  have hFc := tp_fr hD hS hA
  obtain ⟨R_24, hRe_24⟩ : ∃ R, R = mo_R (mo_i (f (ρ mo 2))) := ⟨_, rfl⟩; rw [← hRe_24] at l0 l1 l2 l3 l4 l5 l6
  refine va_calli (va_runV (As := [.int (xs (9 * k + 1)), .int (xs (9 * k + 2)), .int (xs (9 * k + 3)), .int (xs (9 * k + 4)), .int (xs (9 * k + 5))]) (rest := []) ⟨hx, hb, hml, hown, hts⟩ (t_X11_reading l dC dI _ (mo_O κ mo_n) κ τ ν ρ L f hG hT xo (xs (9 * k + 1)) (xs (9 * k + 2)) (xs (9 * k + 3)) (xs (9 * k + 4)) (xs (9 * k + 5)) hxo) (cwV 5 hts gz_X11_reading rfl rfl rfl ⟨rfl, pd_X11_reading⟩ ⟨Nat.le_of_ble_eq_true rfl, Nat.le_of_ble_eq_true rfl⟩) ⟨pz_blind, va_recv hK hP (ci := 11) (q0 := q19) rfl eq19, pz_pre hP hK hD hN⟩ rfl rfl hl.1 rfl (lv_room (Nat.le_of_ble_eq_true rfl)) dL_law_1317 ⟨by show _ ≤ 600000; omega, by show _ ≤ 7302249; omega⟩) hS (fun q _ h => hFc q h) hFc (fun r20 f22 t H1 locs ht hvm hw21 hB hz1 hk1 hS => ?_)
  refine tn_4 hw21 (fun hT1 hF23 hw21r hw21p => ?_); clear hw21
  obtain ⟨hw_t, hw_l⟩ := (tpg_12 hG hxo).1
  obtain ⟨-, -, -, -, -, -, ⟨ht13, -, hl13⟩, ⟨ht14, -, hl14⟩, ⟨ht15, -, -, hl15⟩, -, -, ⟨ht18, -, -, hl18⟩⟩ := tpg_11 hG hw_t
  have hJ : mo_RI (-1) 0 (mo_R (mo_i (f22 (ρ mo 2)))) := by rw [hF23 _ (by rw [hrow]; decide)]; exact hJ
  have hIM : mo_IM (mo_R (mo_i (f22 (ρ mo 3)))) := by rw [hF23 _ (by rw [hims]; decide)]; exact hIM
  have hXE := hw21p
  have m0 : tp_fld (f22 (ρ xo 0)) 0 = R_24 (11) := (congrArg (fun q => tp_fld q 0) (hXE (ρ xo 0) (Or.inr (Or.inr hw_t)) (fun q9 => by have q8 : (ρ (ρ xo 0) 30) = 16 := q9; omega))).trans l0
  have m1 : tp_fld (f22 (ρ xo 0)) 4 = R_24 (0) := (congrArg (fun q => tp_fld q 4) (hXE (ρ xo 0) (Or.inr (Or.inr hw_t)) (fun q9 => by have q8 : (ρ (ρ xo 0) 30) = 16 := q9; omega))).trans l1
  have m2 : tp_fld (f22 (ρ xo 0)) 5 = R_24 (1) := (congrArg (fun q => tp_fld q 5) (hXE (ρ xo 0) (Or.inr (Or.inr hw_t)) (fun q9 => by have q8 : (ρ (ρ xo 0) 30) = 16 := q9; omega))).trans l2
  have m3 : tp_fld (f22 (ρ (ρ xo 0) 13)) 3 = R_24 (3) := (congrArg (fun q => tp_fld q 3) (hXE (ρ (ρ xo 0) 13) (Or.inr (Or.inl ht13)) (fun q9 => by have q8 : (ρ (ρ (ρ xo 0) 13) 30) = 16 := q9; omega))).trans l3
  have m4 : tp_fld (f22 (ρ (ρ xo 0) 14)) 3 = R_24 (7) := (congrArg (fun q => tp_fld q 3) (hXE (ρ (ρ xo 0) 14) (Or.inr (Or.inl ht14)) (fun q9 => by have q8 : (ρ (ρ (ρ xo 0) 14) 30) = 16 := q9; omega))).trans l4
  have m5 : tp_fld (f22 (ρ (ρ xo 0) 15)) 2 = R_24 (6) := (congrArg (fun q => tp_fld q 2) (hXE (ρ (ρ xo 0) 15) (Or.inl ht15) (fun q9 => by have q8 : (ρ (ρ (ρ xo 0) 15) 30) = 16 := q9; omega))).trans l5
  have m6 : tp_fld (f22 (ρ (ρ xo 0) 18)) 2 = R_24 (10) := (congrArg (fun q => tp_fld q 2) (hXE (ρ (ρ xo 0) 18) (Or.inl ht18) (fun q9 => by have q8 : (ρ (ρ (ρ xo 0) 18) 30) = 16 := q9; omega))).trans l6
  have hPm := lz_P.keep hG hT hxo hXE (fun n q9 => by have q8 : n = 16 := q9; first | exact q8.elim | omega) (hF23 _ (by rw [(tpg_12 hG hxo).2.1]; decide)) (by rw [hF23 _ (by rw [hims]; decide)]) (by rw [hF23 _ (by rw [hkep]; decide)]) hPm
  have l0 := m0
  have l1 := m1
  have l2 := m2
  have l3 := m3
  have l4 := m4
  have l5 := m5
  have l6 := m6
  have hRe : mo_R (mo_i (f22 (ρ mo 2))) = R_24 := by rw [hF23 _ (by rw [hrow]; decide)]; exact hRe_24.symm
  have hT := hT1
  have hP := hB.1; rw [ht] at hP; have hD := tp_ad f22 hD; clear hB hFc hz1 hk1; subst ht; generalize t.heap = H at hP hS ⊢
  refine lv_pop hx hb dL_law_1320 rfl ?_
  refine lv_aload_n hx hb dL_law_1321 rfl (lv_at hl 2 rfl) ?_
  refine lv_aload_n hx hb dL_law_1322 rfl (lv_at hl 0 rfl) ?_
  refine lv_iload_n hx hb dL_law_1323 rfl (lv_at hl 3 rfl) ?_
  refine lv_iconst (v := 1) hx hb dL_law_1324 (by decide) ?_
  refine lv_iadd hx hb dL_law_1325 ?_
  refine lv_topi (fun z25 ez25 => ?_)
  have iz25 : z25.toInt = i.toInt + 1 := zi_add ez25 rfl (show (1 : Int32).toInt = 1 from rfl) (by omega) (by omega)
  refine va_sld hx hb hX hbl hbA hS (vp_in_iff.mpr ⟨by omega, by omega⟩) dL_law_1326 ?_
  refine lv_topi (fun y26 ey26 => ?_)
  obtain rfl : y26 = xs (9 * k + 1) := ey26.trans (congrArg xs (show z25.toInt.toNat = 9 * k + 1 by omega))
  refine lv_aload_n hx hb dL_law_1327 rfl (lv_at hl 0 rfl) ?_
  refine lv_iload_n hx hb dL_law_1328 rfl (lv_at hl 3 rfl) ?_
  refine lv_iconst (v := 2) hx hb dL_law_1329 (by decide) ?_
  refine lv_iadd hx hb dL_law_1330 ?_
  refine lv_topi (fun z27 ez27 => ?_)
  have iz27 : z27.toInt = i.toInt + 2 := zi_add ez27 rfl (show (2 : Int32).toInt = 2 from rfl) (by omega) (by omega)
  refine va_sld hx hb hX hbl hbA hS (vp_in_iff.mpr ⟨by omega, by omega⟩) dL_law_1331 ?_
  refine lv_topi (fun y28 ey28 => ?_)
  obtain rfl : y28 = xs (9 * k + 2) := ey28.trans (congrArg xs (show z27.toInt.toNat = 9 * k + 2 by omega))
  refine lv_aload_n hx hb dL_law_1332 rfl (lv_at hl 0 rfl) ?_
  refine lv_iload_n hx hb dL_law_1333 rfl (lv_at hl 3 rfl) ?_
  refine lv_iconst (v := 3) hx hb dL_law_1334 (by decide) ?_
  refine lv_iadd hx hb dL_law_1335 ?_
  refine lv_topi (fun z29 ez29 => ?_)
  have iz29 : z29.toInt = i.toInt + 3 := zi_add ez29 rfl (show (3 : Int32).toInt = 3 from rfl) (by omega) (by omega)
  refine va_sld hx hb hX hbl hbA hS (vp_in_iff.mpr ⟨by omega, by omega⟩) dL_law_1336 ?_
  refine lv_topi (fun y30 ey30 => ?_)
  obtain rfl : y30 = xs (9 * k + 3) := ey30.trans (congrArg xs (show z29.toInt.toNat = 9 * k + 3 by omega))
  refine lv_aload_n hx hb dL_law_1337 rfl (lv_at hl 0 rfl) ?_
  refine lv_iload_n hx hb dL_law_1338 rfl (lv_at hl 3 rfl) ?_
  refine lv_iconst (v := 4) hx hb dL_law_1339 (by decide) ?_
  refine lv_iadd hx hb dL_law_1340 ?_
  refine lv_topi (fun z31 ez31 => ?_)
  have iz31 : z31.toInt = i.toInt + 4 := zi_add ez31 rfl (show (4 : Int32).toInt = 4 from rfl) (by omega) (by omega)
  refine va_sld hx hb hX hbl hbA hS (vp_in_iff.mpr ⟨by omega, by omega⟩) dL_law_1341 ?_
  refine lv_topi (fun y32 ey32 => ?_)
  obtain rfl : y32 = xs (9 * k + 4) := ey32.trans (congrArg xs (show z31.toInt.toNat = 9 * k + 4 by omega))
  refine lv_aload_n hx hb dL_law_1342 rfl (lv_at hl 0 rfl) ?_
  refine lv_iload_n hx hb dL_law_1343 rfl (lv_at hl 3 rfl) ?_
  refine lv_iconst (v := 5) hx hb dL_law_1344 (by decide) ?_
  refine lv_iadd hx hb dL_law_1345 ?_
  refine lv_topi (fun z33 ez33 => ?_)
  have iz33 : z33.toInt = i.toInt + 5 := zi_add ez33 rfl (show (5 : Int32).toInt = 5 from rfl) (by omega) (by omega)
  refine va_sld hx hb hX hbl hbA hS (vp_in_iff.mpr ⟨by omega, by omega⟩) dL_law_1346 ?_
  refine lv_topi (fun y34 ey34 => ?_)
  obtain rfl : y34 = xs (9 * k + 5) := ey34.trans (congrArg xs (show z33.toInt.toNat = 9 * k + 5 by omega))
  refine tgk_13 hG hmo (fun y35 y36 y37 y38 y39 y40 y41 y42 y43 y44 y45 y46 y47 y48 y49 y50 y51 y52 y53 y54 y55 y56 y57 y58 y59 => ?_)
  refine tpk_13 hT hmo (fun o60_x0 o60_x1 o60_x7 o60_x9 o60_x10 o60_x11 o60_x12 o60_x13 o60_x14 o60_x15 o60_x16 o60_x17 o60_x18 o60_x19 o60_x20 o60_x22 o60_x25 o60_x28 o60_x29 o60_x32 o60_x33 o60_x34 o60_x35 o60_x36 o60_x37 o60_x38 o60_x47 o60_x48 hf_o60 ro60_0 ro60_1 ro60_2 ro60_3 ro60_4 ro60_5 ro60_6 ro60_7 ro60_8 ro60_9 ro60_10 ro60_11 ro60_12 ro60_13 ro60_14 => ?_)
  refine tpk_pos (tp_in hG hmo (by decide)) hf_o60 (fun q61 eq61 => ?_)
  have hFc := tp_fr hD hS hA
  have hRe_66 : R_24 = mo_R (mo_i (f22 (ρ mo 2))) := hRe.symm
  refine va_calli (va_runV (As := [.int (xs (9 * k + 1)), .int (xs (9 * k + 2)), .int (xs (9 * k + 3)), .int (xs (9 * k + 4)), .int (xs (9 * k + 5))]) (rest := []) ⟨hx, hb, hml, hown, hts⟩ (t_X12_reading l dC dI _ κ mo_n τ ν ρ L f22 hG hT mo (xs (9 * k + 1)) (xs (9 * k + 2)) (xs (9 * k + 3)) (xs (9 * k + 4)) (xs (9 * k + 5)) hmo hJ) (cwV 5 hts gz_X12_reading rfl rfl rfl ⟨rfl, pd_X12_reading⟩ ⟨Nat.le_of_ble_eq_true rfl, Nat.le_of_ble_eq_true rfl⟩) ⟨pz_blind, va_recv hK hP (ci := 12) (q0 := q61) rfl eq61, pz_pre hP hK hD hN⟩ rfl rfl hl.1 rfl (lv_room (Nat.le_of_ble_eq_true rfl)) dL_law_1347 ⟨by show _ ≤ 600000; omega, by show _ ≤ 7302249; omega⟩) hS (fun q _ h => hFc q h) hFc (fun r62 f64 t H1 locs ht hvm hw63 hB hz1 hk1 hS => ?_)
  refine tn_4 hw63 (fun hT1 hF65 hw63r hw63p => ?_); clear hw63
  obtain ⟨hw_t, hw_l⟩ := (tpg_12 hG hxo).1
  obtain ⟨-, -, -, -, -, -, ⟨ht13, -, hl13⟩, ⟨ht14, -, hl14⟩, ⟨ht15, -, -, hl15⟩, -, -, ⟨ht18, -, -, hl18⟩⟩ := tpg_11 hG hw_t
  obtain ⟨hJ, hw63pb⟩ := hw63p
  obtain ⟨Rn, hRn⟩ : ∃ R, R = mo_R (mo_i (f64 (ρ mo 2))) := ⟨_, rfl⟩
  rw [← hRn, ← hRe_66] at hw63pb
  have hKN := hw63pb
  have hIM : mo_IM (mo_R (mo_i (f64 (ρ mo 3)))) := by rw [hF65 _ (by rw [hims]; decide)]; exact hIM
  have m0 : tp_fld (f64 (ρ xo 0)) 0 = Rn (11) := ((congrArg (fun q => tp_fld q 0) (hF65 (ρ xo 0) (by rw [hw_t]; decide))).trans l0).trans (hKN (11) (by decide) (by decide) (fun q9 => by have q8 : (11 : Int) = 9 := q9; omega)).symm
  have m1 : tp_fld (f64 (ρ xo 0)) 4 = Rn (0) := ((congrArg (fun q => tp_fld q 4) (hF65 (ρ xo 0) (by rw [hw_t]; decide))).trans l1).trans (hKN (0) (by decide) (by decide) (fun q9 => by have q8 : (0 : Int) = 9 := q9; omega)).symm
  have m2 : tp_fld (f64 (ρ xo 0)) 5 = Rn (1) := ((congrArg (fun q => tp_fld q 5) (hF65 (ρ xo 0) (by rw [hw_t]; decide))).trans l2).trans (hKN (1) (by decide) (by decide) (fun q9 => by have q8 : (1 : Int) = 9 := q9; omega)).symm
  have m3 : tp_fld (f64 (ρ (ρ xo 0) 13)) 3 = Rn (3) := ((congrArg (fun q => tp_fld q 3) (hF65 (ρ (ρ xo 0) 13) (by rw [ht13]; decide))).trans l3).trans (hKN (3) (by decide) (by decide) (fun q9 => by have q8 : (3 : Int) = 9 := q9; omega)).symm
  have m4 : tp_fld (f64 (ρ (ρ xo 0) 14)) 3 = Rn (7) := ((congrArg (fun q => tp_fld q 3) (hF65 (ρ (ρ xo 0) 14) (by rw [ht14]; decide))).trans l4).trans (hKN (7) (by decide) (by decide) (fun q9 => by have q8 : (7 : Int) = 9 := q9; omega)).symm
  have m5 : tp_fld (f64 (ρ (ρ xo 0) 15)) 2 = Rn (6) := ((congrArg (fun q => tp_fld q 2) (hF65 (ρ (ρ xo 0) 15) (by rw [ht15]; decide))).trans l5).trans (hKN (6) (by decide) (by decide) (fun q9 => by have q8 : (6 : Int) = 9 := q9; omega)).symm
  have m6 : tp_fld (f64 (ρ (ρ xo 0) 18)) 2 = Rn (10) := ((congrArg (fun q => tp_fld q 2) (hF65 (ρ (ρ xo 0) 18) (by rw [ht18]; decide))).trans l6).trans (hKN (10) (by decide) (by decide) (fun q9 => by have q8 : (10 : Int) = 9 := q9; omega)).symm
  have l0 := m0
  have l1 := m1
  have l2 := m2
  have l3 := m3
  have l4 := m4
  have l5 := m5
  have l6 := m6
  rw [hRn] at l0 l1 l2 l3 l4 l5 l6
  have hPm := lz_P.keep hG hT hxo (tp_X.of (E := fun _ => False) hF65 (by decide)) (fun n q9 => False.elim q9) (hF65 _ (by rw [(tpg_12 hG hxo).2.1]; decide)) (by rw [hF65 _ (by rw [hims]; decide)]) (by rw [hF65 _ (by rw [hkep]; decide)]) hPm
  have hT := hT1
  have hP := hB.1; rw [ht] at hP; have hD := tp_ad f64 hD; clear hB hFc hz1 hk1; subst ht; generalize t.heap = H at hP hS ⊢
  refine lv_pop hx hb dL_law_1350 rfl ?_
  refine lv_goto (tgt := 1710) hx hb dL_law_1351 (by decide) ?_
  refine tp_widen (cells + 110) (slots + 2634) (by omega) (by omega) ?_
  exact kk τ ν ρ L f64 _ _ _ ⟨hG, hT, hxo, hmo, hJ, hIM, ⟨l0, l1, l2, l3, l4, l5, l6⟩, hPm⟩ hP hD hS (lv_sub hl [0, 1, 2, 3] rfl)
set_option maxHeartbeats 8000000 in
set_option maxRecDepth 100000 in
theorem law_case_30 {p : Program} {l : Launch} {e : Env} {s : State} {m : MethodId} {below : List Frame} {meth : Method} {c : Code} {b N9 : Nat} {xs : Nat → Int32} {dC : Nat → ClassId} {dI : Nat → Nat → Nat} {κ : Nat → ClassId} {adK adV : Nat → Nat} {zv : Option Nat} {xo mo : Nat} {k cells slots : Nat} {i : Int32} (C0 : lw_At p s m meth c b N9 xs) (hN9 : N9 ≤ 4608) (hN : nz_ok s) (hZ : pw_Z adK adV zv (fun q : Nat => s.heap.size ≤ q) s s.heap) (hK : va_K (dC, dI) vwCl (tp_K κ) s) (hk : 9 * k + 9 ≤ N9) (hi : i.toInt = 9 * (k : Int)) (hc : cells + 110 ≤ 600000) (hs : slots + 2634 ≤ 7302249) (kk : ∀ (τ ν : Nat → Nat) (ρ : Nat → Nat → Nat) (L : List Nat) (f : Nat → va_E) (H : Heap) (locs : List Loc) (ls : Array Slot), lz_I κ xo mo τ ν ρ L f → va_P (dC, dI) vwCl (va_pl L f) H → va_D (fun q : Nat => s.heap.size ≤ q) (va_pl L f) → va_S (fun q : Nat => s.heap.size ≤ q) s.heap H locs → lv_has ls 4 [(0, .ref b), (1, .ref xo), (2, .ref mo), (3, .int i)] → W p l e room_1 s m #[Value.ref b] below meth c H locs (cells + 110) (slots + 2634) (lw_Z below #[Value.ref b] s) (F0 m 1710 ls [])) {τ ν : Nat → Nat} {ρ : Nat → Nat → Nat} {L : List Nat} {f : Nat → va_E} {H : Heap} {locs : List Loc} {ls : Array Slot}  (hI : lz_I κ xo mo τ ν ρ L f) (hP : va_P (dC, dI) vwCl (va_pl L f) H) (hD : va_D (fun q : Nat => s.heap.size ≤ q) (va_pl L f)) (hS : va_S (fun q : Nat => s.heap.size ≤ q) s.heap H locs) (hl : lv_has ls 4 [(0, .ref b), (1, .ref xo), (2, .ref mo), (3, .int i)]) : W p l e room_1 s m #[Value.ref b] below meth c H locs cells slots (lw_Z below #[Value.ref b] s) (F0 m 1354 ls []) := by
  obtain ⟨hx, hb, hr, hml, hown, hts, hX, hbl, hlocks, hgv⟩ := id C0
  have hown : s.vm.findClass RL = some m.cls := hown
  have hA : ∀ q : Nat, s.heap.size ≤ q → (fun q : Nat => s.heap.size ≤ q) q := fun _ h => h
  have hbA : ¬ (fun q : Nat => s.heap.size ≤ q) b := Nat.not_le.mpr hbl
  obtain ⟨hG, hT, hxo, hmo, hJ, hIM, ⟨l0, l1, l2, l3, l4, l5, l6⟩, hPm⟩ := hI
  have hrow := (tpg_13 hG hmo).1; have hims := (tpg_13 hG hmo).2.1; have hkep := (tpg_13 hG hmo).2.2.1
  refine lv_aload_n hx hb dL_law_1354 rfl (lv_at hl 1 rfl) ?_
  refine lv_aload_n hx hb dL_law_1355 rfl (lv_at hl 0 rfl) ?_
  refine lv_iload_n hx hb dL_law_1356 rfl (lv_at hl 3 rfl) ?_
  refine lv_iconst (v := 1) hx hb dL_law_1357 (by decide) ?_
  refine lv_iadd hx hb dL_law_1358 ?_
  refine lv_topi (fun z1 ez1 => ?_)
  have iz1 : z1.toInt = i.toInt + 1 := zi_add ez1 rfl (show (1 : Int32).toInt = 1 from rfl) (by omega) (by omega)
  refine va_sld hx hb hX hbl hbA hS (vp_in_iff.mpr ⟨by omega, by omega⟩) dL_law_1359 ?_
  refine lv_topi (fun y2 ey2 => ?_)
  obtain rfl : y2 = xs (9 * k + 1) := ey2.trans (congrArg xs (show z1.toInt.toNat = 9 * k + 1 by omega))
  refine lv_aload_n hx hb dL_law_1360 rfl (lv_at hl 0 rfl) ?_
  refine lv_iload_n hx hb dL_law_1361 rfl (lv_at hl 3 rfl) ?_
  refine lv_iconst (v := 2) hx hb dL_law_1362 (by decide) ?_
  refine lv_iadd hx hb dL_law_1363 ?_
  refine lv_topi (fun z3 ez3 => ?_)
  have iz3 : z3.toInt = i.toInt + 2 := zi_add ez3 rfl (show (2 : Int32).toInt = 2 from rfl) (by omega) (by omega)
  refine va_sld hx hb hX hbl hbA hS (vp_in_iff.mpr ⟨by omega, by omega⟩) dL_law_1364 ?_
  refine lv_topi (fun y4 ey4 => ?_)
  obtain rfl : y4 = xs (9 * k + 2) := ey4.trans (congrArg xs (show z3.toInt.toNat = 9 * k + 2 by omega))
  refine lv_aload_n hx hb dL_law_1365 rfl (lv_at hl 0 rfl) ?_
  refine lv_iload_n hx hb dL_law_1366 rfl (lv_at hl 3 rfl) ?_
  refine lv_iconst (v := 3) hx hb dL_law_1367 (by decide) ?_
  refine lv_iadd hx hb dL_law_1368 ?_
  refine lv_topi (fun z5 ez5 => ?_)
  have iz5 : z5.toInt = i.toInt + 3 := zi_add ez5 rfl (show (3 : Int32).toInt = 3 from rfl) (by omega) (by omega)
  refine va_sld hx hb hX hbl hbA hS (vp_in_iff.mpr ⟨by omega, by omega⟩) dL_law_1369 ?_
  refine lv_topi (fun y6 ey6 => ?_)
  obtain rfl : y6 = xs (9 * k + 3) := ey6.trans (congrArg xs (show z5.toInt.toNat = 9 * k + 3 by omega))
  refine tgk_12 hG hxo (fun y7 y7l y8 y9 y10 y11 y12 y13a y13b y13c => ?_)
  refine tpk_12 hT hxo (fun o14_x6 hf_o14 => ?_)
  refine tpk_pos (tp_in hG hxo (by decide)) hf_o14 (fun q15 eq15 => ?_)
  have hFc := tp_fr hD hS hA
  obtain ⟨R_20, hRe_20⟩ : ∃ R, R = mo_R (mo_i (f (ρ mo 2))) := ⟨_, rfl⟩; rw [← hRe_20] at l0 l1 l2 l3 l4 l5 l6
  refine va_calll (va_runV (As := [.int (xs (9 * k + 1)), .int (xs (9 * k + 2)), .int (xs (9 * k + 3))]) (rest := []) ⟨hx, hb, hml, hown, hts⟩ (t_X11_gauged l dC dI _ (mo_O κ mo_n) κ τ ν ρ L f hG hT xo (xs (9 * k + 1)) (xs (9 * k + 2)) (xs (9 * k + 3)) hxo) (cwV 3 hts gz_X11_gauged rfl rfl rfl ⟨rfl, pd_X11_gauged⟩ ⟨Nat.le_of_ble_eq_true rfl, Nat.le_of_ble_eq_true rfl⟩) ⟨pz_blind, va_recv hK hP (ci := 11) (q0 := q15) rfl eq15, pz_pre hP hK hD hN⟩ rfl rfl hl.1 rfl (lv_room (Nat.le_of_ble_eq_true rfl)) dL_law_1370 ⟨by show _ ≤ 600000; omega, by show _ ≤ 7302249; omega⟩) hS (fun q _ h => hFc q h) hFc (fun r16 f18 t H1 locs ht hvm hw17 hB hz1 hk1 hS => ?_)
  refine tn_4 hw17 (fun hT1 hF19 hw17r hw17p => ?_); clear hw17
  obtain ⟨hw_t, hw_l⟩ := (tpg_12 hG hxo).1
  obtain ⟨-, -, -, -, -, -, ⟨ht13, -, hl13⟩, ⟨ht14, -, hl14⟩, ⟨ht15, -, -, hl15⟩, -, -, ⟨ht18, -, -, hl18⟩⟩ := tpg_11 hG hw_t
  have hJ : mo_RI (-1) 0 (mo_R (mo_i (f18 (ρ mo 2)))) := by rw [hF19 _ (by rw [hrow]; decide)]; exact hJ
  have hIM : mo_IM (mo_R (mo_i (f18 (ρ mo 3)))) := by rw [hF19 _ (by rw [hims]; decide)]; exact hIM
  have hXE : tp_X τ ρ (fun n => False) f f18 := tp_X.of hF19 (by decide)
  have m0 : tp_fld (f18 (ρ xo 0)) 0 = R_20 (11) := (congrArg (fun q => tp_fld q 0) (hXE (ρ xo 0) (Or.inr (Or.inr hw_t)) (fun q9 => q9))).trans l0
  have m1 : tp_fld (f18 (ρ xo 0)) 4 = R_20 (0) := (congrArg (fun q => tp_fld q 4) (hXE (ρ xo 0) (Or.inr (Or.inr hw_t)) (fun q9 => q9))).trans l1
  have m2 : tp_fld (f18 (ρ xo 0)) 5 = R_20 (1) := (congrArg (fun q => tp_fld q 5) (hXE (ρ xo 0) (Or.inr (Or.inr hw_t)) (fun q9 => q9))).trans l2
  have m3 : tp_fld (f18 (ρ (ρ xo 0) 13)) 3 = R_20 (3) := (congrArg (fun q => tp_fld q 3) (hXE (ρ (ρ xo 0) 13) (Or.inr (Or.inl ht13)) (fun q9 => q9))).trans l3
  have m4 : tp_fld (f18 (ρ (ρ xo 0) 14)) 3 = R_20 (7) := (congrArg (fun q => tp_fld q 3) (hXE (ρ (ρ xo 0) 14) (Or.inr (Or.inl ht14)) (fun q9 => q9))).trans l4
  have m5 : tp_fld (f18 (ρ (ρ xo 0) 15)) 2 = R_20 (6) := (congrArg (fun q => tp_fld q 2) (hXE (ρ (ρ xo 0) 15) (Or.inl ht15) (fun q9 => q9))).trans l5
  have m6 : tp_fld (f18 (ρ (ρ xo 0) 18)) 2 = R_20 (10) := (congrArg (fun q => tp_fld q 2) (hXE (ρ (ρ xo 0) 18) (Or.inl ht18) (fun q9 => q9))).trans l6
  have hPm := lz_P.keep hG hT hxo hXE (fun n q9 => by have q8 : False := q9; first | exact q8.elim | omega) (hF19 _ (by rw [(tpg_12 hG hxo).2.1]; decide)) (by rw [hF19 _ (by rw [hims]; decide)]) (by rw [hF19 _ (by rw [hkep]; decide)]) hPm
  have l0 := m0
  have l1 := m1
  have l2 := m2
  have l3 := m3
  have l4 := m4
  have l5 := m5
  have l6 := m6
  have hRe : mo_R (mo_i (f18 (ρ mo 2))) = R_20 := by rw [hF19 _ (by rw [hrow]; decide)]; exact hRe_20.symm
  have hT := hT1
  have hP := hB.1; rw [ht] at hP; have hD := tp_ad f18 hD; clear hB hFc hz1 hk1; subst ht; generalize t.heap = H at hP hS ⊢
  refine lv_pop2_2 hx hb dL_law_1373 rfl ?_
  refine lv_aload_n hx hb dL_law_1374 rfl (lv_at hl 2 rfl) ?_
  refine lv_aload_n hx hb dL_law_1375 rfl (lv_at hl 0 rfl) ?_
  refine lv_iload_n hx hb dL_law_1376 rfl (lv_at hl 3 rfl) ?_
  refine lv_iconst (v := 1) hx hb dL_law_1377 (by decide) ?_
  refine lv_iadd hx hb dL_law_1378 ?_
  refine lv_topi (fun z21 ez21 => ?_)
  have iz21 : z21.toInt = i.toInt + 1 := zi_add ez21 rfl (show (1 : Int32).toInt = 1 from rfl) (by omega) (by omega)
  refine va_sld hx hb hX hbl hbA hS (vp_in_iff.mpr ⟨by omega, by omega⟩) dL_law_1379 ?_
  refine lv_topi (fun y22 ey22 => ?_)
  obtain rfl : y22 = xs (9 * k + 1) := ey22.trans (congrArg xs (show z21.toInt.toNat = 9 * k + 1 by omega))
  refine lv_aload_n hx hb dL_law_1380 rfl (lv_at hl 0 rfl) ?_
  refine lv_iload_n hx hb dL_law_1381 rfl (lv_at hl 3 rfl) ?_
  refine lv_iconst (v := 2) hx hb dL_law_1382 (by decide) ?_
  refine lv_iadd hx hb dL_law_1383 ?_
  refine lv_topi (fun z23 ez23 => ?_)
  have iz23 : z23.toInt = i.toInt + 2 := zi_add ez23 rfl (show (2 : Int32).toInt = 2 from rfl) (by omega) (by omega)
  refine va_sld hx hb hX hbl hbA hS (vp_in_iff.mpr ⟨by omega, by omega⟩) dL_law_1384 ?_
  refine lv_topi (fun y24 ey24 => ?_)
  obtain rfl : y24 = xs (9 * k + 2) := ey24.trans (congrArg xs (show z23.toInt.toNat = 9 * k + 2 by omega))
  refine lv_aload_n hx hb dL_law_1385 rfl (lv_at hl 0 rfl) ?_
  refine lv_iload_n hx hb dL_law_1386 rfl (lv_at hl 3 rfl) ?_
  refine lv_iconst (v := 3) hx hb dL_law_1387 (by decide) ?_
  refine lv_iadd hx hb dL_law_1388 ?_
  refine lv_topi (fun z25 ez25 => ?_)
  have iz25 : z25.toInt = i.toInt + 3 := zi_add ez25 rfl (show (3 : Int32).toInt = 3 from rfl) (by omega) (by omega)
  refine va_sld hx hb hX hbl hbA hS (vp_in_iff.mpr ⟨by omega, by omega⟩) dL_law_1389 ?_
  refine lv_topi (fun y26 ey26 => ?_)
  obtain rfl : y26 = xs (9 * k + 3) := ey26.trans (congrArg xs (show z25.toInt.toNat = 9 * k + 3 by omega))
  refine tgk_13 hG hmo (fun y27 y28 y29 y30 y31 y32 y33 y34 y35 y36 y37 y38 y39 y40 y41 y42 y43 y44 y45 y46 y47 y48 y49 y50 y51 => ?_)
  refine tpk_13 hT hmo (fun o52_x0 o52_x1 o52_x7 o52_x9 o52_x10 o52_x11 o52_x12 o52_x13 o52_x14 o52_x15 o52_x16 o52_x17 o52_x18 o52_x19 o52_x20 o52_x22 o52_x25 o52_x28 o52_x29 o52_x32 o52_x33 o52_x34 o52_x35 o52_x36 o52_x37 o52_x38 o52_x47 o52_x48 hf_o52 ro52_0 ro52_1 ro52_2 ro52_3 ro52_4 ro52_5 ro52_6 ro52_7 ro52_8 ro52_9 ro52_10 ro52_11 ro52_12 ro52_13 ro52_14 => ?_)
  refine tpk_pos (tp_in hG hmo (by decide)) hf_o52 (fun q53 eq53 => ?_)
  have hFc := tp_fr hD hS hA
  have hRe_58 : R_20 = mo_R (mo_i (f18 (ρ mo 2))) := hRe.symm
  refine va_calll (va_runV (As := [.int (xs (9 * k + 1)), .int (xs (9 * k + 2)), .int (xs (9 * k + 3))]) (rest := []) ⟨hx, hb, hml, hown, hts⟩ (t_X12_gauged l dC dI _ κ mo_n τ ν ρ L f18 hG hT mo (xs (9 * k + 1)) (xs (9 * k + 2)) (xs (9 * k + 3)) hmo hJ) (cwV 3 hts gz_X12_gauged rfl rfl rfl ⟨rfl, pd_X12_gauged⟩ ⟨Nat.le_of_ble_eq_true rfl, Nat.le_of_ble_eq_true rfl⟩) ⟨pz_blind, va_recv hK hP (ci := 12) (q0 := q53) rfl eq53, pz_pre hP hK hD hN⟩ rfl rfl hl.1 rfl (lv_room (Nat.le_of_ble_eq_true rfl)) dL_law_1390 ⟨by show _ ≤ 600000; omega, by show _ ≤ 7302249; omega⟩) hS (fun q _ h => hFc q h) hFc (fun r54 f56 t H1 locs ht hvm hw55 hB hz1 hk1 hS => ?_)
  refine tn_4 hw55 (fun hT1 hF57 hw55r hw55p => ?_); clear hw55
  obtain ⟨hw_t, hw_l⟩ := (tpg_12 hG hxo).1
  obtain ⟨-, -, -, -, -, -, ⟨ht13, -, hl13⟩, ⟨ht14, -, hl14⟩, ⟨ht15, -, -, hl15⟩, -, -, ⟨ht18, -, -, hl18⟩⟩ := tpg_11 hG hw_t
  have hJ : mo_RI (-1) 0 (mo_R (mo_i (f56 (ρ mo 2)))) := by rw [hF57 _ (by rw [hrow]; decide)]; exact hJ
  have hRn : R_20 = mo_R (mo_i (f56 (ρ mo 2))) := by rw [hF57 _ (by rw [hrow]; decide)]; exact hRe_58
  have hIM : mo_IM (mo_R (mo_i (f56 (ρ mo 3)))) := by rw [hF57 _ (by rw [hims]; decide)]; exact hIM
  have m0 : tp_fld (f56 (ρ xo 0)) 0 = R_20 (11) := ((congrArg (fun q => tp_fld q 0) (hF57 (ρ xo 0) (by rw [hw_t]; decide))).trans l0)
  have m1 : tp_fld (f56 (ρ xo 0)) 4 = R_20 (0) := ((congrArg (fun q => tp_fld q 4) (hF57 (ρ xo 0) (by rw [hw_t]; decide))).trans l1)
  have m2 : tp_fld (f56 (ρ xo 0)) 5 = R_20 (1) := ((congrArg (fun q => tp_fld q 5) (hF57 (ρ xo 0) (by rw [hw_t]; decide))).trans l2)
  have m3 : tp_fld (f56 (ρ (ρ xo 0) 13)) 3 = R_20 (3) := ((congrArg (fun q => tp_fld q 3) (hF57 (ρ (ρ xo 0) 13) (by rw [ht13]; decide))).trans l3)
  have m4 : tp_fld (f56 (ρ (ρ xo 0) 14)) 3 = R_20 (7) := ((congrArg (fun q => tp_fld q 3) (hF57 (ρ (ρ xo 0) 14) (by rw [ht14]; decide))).trans l4)
  have m5 : tp_fld (f56 (ρ (ρ xo 0) 15)) 2 = R_20 (6) := ((congrArg (fun q => tp_fld q 2) (hF57 (ρ (ρ xo 0) 15) (by rw [ht15]; decide))).trans l5)
  have m6 : tp_fld (f56 (ρ (ρ xo 0) 18)) 2 = R_20 (10) := ((congrArg (fun q => tp_fld q 2) (hF57 (ρ (ρ xo 0) 18) (by rw [ht18]; decide))).trans l6)
  have l0 := m0
  have l1 := m1
  have l2 := m2
  have l3 := m3
  have l4 := m4
  have l5 := m5
  have l6 := m6
  rw [hRn] at l0 l1 l2 l3 l4 l5 l6
  have hPm := lz_P.keep hG hT hxo (tp_X.of (E := fun _ => False) hF57 (by decide)) (fun n q9 => False.elim q9) (hF57 _ (by rw [(tpg_12 hG hxo).2.1]; decide)) (by rw [hF57 _ (by rw [hims]; decide)]) (by rw [hF57 _ (by rw [hkep]; decide)]) hPm
  have hT := hT1
  have hP := hB.1; rw [ht] at hP; have hD := tp_ad f56 hD; clear hB hFc hz1 hk1; subst ht; generalize t.heap = H at hP hS ⊢
  refine lv_pop2_2 hx hb dL_law_1393 rfl ?_
  refine lv_goto (tgt := 1710) hx hb dL_law_1394 (by decide) ?_
  refine tp_widen (cells + 110) (slots + 2634) (by omega) (by omega) ?_
  exact kk τ ν ρ L f56 _ _ _ ⟨hG, hT, hxo, hmo, hJ, hIM, ⟨l0, l1, l2, l3, l4, l5, l6⟩, hPm⟩ hP hD hS (lv_sub hl [0, 1, 2, 3] rfl)
set_option maxHeartbeats 8000000 in
set_option maxRecDepth 100000 in
theorem law_case_31 {p : Program} {l : Launch} {e : Env} {s : State} {m : MethodId} {below : List Frame} {meth : Method} {c : Code} {b N9 : Nat} {xs : Nat → Int32} {dC : Nat → ClassId} {dI : Nat → Nat → Nat} {κ : Nat → ClassId} {adK adV : Nat → Nat} {zv : Option Nat} {xo mo : Nat} {k cells slots : Nat} {i : Int32} (C0 : lw_At p s m meth c b N9 xs) (hN9 : N9 ≤ 4608) (hN : nz_ok s) (hZ : pw_Z adK adV zv (fun q : Nat => s.heap.size ≤ q) s s.heap) (hK : va_K (dC, dI) vwCl (tp_K κ) s) (hk : 9 * k + 9 ≤ N9) (hi : i.toInt = 9 * (k : Int)) (hc : cells + 110 ≤ 600000) (hs : slots + 2634 ≤ 7302249) (kk : ∀ (τ ν : Nat → Nat) (ρ : Nat → Nat → Nat) (L : List Nat) (f : Nat → va_E) (H : Heap) (locs : List Loc) (ls : Array Slot), lz_I κ xo mo τ ν ρ L f → va_P (dC, dI) vwCl (va_pl L f) H → va_D (fun q : Nat => s.heap.size ≤ q) (va_pl L f) → va_S (fun q : Nat => s.heap.size ≤ q) s.heap H locs → lv_has ls 4 [(0, .ref b), (1, .ref xo), (2, .ref mo), (3, .int i)] → W p l e room_1 s m #[Value.ref b] below meth c H locs (cells + 110) (slots + 2634) (lw_Z below #[Value.ref b] s) (F0 m 1710 ls [])) {τ ν : Nat → Nat} {ρ : Nat → Nat → Nat} {L : List Nat} {f : Nat → va_E} {H : Heap} {locs : List Loc} {ls : Array Slot}  (hI : lz_I κ xo mo τ ν ρ L f) (hP : va_P (dC, dI) vwCl (va_pl L f) H) (hD : va_D (fun q : Nat => s.heap.size ≤ q) (va_pl L f)) (hS : va_S (fun q : Nat => s.heap.size ≤ q) s.heap H locs) (hl : lv_has ls 4 [(0, .ref b), (1, .ref xo), (2, .ref mo), (3, .int i)]) : W p l e room_1 s m #[Value.ref b] below meth c H locs cells slots (lw_Z below #[Value.ref b] s) (F0 m 1397 ls []) := by
  obtain ⟨hx, hb, hr, hml, hown, hts, hX, hbl, hlocks, hgv⟩ := id C0
  have hown : s.vm.findClass RL = some m.cls := hown
  have hA : ∀ q : Nat, s.heap.size ≤ q → (fun q : Nat => s.heap.size ≤ q) q := fun _ h => h
  have hbA : ¬ (fun q : Nat => s.heap.size ≤ q) b := Nat.not_le.mpr hbl
  obtain ⟨hG, hT, hxo, hmo, hJ, hIM, ⟨l0, l1, l2, l3, l4, l5, l6⟩, hPm⟩ := hI
  have hrow := (tpg_13 hG hmo).1; have hims := (tpg_13 hG hmo).2.1; have hkep := (tpg_13 hG hmo).2.2.1
  refine lv_aload_n hx hb dL_law_1397 rfl (lv_at hl 1 rfl) ?_
  refine lv_aload_n hx hb dL_law_1398 rfl (lv_at hl 0 rfl) ?_
  refine lv_iload_n hx hb dL_law_1399 rfl (lv_at hl 3 rfl) ?_
  refine lv_iconst (v := 1) hx hb dL_law_1400 (by decide) ?_
  refine lv_iadd hx hb dL_law_1401 ?_
  refine lv_topi (fun z1 ez1 => ?_)
  have iz1 : z1.toInt = i.toInt + 1 := zi_add ez1 rfl (show (1 : Int32).toInt = 1 from rfl) (by omega) (by omega)
  refine va_sld hx hb hX hbl hbA hS (vp_in_iff.mpr ⟨by omega, by omega⟩) dL_law_1402 ?_
  refine lv_topi (fun y2 ey2 => ?_)
  obtain rfl : y2 = xs (9 * k + 1) := ey2.trans (congrArg xs (show z1.toInt.toNat = 9 * k + 1 by omega))
  refine lv_aload_n hx hb dL_law_1403 rfl (lv_at hl 0 rfl) ?_
  refine lv_iload_n hx hb dL_law_1404 rfl (lv_at hl 3 rfl) ?_
  refine lv_iconst (v := 2) hx hb dL_law_1405 (by decide) ?_
  refine lv_iadd hx hb dL_law_1406 ?_
  refine lv_topi (fun z3 ez3 => ?_)
  have iz3 : z3.toInt = i.toInt + 2 := zi_add ez3 rfl (show (2 : Int32).toInt = 2 from rfl) (by omega) (by omega)
  refine va_sld hx hb hX hbl hbA hS (vp_in_iff.mpr ⟨by omega, by omega⟩) dL_law_1407 ?_
  refine lv_topi (fun y4 ey4 => ?_)
  obtain rfl : y4 = xs (9 * k + 2) := ey4.trans (congrArg xs (show z3.toInt.toNat = 9 * k + 2 by omega))
  refine lv_aload_n hx hb dL_law_1408 rfl (lv_at hl 0 rfl) ?_
  refine lv_iload_n hx hb dL_law_1409 rfl (lv_at hl 3 rfl) ?_
  refine lv_iconst (v := 3) hx hb dL_law_1410 (by decide) ?_
  refine lv_iadd hx hb dL_law_1411 ?_
  refine lv_topi (fun z5 ez5 => ?_)
  have iz5 : z5.toInt = i.toInt + 3 := zi_add ez5 rfl (show (3 : Int32).toInt = 3 from rfl) (by omega) (by omega)
  refine va_sld hx hb hX hbl hbA hS (vp_in_iff.mpr ⟨by omega, by omega⟩) dL_law_1412 ?_
  refine lv_topi (fun y6 ey6 => ?_)
  obtain rfl : y6 = xs (9 * k + 3) := ey6.trans (congrArg xs (show z5.toInt.toNat = 9 * k + 3 by omega))
  refine lv_aload_n hx hb dL_law_1413 rfl (lv_at hl 0 rfl) ?_
  refine lv_iload_n hx hb dL_law_1414 rfl (lv_at hl 3 rfl) ?_
  refine lv_iconst (v := 4) hx hb dL_law_1415 (by decide) ?_
  refine lv_iadd hx hb dL_law_1416 ?_
  refine lv_topi (fun z7 ez7 => ?_)
  have iz7 : z7.toInt = i.toInt + 4 := zi_add ez7 rfl (show (4 : Int32).toInt = 4 from rfl) (by omega) (by omega)
  refine va_sld hx hb hX hbl hbA hS (vp_in_iff.mpr ⟨by omega, by omega⟩) dL_law_1417 ?_
  refine lv_topi (fun y8 ey8 => ?_)
  obtain rfl : y8 = xs (9 * k + 4) := ey8.trans (congrArg xs (show z7.toInt.toNat = 9 * k + 4 by omega))
  refine lv_aload_n hx hb dL_law_1418 rfl (lv_at hl 0 rfl) ?_
  refine lv_iload_n hx hb dL_law_1419 rfl (lv_at hl 3 rfl) ?_
  refine lv_iconst (v := 5) hx hb dL_law_1420 (by decide) ?_
  refine lv_iadd hx hb dL_law_1421 ?_
  refine lv_topi (fun z9 ez9 => ?_)
  have iz9 : z9.toInt = i.toInt + 5 := zi_add ez9 rfl (show (5 : Int32).toInt = 5 from rfl) (by omega) (by omega)
  refine va_sld hx hb hX hbl hbA hS (vp_in_iff.mpr ⟨by omega, by omega⟩) dL_law_1422 ?_
  refine lv_topi (fun y10 ey10 => ?_)
  obtain rfl : y10 = xs (9 * k + 5) := ey10.trans (congrArg xs (show z9.toInt.toNat = 9 * k + 5 by omega))
  refine lv_aload_n hx hb dL_law_1423 rfl (lv_at hl 0 rfl) ?_
  refine lv_iload_n hx hb dL_law_1424 rfl (lv_at hl 3 rfl) ?_
  refine lv_bipush (v := 6) hx hb dL_law_1425 (by decide) ?_
  refine lv_iadd hx hb dL_law_1427 ?_
  refine lv_topi (fun z11 ez11 => ?_)
  have iz11 : z11.toInt = i.toInt + 6 := zi_add ez11 rfl (show (6 : Int32).toInt = 6 from rfl) (by omega) (by omega)
  refine va_sld hx hb hX hbl hbA hS (vp_in_iff.mpr ⟨by omega, by omega⟩) dL_law_1428 ?_
  refine lv_topi (fun y12 ey12 => ?_)
  obtain rfl : y12 = xs (9 * k + 6) := ey12.trans (congrArg xs (show z11.toInt.toNat = 9 * k + 6 by omega))
  refine lv_aload_n hx hb dL_law_1429 rfl (lv_at hl 0 rfl) ?_
  refine lv_iload_n hx hb dL_law_1430 rfl (lv_at hl 3 rfl) ?_
  refine lv_bipush (v := 7) hx hb dL_law_1431 (by decide) ?_
  refine lv_iadd hx hb dL_law_1433 ?_
  refine lv_topi (fun z13 ez13 => ?_)
  have iz13 : z13.toInt = i.toInt + 7 := zi_add ez13 rfl (show (7 : Int32).toInt = 7 from rfl) (by omega) (by omega)
  refine va_sld hx hb hX hbl hbA hS (vp_in_iff.mpr ⟨by omega, by omega⟩) dL_law_1434 ?_
  refine lv_topi (fun y14 ey14 => ?_)
  obtain rfl : y14 = xs (9 * k + 7) := ey14.trans (congrArg xs (show z13.toInt.toNat = 9 * k + 7 by omega))
  refine lv_aload_n hx hb dL_law_1435 rfl (lv_at hl 0 rfl) ?_
  refine lv_iload_n hx hb dL_law_1436 rfl (lv_at hl 3 rfl) ?_
  refine lv_bipush (v := 8) hx hb dL_law_1437 (by decide) ?_
  refine lv_iadd hx hb dL_law_1439 ?_
  refine lv_topi (fun z15 ez15 => ?_)
  have iz15 : z15.toInt = i.toInt + 8 := zi_add ez15 rfl (show (8 : Int32).toInt = 8 from rfl) (by omega) (by omega)
  refine va_sld hx hb hX hbl hbA hS (vp_in_iff.mpr ⟨by omega, by omega⟩) dL_law_1440 ?_
  refine lv_topi (fun y16 ey16 => ?_)
  obtain rfl : y16 = xs (9 * k + 8) := ey16.trans (congrArg xs (show z15.toInt.toNat = 9 * k + 8 by omega))
  refine tgk_12 hG hxo (fun y17 y17l y18 y19 y20 y21 y22 y23a y23b y23c => ?_)
  refine tpk_12 hT hxo (fun o24_x6 hf_o24 => ?_)
  refine tpk_pos (tp_in hG hxo (by decide)) hf_o24 (fun q25 eq25 => ?_)
  have hFc := tp_fr hD hS hA
  obtain ⟨R_30, hRe_30⟩ : ∃ R, R = mo_R (mo_i (f (ρ mo 2))) := ⟨_, rfl⟩; rw [← hRe_30] at l0 l1 l2 l3 l4 l5 l6
  refine va_calli (va_runV (As := [.int (xs (9 * k + 1)), .int (xs (9 * k + 2)), .int (xs (9 * k + 3)), .int (xs (9 * k + 4)), .int (xs (9 * k + 5)), .int (xs (9 * k + 6)), .int (xs (9 * k + 7)), .int (xs (9 * k + 8))]) (rest := []) ⟨hx, hb, hml, hown, hts⟩ (t_X11_cargo l dC dI _ (mo_O κ mo_n) κ τ ν ρ L f hG hT xo (xs (9 * k + 1)) (xs (9 * k + 2)) (xs (9 * k + 3)) (xs (9 * k + 4)) (xs (9 * k + 5)) (xs (9 * k + 6)) (xs (9 * k + 7)) (xs (9 * k + 8)) hxo) (cwV 8 hts gz_X11_cargo rfl rfl rfl ⟨rfl, pd_X11_cargo⟩ ⟨Nat.le_of_ble_eq_true rfl, Nat.le_of_ble_eq_true rfl⟩) ⟨pz_blind, va_recv hK hP (ci := 11) (q0 := q25) rfl eq25, pz_pre hP hK hD hN⟩ rfl rfl hl.1 rfl (lv_room (Nat.le_of_ble_eq_true rfl)) dL_law_1441 ⟨by show _ ≤ 600000; omega, by show _ ≤ 7302249; omega⟩) hS (fun q _ h => hFc q h) hFc (fun r26 f28 t H1 locs ht hvm hw27 hB hz1 hk1 hS => ?_)
  refine tn_4 hw27 (fun hT1 hF29 hw27r hw27p => ?_); clear hw27
  obtain ⟨hw_t, hw_l⟩ := (tpg_12 hG hxo).1
  obtain ⟨-, -, -, -, -, -, ⟨ht13, -, hl13⟩, ⟨ht14, -, hl14⟩, ⟨ht15, -, -, hl15⟩, -, -, ⟨ht18, -, -, hl18⟩⟩ := tpg_11 hG hw_t
  have hJ : mo_RI (-1) 0 (mo_R (mo_i (f28 (ρ mo 2)))) := by rw [hF29 _ (by rw [hrow]; decide)]; exact hJ
  have hIM : mo_IM (mo_R (mo_i (f28 (ρ mo 3)))) := by rw [hF29 _ (by rw [hims]; decide)]; exact hIM
  obtain ⟨hXE, hw27pq⟩ := hw27p
  have it31 : (((¬ (((0 ≤ (xs (9 * k + 3)).toInt ∧ (xs (9 * k + 3)).toInt ≤ 2399) ∧ (0 ≤ (xs (9 * k + 4)).toInt ∧ (xs (9 * k + 4)).toInt ≤ 2399) ∧ (xs (9 * k + 3)).toInt ≤ (xs (9 * k + 4)).toInt) ∧ ((0 ≤ (xs (9 * k + 5)).toInt ∧ (xs (9 * k + 5)).toInt ≤ 2399) ∧ (0 ≤ (xs (9 * k + 6)).toInt ∧ (xs (9 * k + 6)).toInt ≤ 2399) ∧ (xs (9 * k + 5)).toInt ≤ (xs (9 * k + 6)).toInt) ∧ (1 ≤ (xs (9 * k + 7)).toInt ∧ (xs (9 * k + 7)).toInt ≤ 200000) ∧ (0 ≤ (xs (9 * k + 8)).toInt ∧ (xs (9 * k + 8)).toInt ≤ 1000))) → r26.toInt = -1) ∧ (¬ (¬ (((0 ≤ (xs (9 * k + 3)).toInt ∧ (xs (9 * k + 3)).toInt ≤ 2399) ∧ (0 ≤ (xs (9 * k + 4)).toInt ∧ (xs (9 * k + 4)).toInt ≤ 2399) ∧ (xs (9 * k + 3)).toInt ≤ (xs (9 * k + 4)).toInt) ∧ ((0 ≤ (xs (9 * k + 5)).toInt ∧ (xs (9 * k + 5)).toInt ≤ 2399) ∧ (0 ≤ (xs (9 * k + 6)).toInt ∧ (xs (9 * k + 6)).toInt ≤ 2399) ∧ (xs (9 * k + 5)).toInt ≤ (xs (9 * k + 6)).toInt) ∧ (1 ≤ (xs (9 * k + 7)).toInt ∧ (xs (9 * k + 7)).toInt ≤ 200000) ∧ (0 ≤ (xs (9 * k + 8)).toInt ∧ (xs (9 * k + 8)).toInt ≤ 1000))) → (((¬ ((0 ≤ (xs (9 * k + 1)).toInt ∧ (xs (9 * k + 1)).toInt < R_30 (0)) ∧ (0 ≤ (xs (9 * k + 2)).toInt ∧ (xs (9 * k + 2)).toInt < R_30 (0)))) → r26.toInt = -2) ∧ (¬ (¬ ((0 ≤ (xs (9 * k + 1)).toInt ∧ (xs (9 * k + 1)).toInt < R_30 (0)) ∧ (0 ≤ (xs (9 * k + 2)).toInt ∧ (xs (9 * k + 2)).toInt < R_30 (0)))) → ((((xs (9 * k + 1)).toInt = (xs (9 * k + 2)).toInt) → r26.toInt = -3) ∧ (¬ ((xs (9 * k + 1)).toInt = (xs (9 * k + 2)).toInt) → (((R_30 (10) = 6) → r26.toInt = -5) ∧ (¬ (R_30 (10) = 6) → r26.toInt = R_30 (10) + 1)))))))) := by have q9 := hw27pq.1; first | exact q9 | (simp only [l0, l1, l2, l3, l4, l5, l6] at q9; exact q9)
  have it32 : (((¬ (((0 ≤ (xs (9 * k + 3)).toInt ∧ (xs (9 * k + 3)).toInt ≤ 2399) ∧ (0 ≤ (xs (9 * k + 4)).toInt ∧ (xs (9 * k + 4)).toInt ≤ 2399) ∧ (xs (9 * k + 3)).toInt ≤ (xs (9 * k + 4)).toInt) ∧ ((0 ≤ (xs (9 * k + 5)).toInt ∧ (xs (9 * k + 5)).toInt ≤ 2399) ∧ (0 ≤ (xs (9 * k + 6)).toInt ∧ (xs (9 * k + 6)).toInt ≤ 2399) ∧ (xs (9 * k + 5)).toInt ≤ (xs (9 * k + 6)).toInt) ∧ (1 ≤ (xs (9 * k + 7)).toInt ∧ (xs (9 * k + 7)).toInt ≤ 200000) ∧ (0 ≤ (xs (9 * k + 8)).toInt ∧ (xs (9 * k + 8)).toInt ≤ 1000))) → (tp_fld (f28 (ρ (ρ xo 0) 18)) 2) = R_30 (10)) ∧ (¬ (¬ (((0 ≤ (xs (9 * k + 3)).toInt ∧ (xs (9 * k + 3)).toInt ≤ 2399) ∧ (0 ≤ (xs (9 * k + 4)).toInt ∧ (xs (9 * k + 4)).toInt ≤ 2399) ∧ (xs (9 * k + 3)).toInt ≤ (xs (9 * k + 4)).toInt) ∧ ((0 ≤ (xs (9 * k + 5)).toInt ∧ (xs (9 * k + 5)).toInt ≤ 2399) ∧ (0 ≤ (xs (9 * k + 6)).toInt ∧ (xs (9 * k + 6)).toInt ≤ 2399) ∧ (xs (9 * k + 5)).toInt ≤ (xs (9 * k + 6)).toInt) ∧ (1 ≤ (xs (9 * k + 7)).toInt ∧ (xs (9 * k + 7)).toInt ≤ 200000) ∧ (0 ≤ (xs (9 * k + 8)).toInt ∧ (xs (9 * k + 8)).toInt ≤ 1000))) → (((¬ ((0 ≤ (xs (9 * k + 1)).toInt ∧ (xs (9 * k + 1)).toInt < R_30 (0)) ∧ (0 ≤ (xs (9 * k + 2)).toInt ∧ (xs (9 * k + 2)).toInt < R_30 (0)))) → (tp_fld (f28 (ρ (ρ xo 0) 18)) 2) = R_30 (10)) ∧ (¬ (¬ ((0 ≤ (xs (9 * k + 1)).toInt ∧ (xs (9 * k + 1)).toInt < R_30 (0)) ∧ (0 ≤ (xs (9 * k + 2)).toInt ∧ (xs (9 * k + 2)).toInt < R_30 (0)))) → ((((xs (9 * k + 1)).toInt = (xs (9 * k + 2)).toInt) → (tp_fld (f28 (ρ (ρ xo 0) 18)) 2) = R_30 (10)) ∧ (¬ ((xs (9 * k + 1)).toInt = (xs (9 * k + 2)).toInt) → (((R_30 (10) = 6) → (tp_fld (f28 (ρ (ρ xo 0) 18)) 2) = R_30 (10)) ∧ (¬ (R_30 (10) = 6) → (tp_fld (f28 (ρ (ρ xo 0) 18)) 2) = R_30 (10) + 1)))))))) := by have q9 := hw27pq.2; first | exact q9 | (simp only [l0, l1, l2, l3, l4, l5, l6] at q9; exact q9)
  have m0 : tp_fld (f28 (ρ xo 0)) 0 = R_30 (11) := (congrArg (fun q => tp_fld q 0) (hXE (ρ xo 0) (Or.inr (Or.inr hw_t)) (fun q9 => by have q8 : (ρ (ρ xo 0) 30) = 18 := q9; omega))).trans l0
  have m1 : tp_fld (f28 (ρ xo 0)) 4 = R_30 (0) := (congrArg (fun q => tp_fld q 4) (hXE (ρ xo 0) (Or.inr (Or.inr hw_t)) (fun q9 => by have q8 : (ρ (ρ xo 0) 30) = 18 := q9; omega))).trans l1
  have m2 : tp_fld (f28 (ρ xo 0)) 5 = R_30 (1) := (congrArg (fun q => tp_fld q 5) (hXE (ρ xo 0) (Or.inr (Or.inr hw_t)) (fun q9 => by have q8 : (ρ (ρ xo 0) 30) = 18 := q9; omega))).trans l2
  have m3 : tp_fld (f28 (ρ (ρ xo 0) 13)) 3 = R_30 (3) := (congrArg (fun q => tp_fld q 3) (hXE (ρ (ρ xo 0) 13) (Or.inr (Or.inl ht13)) (fun q9 => by have q8 : (ρ (ρ (ρ xo 0) 13) 30) = 18 := q9; omega))).trans l3
  have m4 : tp_fld (f28 (ρ (ρ xo 0) 14)) 3 = R_30 (7) := (congrArg (fun q => tp_fld q 3) (hXE (ρ (ρ xo 0) 14) (Or.inr (Or.inl ht14)) (fun q9 => by have q8 : (ρ (ρ (ρ xo 0) 14) 30) = 18 := q9; omega))).trans l4
  have m5 : tp_fld (f28 (ρ (ρ xo 0) 15)) 2 = R_30 (6) := (congrArg (fun q => tp_fld q 2) (hXE (ρ (ρ xo 0) 15) (Or.inl ht15) (fun q9 => by have q8 : (ρ (ρ (ρ xo 0) 15) 30) = 18 := q9; omega))).trans l5
  have m6 := it32
  have hPm := lz_P.keep hG hT hxo hXE (fun n q9 => by have q8 : n = 18 := q9; first | exact q8.elim | omega) (hF29 _ (by rw [(tpg_12 hG hxo).2.1]; decide)) (by rw [hF29 _ (by rw [hims]; decide)]) (by rw [hF29 _ (by rw [hkep]; decide)]) hPm
  have l0 := m0
  have l1 := m1
  have l2 := m2
  have l3 := m3
  have l4 := m4
  have l5 := m5
  have l6 := m6
  have hRe : mo_R (mo_i (f28 (ρ mo 2))) = R_30 := by rw [hF29 _ (by rw [hrow]; decide)]; exact hRe_30.symm
  have hT := hT1
  have hP := hB.1; rw [ht] at hP; have hD := tp_ad f28 hD; clear hB hFc hz1 hk1; subst ht; generalize t.heap = H at hP hS ⊢
  refine lv_pop hx hb dL_law_1444 rfl ?_
  refine lv_aload_n hx hb dL_law_1445 rfl (lv_at hl 2 rfl) ?_
  refine lv_aload_n hx hb dL_law_1446 rfl (lv_at hl 0 rfl) ?_
  refine lv_iload_n hx hb dL_law_1447 rfl (lv_at hl 3 rfl) ?_
  refine lv_iconst (v := 1) hx hb dL_law_1448 (by decide) ?_
  refine lv_iadd hx hb dL_law_1449 ?_
  refine lv_topi (fun z33 ez33 => ?_)
  have iz33 : z33.toInt = i.toInt + 1 := zi_add ez33 rfl (show (1 : Int32).toInt = 1 from rfl) (by omega) (by omega)
  refine va_sld hx hb hX hbl hbA hS (vp_in_iff.mpr ⟨by omega, by omega⟩) dL_law_1450 ?_
  refine lv_topi (fun y34 ey34 => ?_)
  obtain rfl : y34 = xs (9 * k + 1) := ey34.trans (congrArg xs (show z33.toInt.toNat = 9 * k + 1 by omega))
  refine lv_aload_n hx hb dL_law_1451 rfl (lv_at hl 0 rfl) ?_
  refine lv_iload_n hx hb dL_law_1452 rfl (lv_at hl 3 rfl) ?_
  refine lv_iconst (v := 2) hx hb dL_law_1453 (by decide) ?_
  refine lv_iadd hx hb dL_law_1454 ?_
  refine lv_topi (fun z35 ez35 => ?_)
  have iz35 : z35.toInt = i.toInt + 2 := zi_add ez35 rfl (show (2 : Int32).toInt = 2 from rfl) (by omega) (by omega)
  refine va_sld hx hb hX hbl hbA hS (vp_in_iff.mpr ⟨by omega, by omega⟩) dL_law_1455 ?_
  refine lv_topi (fun y36 ey36 => ?_)
  obtain rfl : y36 = xs (9 * k + 2) := ey36.trans (congrArg xs (show z35.toInt.toNat = 9 * k + 2 by omega))
  refine lv_aload_n hx hb dL_law_1456 rfl (lv_at hl 0 rfl) ?_
  refine lv_iload_n hx hb dL_law_1457 rfl (lv_at hl 3 rfl) ?_
  refine lv_iconst (v := 3) hx hb dL_law_1458 (by decide) ?_
  refine lv_iadd hx hb dL_law_1459 ?_
  refine lv_topi (fun z37 ez37 => ?_)
  have iz37 : z37.toInt = i.toInt + 3 := zi_add ez37 rfl (show (3 : Int32).toInt = 3 from rfl) (by omega) (by omega)
  refine va_sld hx hb hX hbl hbA hS (vp_in_iff.mpr ⟨by omega, by omega⟩) dL_law_1460 ?_
  refine lv_topi (fun y38 ey38 => ?_)
  obtain rfl : y38 = xs (9 * k + 3) := ey38.trans (congrArg xs (show z37.toInt.toNat = 9 * k + 3 by omega))
  refine lv_aload_n hx hb dL_law_1461 rfl (lv_at hl 0 rfl) ?_
  refine lv_iload_n hx hb dL_law_1462 rfl (lv_at hl 3 rfl) ?_
  refine lv_iconst (v := 4) hx hb dL_law_1463 (by decide) ?_
  refine lv_iadd hx hb dL_law_1464 ?_
  refine lv_topi (fun z39 ez39 => ?_)
  have iz39 : z39.toInt = i.toInt + 4 := zi_add ez39 rfl (show (4 : Int32).toInt = 4 from rfl) (by omega) (by omega)
  refine va_sld hx hb hX hbl hbA hS (vp_in_iff.mpr ⟨by omega, by omega⟩) dL_law_1465 ?_
  refine lv_topi (fun y40 ey40 => ?_)
  obtain rfl : y40 = xs (9 * k + 4) := ey40.trans (congrArg xs (show z39.toInt.toNat = 9 * k + 4 by omega))
  refine lv_aload_n hx hb dL_law_1466 rfl (lv_at hl 0 rfl) ?_
  refine lv_iload_n hx hb dL_law_1467 rfl (lv_at hl 3 rfl) ?_
  refine lv_iconst (v := 5) hx hb dL_law_1468 (by decide) ?_
  refine lv_iadd hx hb dL_law_1469 ?_
  refine lv_topi (fun z41 ez41 => ?_)
  have iz41 : z41.toInt = i.toInt + 5 := zi_add ez41 rfl (show (5 : Int32).toInt = 5 from rfl) (by omega) (by omega)
  refine va_sld hx hb hX hbl hbA hS (vp_in_iff.mpr ⟨by omega, by omega⟩) dL_law_1470 ?_
  refine lv_topi (fun y42 ey42 => ?_)
  obtain rfl : y42 = xs (9 * k + 5) := ey42.trans (congrArg xs (show z41.toInt.toNat = 9 * k + 5 by omega))
  refine lv_aload_n hx hb dL_law_1471 rfl (lv_at hl 0 rfl) ?_
  refine lv_iload_n hx hb dL_law_1472 rfl (lv_at hl 3 rfl) ?_
  refine lv_bipush (v := 6) hx hb dL_law_1473 (by decide) ?_
  refine lv_iadd hx hb dL_law_1475 ?_
  refine lv_topi (fun z43 ez43 => ?_)
  have iz43 : z43.toInt = i.toInt + 6 := zi_add ez43 rfl (show (6 : Int32).toInt = 6 from rfl) (by omega) (by omega)
  refine va_sld hx hb hX hbl hbA hS (vp_in_iff.mpr ⟨by omega, by omega⟩) dL_law_1476 ?_
  refine lv_topi (fun y44 ey44 => ?_)
  obtain rfl : y44 = xs (9 * k + 6) := ey44.trans (congrArg xs (show z43.toInt.toNat = 9 * k + 6 by omega))
  refine lv_aload_n hx hb dL_law_1477 rfl (lv_at hl 0 rfl) ?_
  refine lv_iload_n hx hb dL_law_1478 rfl (lv_at hl 3 rfl) ?_
  refine lv_bipush (v := 7) hx hb dL_law_1479 (by decide) ?_
  refine lv_iadd hx hb dL_law_1481 ?_
  refine lv_topi (fun z45 ez45 => ?_)
  have iz45 : z45.toInt = i.toInt + 7 := zi_add ez45 rfl (show (7 : Int32).toInt = 7 from rfl) (by omega) (by omega)
  refine va_sld hx hb hX hbl hbA hS (vp_in_iff.mpr ⟨by omega, by omega⟩) dL_law_1482 ?_
  refine lv_topi (fun y46 ey46 => ?_)
  obtain rfl : y46 = xs (9 * k + 7) := ey46.trans (congrArg xs (show z45.toInt.toNat = 9 * k + 7 by omega))
  refine lv_aload_n hx hb dL_law_1483 rfl (lv_at hl 0 rfl) ?_
  refine lv_iload_n hx hb dL_law_1484 rfl (lv_at hl 3 rfl) ?_
  refine lv_bipush (v := 8) hx hb dL_law_1485 (by decide) ?_
  refine lv_iadd hx hb dL_law_1487 ?_
  refine lv_topi (fun z47 ez47 => ?_)
  have iz47 : z47.toInt = i.toInt + 8 := zi_add ez47 rfl (show (8 : Int32).toInt = 8 from rfl) (by omega) (by omega)
  refine va_sld hx hb hX hbl hbA hS (vp_in_iff.mpr ⟨by omega, by omega⟩) dL_law_1488 ?_
  refine lv_topi (fun y48 ey48 => ?_)
  obtain rfl : y48 = xs (9 * k + 8) := ey48.trans (congrArg xs (show z47.toInt.toNat = 9 * k + 8 by omega))
  refine tgk_13 hG hmo (fun y49 y50 y51 y52 y53 y54 y55 y56 y57 y58 y59 y60 y61 y62 y63 y64 y65 y66 y67 y68 y69 y70 y71 y72 y73 => ?_)
  refine tpk_13 hT hmo (fun o74_x0 o74_x1 o74_x7 o74_x9 o74_x10 o74_x11 o74_x12 o74_x13 o74_x14 o74_x15 o74_x16 o74_x17 o74_x18 o74_x19 o74_x20 o74_x22 o74_x25 o74_x28 o74_x29 o74_x32 o74_x33 o74_x34 o74_x35 o74_x36 o74_x37 o74_x38 o74_x47 o74_x48 hf_o74 ro74_0 ro74_1 ro74_2 ro74_3 ro74_4 ro74_5 ro74_6 ro74_7 ro74_8 ro74_9 ro74_10 ro74_11 ro74_12 ro74_13 ro74_14 => ?_)
  refine tpk_pos (tp_in hG hmo (by decide)) hf_o74 (fun q75 eq75 => ?_)
  have hFc := tp_fr hD hS hA
  have hRe_80 : R_30 = mo_R (mo_i (f28 (ρ mo 2))) := hRe.symm
  refine va_calli (va_runV (As := [.int (xs (9 * k + 1)), .int (xs (9 * k + 2)), .int (xs (9 * k + 3)), .int (xs (9 * k + 4)), .int (xs (9 * k + 5)), .int (xs (9 * k + 6)), .int (xs (9 * k + 7)), .int (xs (9 * k + 8))]) (rest := []) ⟨hx, hb, hml, hown, hts⟩ (t_X12_cargo l dC dI _ κ mo_n τ ν ρ L f28 hG hT mo (xs (9 * k + 1)) (xs (9 * k + 2)) (xs (9 * k + 3)) (xs (9 * k + 4)) (xs (9 * k + 5)) (xs (9 * k + 6)) (xs (9 * k + 7)) (xs (9 * k + 8)) hmo hJ) (cwV 8 hts gz_X12_cargo rfl rfl rfl ⟨rfl, pd_X12_cargo⟩ ⟨Nat.le_of_ble_eq_true rfl, Nat.le_of_ble_eq_true rfl⟩) ⟨pz_blind, va_recv hK hP (ci := 12) (q0 := q75) rfl eq75, pz_pre hP hK hD hN⟩ rfl rfl hl.1 rfl (lv_room (Nat.le_of_ble_eq_true rfl)) dL_law_1489 ⟨by show _ ≤ 600000; omega, by show _ ≤ 7302249; omega⟩) hS (fun q _ h => hFc q h) hFc (fun r76 f78 t H1 locs ht hvm hw77 hB hz1 hk1 hS => ?_)
  refine tn_4 hw77 (fun hT1 hF79 hw77r hw77p => ?_); clear hw77
  obtain ⟨hw_t, hw_l⟩ := (tpg_12 hG hxo).1
  obtain ⟨-, -, -, -, -, -, ⟨ht13, -, hl13⟩, ⟨ht14, -, hl14⟩, ⟨ht15, -, -, hl15⟩, -, -, ⟨ht18, -, -, hl18⟩⟩ := tpg_11 hG hw_t
  obtain ⟨hJ, hw77pb⟩ := hw77p
  obtain ⟨Rn, hRn⟩ : ∃ R, R = mo_R (mo_i (f78 (ρ mo 2))) := ⟨_, rfl⟩
  rw [← hRn, ← hRe_80] at hw77pb
  obtain ⟨hKN, hw77pbk⟩ := hw77pb
  have hIM : mo_IM (mo_R (mo_i (f78 (ρ mo 3)))) := by rw [hF79 _ (by rw [hims]; decide)]; exact hIM
  obtain ⟨pa9, pc9⟩ := hw77pbk
  have m0 : tp_fld (f78 (ρ xo 0)) 0 = Rn (11) := ((congrArg (fun q => tp_fld q 0) (hF79 (ρ xo 0) (by rw [hw_t]; decide))).trans l0).trans (hKN (11) (by decide) (by decide) (fun q9 => by have q8 : (11 : Int) = 10 := q9; omega)).symm
  have m1 : tp_fld (f78 (ρ xo 0)) 4 = Rn (0) := ((congrArg (fun q => tp_fld q 4) (hF79 (ρ xo 0) (by rw [hw_t]; decide))).trans l1).trans (hKN (0) (by decide) (by decide) (fun q9 => by have q8 : (0 : Int) = 10 := q9; omega)).symm
  have m2 : tp_fld (f78 (ρ xo 0)) 5 = Rn (1) := ((congrArg (fun q => tp_fld q 5) (hF79 (ρ xo 0) (by rw [hw_t]; decide))).trans l2).trans (hKN (1) (by decide) (by decide) (fun q9 => by have q8 : (1 : Int) = 10 := q9; omega)).symm
  have m3 : tp_fld (f78 (ρ (ρ xo 0) 13)) 3 = Rn (3) := ((congrArg (fun q => tp_fld q 3) (hF79 (ρ (ρ xo 0) 13) (by rw [ht13]; decide))).trans l3).trans (hKN (3) (by decide) (by decide) (fun q9 => by have q8 : (3 : Int) = 10 := q9; omega)).symm
  have m4 : tp_fld (f78 (ρ (ρ xo 0) 14)) 3 = Rn (7) := ((congrArg (fun q => tp_fld q 3) (hF79 (ρ (ρ xo 0) 14) (by rw [ht14]; decide))).trans l4).trans (hKN (7) (by decide) (by decide) (fun q9 => by have q8 : (7 : Int) = 10 := q9; omega)).symm
  have m5 : tp_fld (f78 (ρ (ρ xo 0) 15)) 2 = Rn (6) := ((congrArg (fun q => tp_fld q 2) (hF79 (ρ (ρ xo 0) 15) (by rw [ht15]; decide))).trans l5).trans (hKN (6) (by decide) (by decide) (fun q9 => by have q8 : (6 : Int) = 10 := q9; omega)).symm
  have m6 : tp_fld (f78 (ρ (ρ xo 0) 18)) 2 = Rn (10) := (congrArg (fun q => tp_fld q 2) (hF79 (ρ (ρ xo 0) 18) (by rw [ht18]; decide))).trans ((fun h1 h2 => tp_i h1 h2 (fun h1 h2 => tp_i h1 h2 (fun h1 h2 => tp_i h1 h2 (fun h1 h2 => tp_i h1 h2 (fun h1 h2 => h1.trans h2.symm))))) l6 pc9)
  have l0 := m0
  have l1 := m1
  have l2 := m2
  have l3 := m3
  have l4 := m4
  have l5 := m5
  have l6 := m6
  rw [hRn] at l0 l1 l2 l3 l4 l5 l6
  have hPm := lz_P.keep hG hT hxo (tp_X.of (E := fun _ => False) hF79 (by decide)) (fun n q9 => False.elim q9) (hF79 _ (by rw [(tpg_12 hG hxo).2.1]; decide)) (by rw [hF79 _ (by rw [hims]; decide)]) (by rw [hF79 _ (by rw [hkep]; decide)]) hPm
  have hT := hT1
  have hP := hB.1; rw [ht] at hP; have hD := tp_ad f78 hD; clear hB hFc hz1 hk1; subst ht; generalize t.heap = H at hP hS ⊢
  refine lv_pop hx hb dL_law_1492 rfl ?_
  refine lv_goto (tgt := 1710) hx hb dL_law_1493 (by decide) ?_
  refine tp_widen (cells + 110) (slots + 2634) (by omega) (by omega) ?_
  exact kk τ ν ρ L f78 _ _ _ ⟨hG, hT, hxo, hmo, hJ, hIM, ⟨l0, l1, l2, l3, l4, l5, l6⟩, hPm⟩ hP hD hS (lv_sub hl [0, 1, 2, 3] rfl)
set_option maxHeartbeats 8000000 in
set_option maxRecDepth 100000 in
theorem law_case_32 {p : Program} {l : Launch} {e : Env} {s : State} {m : MethodId} {below : List Frame} {meth : Method} {c : Code} {b N9 : Nat} {xs : Nat → Int32} {dC : Nat → ClassId} {dI : Nat → Nat → Nat} {κ : Nat → ClassId} {adK adV : Nat → Nat} {zv : Option Nat} {xo mo : Nat} {k cells slots : Nat} {i : Int32} (C0 : lw_At p s m meth c b N9 xs) (hN9 : N9 ≤ 4608) (hN : nz_ok s) (hZ : pw_Z adK adV zv (fun q : Nat => s.heap.size ≤ q) s s.heap) (hK : va_K (dC, dI) vwCl (tp_K κ) s) (hk : 9 * k + 9 ≤ N9) (hi : i.toInt = 9 * (k : Int)) (hc : cells + 110 ≤ 600000) (hs : slots + 2634 ≤ 7302249) (kk : ∀ (τ ν : Nat → Nat) (ρ : Nat → Nat → Nat) (L : List Nat) (f : Nat → va_E) (H : Heap) (locs : List Loc) (ls : Array Slot), lz_I κ xo mo τ ν ρ L f → va_P (dC, dI) vwCl (va_pl L f) H → va_D (fun q : Nat => s.heap.size ≤ q) (va_pl L f) → va_S (fun q : Nat => s.heap.size ≤ q) s.heap H locs → lv_has ls 4 [(0, .ref b), (1, .ref xo), (2, .ref mo), (3, .int i)] → W p l e room_1 s m #[Value.ref b] below meth c H locs (cells + 110) (slots + 2634) (lw_Z below #[Value.ref b] s) (F0 m 1710 ls [])) {τ ν : Nat → Nat} {ρ : Nat → Nat → Nat} {L : List Nat} {f : Nat → va_E} {H : Heap} {locs : List Loc} {ls : Array Slot}  (hI : lz_I κ xo mo τ ν ρ L f) (hP : va_P (dC, dI) vwCl (va_pl L f) H) (hD : va_D (fun q : Nat => s.heap.size ≤ q) (va_pl L f)) (hS : va_S (fun q : Nat => s.heap.size ≤ q) s.heap H locs) (hl : lv_has ls 4 [(0, .ref b), (1, .ref xo), (2, .ref mo), (3, .int i)]) : W p l e room_1 s m #[Value.ref b] below meth c H locs cells slots (lw_Z below #[Value.ref b] s) (F0 m 1496 ls []) := by
  obtain ⟨hx, hb, hr, hml, hown, hts, hX, hbl, hlocks, hgv⟩ := id C0
  have hown : s.vm.findClass RL = some m.cls := hown
  have hA : ∀ q : Nat, s.heap.size ≤ q → (fun q : Nat => s.heap.size ≤ q) q := fun _ h => h
  have hbA : ¬ (fun q : Nat => s.heap.size ≤ q) b := Nat.not_le.mpr hbl
  obtain ⟨hG, hT, hxo, hmo, hJ, hIM, ⟨l0, l1, l2, l3, l4, l5, l6⟩, hPm⟩ := hI
  have hrow := (tpg_13 hG hmo).1; have hims := (tpg_13 hG hmo).2.1; have hkep := (tpg_13 hG hmo).2.2.1
  refine lv_aload_n hx hb dL_law_1496 rfl (lv_at hl 1 rfl) ?_
  refine tgk_12 hG hxo (fun y1 y1l y2 y3 y4 y5 y6 y7a y7b y7c => ?_)
  refine tpk_12 hT hxo (fun o8_x6 hf_o8 => ?_)
  refine tpk_pos (tp_in hG hxo (by decide)) hf_o8 (fun q9 eq9 => ?_)
  have hFc := tp_fr hD hS hA
  obtain ⟨R_14, hRe_14⟩ : ∃ R, R = mo_R (mo_i (f (ρ mo 2))) := ⟨_, rfl⟩; rw [← hRe_14] at l0 l1 l2 l3 l4 l5 l6
  refine va_calli (va_runV (As := []) (rest := []) ⟨hx, hb, hml, hown, hts⟩ (t_X11_clear l dC dI _ (mo_O κ mo_n) κ τ ν ρ L f hG hT xo hxo) (cwV 0 hts gz_X11_clear rfl rfl rfl ⟨rfl, pd_X11_clear⟩ ⟨Nat.le_of_ble_eq_true rfl, Nat.le_of_ble_eq_true rfl⟩) ⟨pz_blind, va_recv hK hP (ci := 11) (q0 := q9) rfl eq9, pz_pre hP hK hD hN⟩ rfl rfl hl.1 rfl (lv_room (Nat.le_of_ble_eq_true rfl)) dL_law_1497 ⟨by show _ ≤ 600000; omega, by show _ ≤ 7302249; omega⟩) hS (fun q _ h => hFc q h) hFc (fun r10 f12 t H1 locs ht hvm hw11 hB hz1 hk1 hS => ?_)
  refine tn_4 hw11 (fun hT1 hF13 hw11r hw11p => ?_); clear hw11
  obtain ⟨hw_t, hw_l⟩ := (tpg_12 hG hxo).1
  obtain ⟨-, -, -, -, -, -, ⟨ht13, -, hl13⟩, ⟨ht14, -, hl14⟩, ⟨ht15, -, -, hl15⟩, -, -, ⟨ht18, -, -, hl18⟩⟩ := tpg_11 hG hw_t
  have hJ : mo_RI (-1) 0 (mo_R (mo_i (f12 (ρ mo 2)))) := by rw [hF13 _ (by rw [hrow]; decide)]; exact hJ
  have hIM : mo_IM (mo_R (mo_i (f12 (ρ mo 3)))) := by rw [hF13 _ (by rw [hims]; decide)]; exact hIM
  obtain ⟨hXE, hw11pq⟩ := hw11p
  have it15 : r10.toInt = R_14 (10) := by have q9 := hw11pq.1; first | exact q9 | (simp only [l0, l1, l2, l3, l4, l5, l6] at q9; exact q9)
  have it16 : (tp_fld (f12 (ρ (ρ xo 0) 18)) 2) = 0 := by have q9 := hw11pq.2; first | exact q9 | (simp only [l0, l1, l2, l3, l4, l5, l6] at q9; exact q9)
  have m0 : tp_fld (f12 (ρ xo 0)) 0 = R_14 (11) := (congrArg (fun q => tp_fld q 0) (hXE (ρ xo 0) (Or.inr (Or.inr hw_t)) (fun q9 => by have q8 : (ρ (ρ xo 0) 30) = 18 := q9; omega))).trans l0
  have m1 : tp_fld (f12 (ρ xo 0)) 4 = R_14 (0) := (congrArg (fun q => tp_fld q 4) (hXE (ρ xo 0) (Or.inr (Or.inr hw_t)) (fun q9 => by have q8 : (ρ (ρ xo 0) 30) = 18 := q9; omega))).trans l1
  have m2 : tp_fld (f12 (ρ xo 0)) 5 = R_14 (1) := (congrArg (fun q => tp_fld q 5) (hXE (ρ xo 0) (Or.inr (Or.inr hw_t)) (fun q9 => by have q8 : (ρ (ρ xo 0) 30) = 18 := q9; omega))).trans l2
  have m3 : tp_fld (f12 (ρ (ρ xo 0) 13)) 3 = R_14 (3) := (congrArg (fun q => tp_fld q 3) (hXE (ρ (ρ xo 0) 13) (Or.inr (Or.inl ht13)) (fun q9 => by have q8 : (ρ (ρ (ρ xo 0) 13) 30) = 18 := q9; omega))).trans l3
  have m4 : tp_fld (f12 (ρ (ρ xo 0) 14)) 3 = R_14 (7) := (congrArg (fun q => tp_fld q 3) (hXE (ρ (ρ xo 0) 14) (Or.inr (Or.inl ht14)) (fun q9 => by have q8 : (ρ (ρ (ρ xo 0) 14) 30) = 18 := q9; omega))).trans l4
  have m5 : tp_fld (f12 (ρ (ρ xo 0) 15)) 2 = R_14 (6) := (congrArg (fun q => tp_fld q 2) (hXE (ρ (ρ xo 0) 15) (Or.inl ht15) (fun q9 => by have q8 : (ρ (ρ (ρ xo 0) 15) 30) = 18 := q9; omega))).trans l5
  have m6 := it16
  have hPm := lz_P.keep hG hT hxo hXE (fun n q9 => by have q8 : n = 18 := q9; first | exact q8.elim | omega) (hF13 _ (by rw [(tpg_12 hG hxo).2.1]; decide)) (by rw [hF13 _ (by rw [hims]; decide)]) (by rw [hF13 _ (by rw [hkep]; decide)]) hPm
  have l0 := m0
  have l1 := m1
  have l2 := m2
  have l3 := m3
  have l4 := m4
  have l5 := m5
  have l6 := m6
  have hRe : mo_R (mo_i (f12 (ρ mo 2))) = R_14 := by rw [hF13 _ (by rw [hrow]; decide)]; exact hRe_14.symm
  have hT := hT1
  have hP := hB.1; rw [ht] at hP; have hD := tp_ad f12 hD; clear hB hFc hz1 hk1; subst ht; generalize t.heap = H at hP hS ⊢
  refine lv_pop hx hb dL_law_1500 rfl ?_
  refine lv_aload_n hx hb dL_law_1501 rfl (lv_at hl 2 rfl) ?_
  refine tgk_13 hG hmo (fun y17 y18 y19 y20 y21 y22 y23 y24 y25 y26 y27 y28 y29 y30 y31 y32 y33 y34 y35 y36 y37 y38 y39 y40 y41 => ?_)
  refine tpk_13 hT hmo (fun o42_x0 o42_x1 o42_x7 o42_x9 o42_x10 o42_x11 o42_x12 o42_x13 o42_x14 o42_x15 o42_x16 o42_x17 o42_x18 o42_x19 o42_x20 o42_x22 o42_x25 o42_x28 o42_x29 o42_x32 o42_x33 o42_x34 o42_x35 o42_x36 o42_x37 o42_x38 o42_x47 o42_x48 hf_o42 ro42_0 ro42_1 ro42_2 ro42_3 ro42_4 ro42_5 ro42_6 ro42_7 ro42_8 ro42_9 ro42_10 ro42_11 ro42_12 ro42_13 ro42_14 => ?_)
  refine tpk_pos (tp_in hG hmo (by decide)) hf_o42 (fun q43 eq43 => ?_)
  have hFc := tp_fr hD hS hA
  have hRe_48 : R_14 = mo_R (mo_i (f12 (ρ mo 2))) := hRe.symm
  refine va_calli (va_runV (As := []) (rest := []) ⟨hx, hb, hml, hown, hts⟩ (t_X12_clear l dC dI _ κ mo_n τ ν ρ L f12 hG hT mo hmo hJ) (cwV 0 hts gz_X12_clear rfl rfl rfl ⟨rfl, pd_X12_clear⟩ ⟨Nat.le_of_ble_eq_true rfl, Nat.le_of_ble_eq_true rfl⟩) ⟨pz_blind, va_recv hK hP (ci := 12) (q0 := q43) rfl eq43, pz_pre hP hK hD hN⟩ rfl rfl hl.1 rfl (lv_room (Nat.le_of_ble_eq_true rfl)) dL_law_1502 ⟨by show _ ≤ 600000; omega, by show _ ≤ 7302249; omega⟩) hS (fun q _ h => hFc q h) hFc (fun r44 f46 t H1 locs ht hvm hw45 hB hz1 hk1 hS => ?_)
  refine tn_4 hw45 (fun hT1 hF47 hw45r hw45p => ?_); clear hw45
  obtain ⟨hw_t, hw_l⟩ := (tpg_12 hG hxo).1
  obtain ⟨-, -, -, -, -, -, ⟨ht13, -, hl13⟩, ⟨ht14, -, hl14⟩, ⟨ht15, -, -, hl15⟩, -, -, ⟨ht18, -, -, hl18⟩⟩ := tpg_11 hG hw_t
  obtain ⟨hJ, hw45pb⟩ := hw45p
  obtain ⟨Rn, hRn⟩ : ∃ R, R = mo_R (mo_i (f46 (ρ mo 2))) := ⟨_, rfl⟩
  rw [← hRn, ← hRe_48] at hw45pb
  obtain ⟨hKN, hw45pbk⟩ := hw45pb
  have hIM : mo_IM (mo_R (mo_i (f46 (ρ mo 3)))) := by rw [hF47 _ (by rw [hims]; decide)]; exact hIM
  obtain ⟨pa9, pc9⟩ := hw45pbk
  have m0 : tp_fld (f46 (ρ xo 0)) 0 = Rn (11) := ((congrArg (fun q => tp_fld q 0) (hF47 (ρ xo 0) (by rw [hw_t]; decide))).trans l0).trans (hKN (11) (by decide) (by decide) (fun q9 => by have q8 : (11 : Int) = 10 := q9; omega)).symm
  have m1 : tp_fld (f46 (ρ xo 0)) 4 = Rn (0) := ((congrArg (fun q => tp_fld q 4) (hF47 (ρ xo 0) (by rw [hw_t]; decide))).trans l1).trans (hKN (0) (by decide) (by decide) (fun q9 => by have q8 : (0 : Int) = 10 := q9; omega)).symm
  have m2 : tp_fld (f46 (ρ xo 0)) 5 = Rn (1) := ((congrArg (fun q => tp_fld q 5) (hF47 (ρ xo 0) (by rw [hw_t]; decide))).trans l2).trans (hKN (1) (by decide) (by decide) (fun q9 => by have q8 : (1 : Int) = 10 := q9; omega)).symm
  have m3 : tp_fld (f46 (ρ (ρ xo 0) 13)) 3 = Rn (3) := ((congrArg (fun q => tp_fld q 3) (hF47 (ρ (ρ xo 0) 13) (by rw [ht13]; decide))).trans l3).trans (hKN (3) (by decide) (by decide) (fun q9 => by have q8 : (3 : Int) = 10 := q9; omega)).symm
  have m4 : tp_fld (f46 (ρ (ρ xo 0) 14)) 3 = Rn (7) := ((congrArg (fun q => tp_fld q 3) (hF47 (ρ (ρ xo 0) 14) (by rw [ht14]; decide))).trans l4).trans (hKN (7) (by decide) (by decide) (fun q9 => by have q8 : (7 : Int) = 10 := q9; omega)).symm
  have m5 : tp_fld (f46 (ρ (ρ xo 0) 15)) 2 = Rn (6) := ((congrArg (fun q => tp_fld q 2) (hF47 (ρ (ρ xo 0) 15) (by rw [ht15]; decide))).trans l5).trans (hKN (6) (by decide) (by decide) (fun q9 => by have q8 : (6 : Int) = 10 := q9; omega)).symm
  have m6 : tp_fld (f46 (ρ (ρ xo 0) 18)) 2 = Rn (10) := (congrArg (fun q => tp_fld q 2) (hF47 (ρ (ρ xo 0) 18) (by rw [ht18]; decide))).trans ((fun h1 h2 => h1.trans h2.symm) l6 pc9)
  have l0 := m0
  have l1 := m1
  have l2 := m2
  have l3 := m3
  have l4 := m4
  have l5 := m5
  have l6 := m6
  rw [hRn] at l0 l1 l2 l3 l4 l5 l6
  have hPm := lz_P.keep hG hT hxo (tp_X.of (E := fun _ => False) hF47 (by decide)) (fun n q9 => False.elim q9) (hF47 _ (by rw [(tpg_12 hG hxo).2.1]; decide)) (by rw [hF47 _ (by rw [hims]; decide)]) (by rw [hF47 _ (by rw [hkep]; decide)]) hPm
  have hT := hT1
  have hP := hB.1; rw [ht] at hP; have hD := tp_ad f46 hD; clear hB hFc hz1 hk1; subst ht; generalize t.heap = H at hP hS ⊢
  refine lv_pop hx hb dL_law_1505 rfl ?_
  refine lv_goto (tgt := 1710) hx hb dL_law_1506 (by decide) ?_
  refine tp_widen (cells + 110) (slots + 2634) (by omega) (by omega) ?_
  exact kk τ ν ρ L f46 _ _ _ ⟨hG, hT, hxo, hmo, hJ, hIM, ⟨l0, l1, l2, l3, l4, l5, l6⟩, hPm⟩ hP hD hS (lv_sub hl [0, 1, 2, 3] rfl)
end

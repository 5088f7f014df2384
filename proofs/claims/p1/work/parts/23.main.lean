set_option maxHeartbeats 8000000 in
set_option maxRecDepth 100000 in
theorem law_main {p : Program} {l : Launch} {e : Env} {s : State} {m : MethodId} {below : List Frame} {meth : Method} {c : Code} {b : Nat} {xs : Nat → Int32} {dC : Nat → ClassId} {dI : Nat → Nat → Nat} {xo : Nat} {wd : Nat} {im : Nat} {wa : Nat} {re : Nat} {rk : Nat} {pl : Nat} {kI : ClassId} {rtp : Nat} {rcd : Nat} {rst : Nat} {kC : ClassId} {pp0 : Nat} {pp1 : Nat} {plw : Nat} {pls : Nat} {pq0 : Nat} {pq1 : Nat} {pq2 : Nat} {pq3 : Nat} {pq4 : Nat} {kL : ClassId} {kN : ClassId} {tdA : Nat} {seA : Nat} {teA : Nat} {shA : Nat} {coA : Nat} {slS : Nat} {brS : Nat} {foS : Nat} {prR : Nat} {rdR : Nat} {laR : Nat} {caR : Nat} {kT : ClassId} {kS : ClassId} {kCo : ClassId} {slSo : Nat} {slSb : Nat} {slSe : Nat} {kslSo : ClassId} {kslSb : ClassId} {kslSe : ClassId} {brSo : Nat} {brSb : Nat} {brSe : Nat} {kbrSo : ClassId} {kbrSb : ClassId} {kbrSe : ClassId} {foSo : Nat} {foSb : Nat} {foSe : Nat} {kfoSo : ClassId} {kfoSb : ClassId} {kfoSe : ClassId} {prRc : Nat} {kprR : ClassId} {rdRc : Nat} {krdR : ClassId} {laRc : Nat} {klaR : ClassId} {caRc : Nat} {kcaR : ClassId} {kTe : ClassId} {fTe : Nat → Option Nat} {t0 : Nat} {twh : Nat} {twf : Nat} {kW : ClassId} {mo : Nat} {m2 : Nat} {m3 : Nat} {m4 : Nat} {m5 : Nat} {m6 : Nat} {m8 : Nat} {m21 : Nat} {m23 : Nat} {m24 : Nat} {m26 : Nat} {m27 : Nat} {m30 : Nat} {m31 : Nat} {m39 : Nat} {m40 : Nat} {m41 : Nat} {m42 : Nat} {m43 : Nat} {m44 : Nat} {m45 : Nat} {m46 : Nat} {m49 : Nat} {m50 : Nat} {m51 : Nat} {m52 : Nat} {kR : ClassId} {kIm : ClassId} {kK : ClassId} {kTp : ClassId} {kSe : ClassId} {H : Heap} {locs : List Loc} {ls : Array Slot} {L : Nat} (hL : L ≤ 9) (C0 : lw_At p s m meth c b L xs) (hN : nz_ok s) (hE_te : fTe 0 = some t0) (hK : va_K (dC, dI) vwCl [(kI, .object RX10), (kC, .char), (kL, .long), (kN, .int), (kT, .int), (kS, .int), (kCo, .object RX0), (kslSo, .int), (kslSb, .int), (kslSe, .int), (kbrSo, .int), (kbrSb, .int), (kbrSe, .int), (kfoSo, .int), (kfoSb, .int), (kfoSe, .int), (kprR, .long), (krdR, .long), (klaR, .long), (kcaR, .long), (kTe, .object RX8), (kW, .int), (kR, .int), (kIm, .int), (kK, .boolean), (kTp, .int), (kSe, .int)] s) (hP : va_P (dC, dI) vwCl [(xo, .inr (11, [.ref wd, .ref im, .ref wa, .ref re, .ref rk, .ref pl, .int 0])), (im, .inl (kI, 2, .inr (.inr (.inr (.inr (fun _ => none)))))), (wa, .inr (9, [.ref wd, .int 0, .int 0, .int 0])), (re, .inr (2, [.ref rtp, .int 0, .int (-1), .int 0, .int 0, .int 0, .int 0, .ref rcd, .int 0, .ref rst, .int 0, .int 0, .int 0, .int 0, .int 0, .int 0])), (rtp, .inl (kC, 400, .inl (fun _ => 0))), (pl, .inr (1, [.ref wd, .ref pp0, .ref pp1, .ref plw, .ref pls, .int 0, .int 0, .int 0, .long 0, .int 0, .ref pq0, .ref pq1, .ref pq2, .ref pq3, .ref pq4])), (plw, .inl (kL, 64, .inr (.inl (fun _ => 0)))), (pls, .inl (kN, 64, .inl (fun _ => 0))), (wd, .inr (10, [.int 0, .int 10, .int 700, .int 0, .int 0, .int 0, .int 0, .ref tdA, .ref seA, .ref teA, .ref shA, .ref coA, .ref slS, .ref brS, .ref foS, .ref prR, .ref rdR, .ref laR, .ref caR])), (tdA, .inl (kT, 25, .inl (fun _ => 0))), (seA, .inl (kS, 100, .inl (fun _ => 0))), (coA, .inl (kCo, 12, .inr (.inr (.inr (.inr (fun _ => none)))))), (slS, .inr (6, [.ref slSo, .ref slSb, .ref slSe, .int 0])), (slSo, .inl (kslSo, 60, .inl (fun _ => 0))), (slSb, .inl (kslSb, 60, .inl (fun _ => 0))), (slSe, .inl (kslSe, 60, .inl (fun _ => 0))), (brS, .inr (6, [.ref brSo, .ref brSb, .ref brSe, .int 0])), (brSo, .inl (kbrSo, 20, .inl (fun _ => 0))), (brSb, .inl (kbrSb, 20, .inl (fun _ => 0))), (brSe, .inl (kbrSe, 20, .inl (fun _ => 0))), (foS, .inr (6, [.ref foSo, .ref foSb, .ref foSe, .int 0])), (foSo, .inl (kfoSo, 20, .inl (fun _ => 0))), (foSb, .inl (kfoSb, 20, .inl (fun _ => 0))), (foSe, .inl (kfoSe, 20, .inl (fun _ => 0))), (prR, .inr (4, [.int 3, .ref prRc, .int 0])), (prRc, .inl (kprR, 180, .inr (.inl (fun _ => 0)))), (rdR, .inr (4, [.int 5, .ref rdRc, .int 0])), (rdRc, .inl (krdR, 300, .inr (.inl (fun _ => 0)))), (laR, .inr (4, [.int 15, .ref laRc, .int 0])), (laRc, .inl (klaR, 900, .inr (.inl (fun _ => 0)))), (caR, .inr (4, [.int 8, .ref caRc, .int 0])), (caRc, .inl (kcaR, 48, .inr (.inl (fun _ => 0)))), (teA, .inl (kTe, 6, .inr (.inr (.inr (.inr fTe))))), (t0, .inr (8, [.int 0, .int 0, .int 1, .int 0, .int 0, .ref twh, .ref twf])), (twh, .inl (kW, 6, .inl (fun _ => 0))), (mo, .inr (12, [.int 0, .int 0, .ref m2, .ref m3, .ref m4, .ref m5, .ref m6, .int 0, .ref m8, .int 0, .int 0, .int 0, .int 0, .long 0, .int (-1), .int 0, .int 0, .int 0, .int 0, .int 0, .int 0, .ref m21, .int 0, .ref m23, .ref m24, .int 0, .ref m26, .ref m27, .int 0, .int 0, .ref m30, .ref m31, .int 0, .long 0, .long 0, .long 0, .int 0, .int 0, .int 0, .ref m39, .ref m40, .ref m41, .ref m42, .ref m43, .ref m44, .ref m45, .ref m46, .int 0, .int 0, .ref m49, .ref m50, .ref m51, .ref m52])), (m2, .inl (kR, 12967, .inl rw0)), (m3, .inl (kIm, 25934, .inl (fun _ => 0))), (m4, .inl (kK, 2, .inl (fun _ => 0))), (m8, .inl (kTp, 400, .inl (fun _ => 0))), (m52, .inl (kSe, 3, .inl (fun _ => 0)))] H) (hD : va_D (fun q : Nat => s.heap.size ≤ q) [(xo, .inr (11, [.ref wd, .ref im, .ref wa, .ref re, .ref rk, .ref pl, .int 0])), (im, .inl (kI, 2, .inr (.inr (.inr (.inr (fun _ => none)))))), (wa, .inr (9, [.ref wd, .int 0, .int 0, .int 0])), (re, .inr (2, [.ref rtp, .int 0, .int (-1), .int 0, .int 0, .int 0, .int 0, .ref rcd, .int 0, .ref rst, .int 0, .int 0, .int 0, .int 0, .int 0, .int 0])), (rtp, .inl (kC, 400, .inl (fun _ => 0))), (pl, .inr (1, [.ref wd, .ref pp0, .ref pp1, .ref plw, .ref pls, .int 0, .int 0, .int 0, .long 0, .int 0, .ref pq0, .ref pq1, .ref pq2, .ref pq3, .ref pq4])), (plw, .inl (kL, 64, .inr (.inl (fun _ => 0)))), (pls, .inl (kN, 64, .inl (fun _ => 0))), (wd, .inr (10, [.int 0, .int 10, .int 700, .int 0, .int 0, .int 0, .int 0, .ref tdA, .ref seA, .ref teA, .ref shA, .ref coA, .ref slS, .ref brS, .ref foS, .ref prR, .ref rdR, .ref laR, .ref caR])), (tdA, .inl (kT, 25, .inl (fun _ => 0))), (seA, .inl (kS, 100, .inl (fun _ => 0))), (coA, .inl (kCo, 12, .inr (.inr (.inr (.inr (fun _ => none)))))), (slS, .inr (6, [.ref slSo, .ref slSb, .ref slSe, .int 0])), (slSo, .inl (kslSo, 60, .inl (fun _ => 0))), (slSb, .inl (kslSb, 60, .inl (fun _ => 0))), (slSe, .inl (kslSe, 60, .inl (fun _ => 0))), (brS, .inr (6, [.ref brSo, .ref brSb, .ref brSe, .int 0])), (brSo, .inl (kbrSo, 20, .inl (fun _ => 0))), (brSb, .inl (kbrSb, 20, .inl (fun _ => 0))), (brSe, .inl (kbrSe, 20, .inl (fun _ => 0))), (foS, .inr (6, [.ref foSo, .ref foSb, .ref foSe, .int 0])), (foSo, .inl (kfoSo, 20, .inl (fun _ => 0))), (foSb, .inl (kfoSb, 20, .inl (fun _ => 0))), (foSe, .inl (kfoSe, 20, .inl (fun _ => 0))), (prR, .inr (4, [.int 3, .ref prRc, .int 0])), (prRc, .inl (kprR, 180, .inr (.inl (fun _ => 0)))), (rdR, .inr (4, [.int 5, .ref rdRc, .int 0])), (rdRc, .inl (krdR, 300, .inr (.inl (fun _ => 0)))), (laR, .inr (4, [.int 15, .ref laRc, .int 0])), (laRc, .inl (klaR, 900, .inr (.inl (fun _ => 0)))), (caR, .inr (4, [.int 8, .ref caRc, .int 0])), (caRc, .inl (kcaR, 48, .inr (.inl (fun _ => 0)))), (teA, .inl (kTe, 6, .inr (.inr (.inr (.inr fTe))))), (t0, .inr (8, [.int 0, .int 0, .int 1, .int 0, .int 0, .ref twh, .ref twf])), (twh, .inl (kW, 6, .inl (fun _ => 0))), (mo, .inr (12, [.int 0, .int 0, .ref m2, .ref m3, .ref m4, .ref m5, .ref m6, .int 0, .ref m8, .int 0, .int 0, .int 0, .int 0, .long 0, .int (-1), .int 0, .int 0, .int 0, .int 0, .int 0, .int 0, .ref m21, .int 0, .ref m23, .ref m24, .int 0, .ref m26, .ref m27, .int 0, .int 0, .ref m30, .ref m31, .int 0, .long 0, .long 0, .long 0, .int 0, .int 0, .int 0, .ref m39, .ref m40, .ref m41, .ref m42, .ref m43, .ref m44, .ref m45, .ref m46, .int 0, .int 0, .ref m49, .ref m50, .ref m51, .ref m52])), (m2, .inl (kR, 12967, .inl rw0)), (m3, .inl (kIm, 25934, .inl (fun _ => 0))), (m4, .inl (kK, 2, .inl (fun _ => 0))), (m8, .inl (kTp, 400, .inl (fun _ => 0))), (m52, .inl (kSe, 3, .inl (fun _ => 0)))]) (hS : va_S (fun q : Nat => s.heap.size ≤ q) s.heap H locs) (hl : lv_has ls 4 [(0, .ref b), (1, .ref xo), (2, .ref mo), (3, .int 0)]) : W p l e room_1 s m #[Value.ref b] below meth c H locs 156 46013 (lw_Z below #[Value.ref b] s) (F0 m 18 ls []) := by
  obtain ⟨hx, hb, hr, hml, hown, hts, hX, hbl, hlocks, hgv⟩ := id C0
  have hown : s.vm.findClass RL = some m.cls := hown
  have hA : ∀ q : Nat, s.heap.size ≤ q → (fun q : Nat => s.heap.size ≤ q) q := fun _ h => h
  have hbA : ¬ (fun q : Nat => s.heap.size ≤ q) b := Nat.not_le.mpr hbl
  refine lv_iload_n hx hb dL_law_18 rfl (lv_at hl 3 rfl) ?_
  refine lv_aload_n hx hb dL_law_19 rfl (lv_at hl 0 rfl) ?_
  refine va_slen hx hb hX hbl hbA hS dL_law_20 ?_
  refine lv_topi (fun z1 ez1 => ?_)
  have iz1 : z1.toInt = (L : Int) := by rw [ez1]; exact nI_toInt (by omega)
  refine lv_bipush (v := 9) hx hb dL_law_21 (by decide) ?_
  refine lv_isub hx hb dL_law_23 ?_
  refine lv_topi (fun z2 ez2 => ?_)
  have iz2 : z2.toInt = (L : Int) - 9 := zi_sub ez2 iz1 (show (9 : Int32).toInt = 9 from rfl) (by omega) (by omega)
  refine lv_icmp_gt (tgt := 1723) hx hb dL_law_24 (by decide) (fun c1 => ?_) (fun c1 => ?_)
  · refine lv_iconst (v := 1) hx hb dL_law_1723 (by decide) ?_
    refine va_forget (fun q hq => hS.2.2 q hq) ?_
    refine W.widen (k := 600000) (n := 7302249) (by omega) (by omega) ?_
    exact lw_ret hx hb hr hlocks dL_law_1724
  · have ic1 : (0 : Int) ≤ (L : Int) - 9 := zi_gtf (show (0 : Int32).toInt = 0 from rfl) iz2 c1
    obtain rfl : L = 9 := by omega
    refine lv_aload_n hx hb dL_law_27 rfl (lv_at hl 0 rfl) ?_
    refine lv_iload_n hx hb dL_law_28 rfl (lv_at hl 3 rfl) ?_
    refine va_sld hx hb hX hbl hbA hS (vp_in_iff.mpr ⟨by decide, by decide⟩) dL_law_29 ?_
    refine lv_bipush (v := 63) hx hb dL_law_30 (by decide) ?_
    refine lv_iand hx hb dL_law_32 ?_
    refine lv_topi (fun z3 ez3 => ?_)
    rcases zi_sw z3 0 39 with h1 | h1
    · refine lv_tableOut (tgt := 1717) hx hb dL_law_33 h1 (by decide) ?_
      exact law_end C0 (by omega) (by omega) hS (lv_sub hl [0, 3] rfl)
    · rcases (show z3.toInt = 0 ∨ z3.toInt = 1 ∨ z3.toInt = 2 ∨ z3.toInt = 3 ∨ z3.toInt = 4 ∨ z3.toInt = 5 ∨ z3.toInt = 6 ∨ z3.toInt = 7 ∨ z3.toInt = 8 ∨ z3.toInt = 9 ∨ z3.toInt = 10 ∨ z3.toInt = 11 ∨ z3.toInt = 12 ∨ z3.toInt = 13 ∨ z3.toInt = 14 ∨ z3.toInt = 15 ∨ z3.toInt = 16 ∨ z3.toInt = 17 ∨ z3.toInt = 18 ∨ z3.toInt = 19 ∨ z3.toInt = 20 ∨ z3.toInt = 21 ∨ z3.toInt = 22 ∨ z3.toInt = 23 ∨ z3.toInt = 24 ∨ z3.toInt = 25 ∨ z3.toInt = 26 ∨ z3.toInt = 27 ∨ z3.toInt = 28 ∨ z3.toInt = 29 ∨ z3.toInt = 30 ∨ z3.toInt = 31 ∨ z3.toInt = 32 ∨ z3.toInt = 33 ∨ z3.toInt = 34 ∨ z3.toInt = 35 ∨ z3.toInt = 36 ∨ z3.toInt = 37 ∨ z3.toInt = 38 ∨ z3.toInt = 39 by omega) with h1k | h1k | h1k | h1k | h1k | h1k | h1k | h1k | h1k | h1k | h1k | h1k | h1k | h1k | h1k | h1k | h1k | h1k | h1k | h1k | h1k | h1k | h1k | h1k | h1k | h1k | h1k | h1k | h1k | h1k | h1k | h1k | h1k | h1k | h1k | h1k | h1k | h1k | h1k | h1k
      · refine lv_tableIn (tgt := 208) hx hb dL_law_33 (by omega) (by omega) (by rw [h1k]; rfl) (by decide) ?_
        exact law_case_0 C0 hN hE_te hK hP hD hS hl
      · refine lv_tableIn (tgt := 261) hx hb dL_law_33 (by omega) (by omega) (by rw [h1k]; rfl) (by decide) ?_
        exact law_case_1 C0 hN hE_te hK hP hD hS hl
      · refine lv_tableIn (tgt := 304) hx hb dL_law_33 (by omega) (by omega) (by rw [h1k]; rfl) (by decide) ?_
        exact law_case_2 C0 hN hE_te hK hP hD hS hl
      · refine lv_tableIn (tgt := 373) hx hb dL_law_33 (by omega) (by omega) (by rw [h1k]; rfl) (by decide) ?_
        exact law_case_3 C0 hN hE_te hK hP hD hS hl
      · refine lv_tableIn (tgt := 406) hx hb dL_law_33 (by omega) (by omega) (by rw [h1k]; rfl) (by decide) ?_
        exact law_case_4 C0 hN hE_te hK hP hD hS hl
      · refine lv_tableIn (tgt := 439) hx hb dL_law_33 (by omega) (by omega) (by rw [h1k]; rfl) (by decide) ?_
        exact law_case_5 C0 hN hE_te hK hP hD hS hl
      · refine lv_tableIn (tgt := 492) hx hb dL_law_33 (by omega) (by omega) (by rw [h1k]; rfl) (by decide) ?_
        exact law_case_6 C0 hN hE_te hK hP hD hS hl
      · refine lv_tableIn (tgt := 535) hx hb dL_law_33 (by omega) (by omega) (by rw [h1k]; rfl) (by decide) ?_
        exact law_case_7 C0 hN hE_te hK hP hD hS hl
      · refine lv_tableIn (tgt := 568) hx hb dL_law_33 (by omega) (by omega) (by rw [h1k]; rfl) (by decide) ?_
        exact law_case_8 C0 hN hE_te hK hP hD hS hl
      · refine lv_tableIn (tgt := 611) hx hb dL_law_33 (by omega) (by omega) (by rw [h1k]; rfl) (by decide) ?_
        exact law_case_9 C0 hN hE_te hK hP hD hS hl
      · refine lv_tableIn (tgt := 634) hx hb dL_law_33 (by omega) (by omega) (by rw [h1k]; rfl) (by decide) ?_
        exact law_case_10 C0 hN hE_te hK hP hD hS hl
      · refine lv_tableIn (tgt := 667) hx hb dL_law_33 (by omega) (by omega) (by rw [h1k]; rfl) (by decide) ?_
        exact law_case_11 C0 hN hE_te hK hP hD hS hl
      · refine lv_tableIn (tgt := 700) hx hb dL_law_33 (by omega) (by omega) (by rw [h1k]; rfl) (by decide) ?_
        exact law_case_12 C0 hN hE_te hK hP hD hS hl
      · refine lv_tableIn (tgt := 734) hx hb dL_law_33 (by omega) (by omega) (by rw [h1k]; rfl) (by decide) ?_
        exact law_case_13 C0 hN hE_te hK hP hD hS hl
      · refine lv_tableIn (tgt := 757) hx hb dL_law_33 (by omega) (by omega) (by rw [h1k]; rfl) (by decide) ?_
        exact law_case_14 C0 hN hE_te hK hP hD hS hl
      · refine lv_tableIn (tgt := 790) hx hb dL_law_33 (by omega) (by omega) (by rw [h1k]; rfl) (by decide) ?_
        exact law_case_15 C0 hN hE_te hK hP hD hS hl
      · refine lv_tableIn (tgt := 823) hx hb dL_law_33 (by omega) (by omega) (by rw [h1k]; rfl) (by decide) ?_
        exact law_case_16 C0 hN hE_te hK hP hD hS hl
      · refine lv_tableIn (tgt := 856) hx hb dL_law_33 (by omega) (by omega) (by rw [h1k]; rfl) (by decide) ?_
        exact law_case_17 C0 hN hE_te hK hP hD hS hl
      · refine lv_tableIn (tgt := 899) hx hb dL_law_33 (by omega) (by omega) (by rw [h1k]; rfl) (by decide) ?_
        exact law_case_18 C0 hN hE_te hK hP hD hS hl
      · refine lv_tableIn (tgt := 942) hx hb dL_law_33 (by omega) (by omega) (by rw [h1k]; rfl) (by decide) ?_
        exact law_case_19 C0 hN hE_te hK hP hD hS hl
      · refine lv_tableIn (tgt := 975) hx hb dL_law_33 (by omega) (by omega) (by rw [h1k]; rfl) (by decide) ?_
        exact law_case_20 C0 hN hE_te hK hP hD hS hl
      · refine lv_tableIn (tgt := 1038) hx hb dL_law_33 (by omega) (by omega) (by rw [h1k]; rfl) (by decide) ?_
        exact law_case_21 C0 hN hE_te hK hP hD hS hl
      · refine lv_tableIn (tgt := 1061) hx hb dL_law_33 (by omega) (by omega) (by rw [h1k]; rfl) (by decide) ?_
        exact law_case_22 C0 hN hE_te hK hP hD hS hl
      · refine lv_tableIn (tgt := 1074) hx hb dL_law_33 (by omega) (by omega) (by rw [h1k]; rfl) (by decide) ?_
        exact law_case_23 C0 hN hE_te hK hP hD hS hl
      · refine lv_tableIn (tgt := 1087) hx hb dL_law_33 (by omega) (by omega) (by rw [h1k]; rfl) (by decide) ?_
        exact law_case_24 C0 hN hE_te hK hP hD hS hl
      · refine lv_tableIn (tgt := 1141) hx hb dL_law_33 (by omega) (by omega) (by rw [h1k]; rfl) (by decide) ?_
        exact law_case_25 C0 hN hE_te hK hP hD hS hl
      · refine lv_tableIn (tgt := 1174) hx hb dL_law_33 (by omega) (by omega) (by rw [h1k]; rfl) (by decide) ?_
        exact law_case_26 C0 hN hE_te hK hP hD hS hl
      · refine lv_tableIn (tgt := 1208) hx hb dL_law_33 (by omega) (by omega) (by rw [h1k]; rfl) (by decide) ?_
        exact law_case_27 C0 hN hE_te hK hP hD hS hl
      · refine lv_tableIn (tgt := 1261) hx hb dL_law_33 (by omega) (by omega) (by rw [h1k]; rfl) (by decide) ?_
        exact law_case_28 C0 hN hE_te hK hP hD hS hl
      · refine lv_tableIn (tgt := 1294) hx hb dL_law_33 (by omega) (by omega) (by rw [h1k]; rfl) (by decide) ?_
        exact law_case_29 C0 hN hE_te hK hP hD hS hl
      · refine lv_tableIn (tgt := 1357) hx hb dL_law_33 (by omega) (by omega) (by rw [h1k]; rfl) (by decide) ?_
        exact law_case_30 C0 hN hE_te hK hP hD hS hl
      · refine lv_tableIn (tgt := 1401) hx hb dL_law_33 (by omega) (by omega) (by rw [h1k]; rfl) (by decide) ?_
        exact law_case_31 C0 hN hE_te hK hP hD hS hl
      · refine lv_tableIn (tgt := 1500) hx hb dL_law_33 (by omega) (by omega) (by rw [h1k]; rfl) (by decide) ?_
        exact law_case_32 C0 hN hE_te hK hP hD hS hl
      · refine lv_tableIn (tgt := 1513) hx hb dL_law_33 (by omega) (by omega) (by rw [h1k]; rfl) (by decide) ?_
        exact law_case_33 C0 hN hE_te hK hP hD hS hl
      · refine lv_tableIn (tgt := 1537) hx hb dL_law_33 (by omega) (by omega) (by rw [h1k]; rfl) (by decide) ?_
        exact law_case_34 C0 hN hE_te hK hP hD hS hl
      · refine lv_tableIn (tgt := 1571) hx hb dL_law_33 (by omega) (by omega) (by rw [h1k]; rfl) (by decide) ?_
        exact law_case_35 C0 hN hE_te hK hP hD hS hl
      · refine lv_tableIn (tgt := 1635) hx hb dL_law_33 (by omega) (by omega) (by rw [h1k]; rfl) (by decide) ?_
        exact law_case_36 C0 hN hE_te hK hP hD hS hl
      · refine lv_tableIn (tgt := 1658) hx hb dL_law_33 (by omega) (by omega) (by rw [h1k]; rfl) (by decide) ?_
        exact law_case_37 C0 hN hE_te hK hP hD hS hl
      · refine lv_tableIn (tgt := 1681) hx hb dL_law_33 (by omega) (by omega) (by rw [h1k]; rfl) (by decide) ?_
        exact law_case_38 C0 hN hE_te hK hP hD hS hl
      · refine lv_tableIn (tgt := 1704) hx hb dL_law_33 (by omega) (by omega) (by rw [h1k]; rfl) (by decide) ?_
        exact law_case_39 C0 hN hE_te hK hP hD hS hl

theorem nz_in : ∀ w ∈ nz_L, w ∈ lw_tbl := by decide +kernel
set_option maxHeartbeats 4000000 in
set_option maxRecDepth 100000 in
theorem nz_start {p : Program} {s : State} {m : MethodId} {meth : Method} {c : Code} {b L : Nat} {xs : Nat → Int32} (C0 : lw_At p s m meth c b L xs) : nz_ok s := by
  obtain ⟨hx, hb, hr, hml, hown, hts, hX, hbl, hlocks, hgv⟩ := C0
  have hs := flat_of_before _ hgv
  refine ⟨fun w hw => va_Nw.of (nz_tab (List.all_eq_true.mp nz_all w hw)) (hts w (nz_in w hw)), va_AO.of (hts (.arrayOver (.object RX10)) (by decide +kernel)), va_AO.of (hts (.arrayOver (.object RX8)) (by decide +kernel)), va_AO.of (hts (.arrayOver (.object RX5)) (by decide +kernel)), va_AO.of (hts (.arrayOver (.object RX0)) (by decide +kernel)), ?_⟩
  have w84 : ∃ a, vk_R RX2 84 "window" a s := by
    obtain ⟨a, c1, cA, kA, q1, -⟩ := Cond.exactly_spec (args := #[Value.ref b]) (first := s) (o := none) (s := s) (idx := []) (t := .string RX2 84) (cls := "java/lang/String") (hs _ (by decide +kernel))
    exact ⟨a, vk_R.of (hts (.stringRef RX2 84 "window") (by decide +kernel)) q1⟩
  have w93 : ∃ a, vk_R RX2 93 "at" a s := by
    obtain ⟨a, c1, cA, kA, q1, -⟩ := Cond.exactly_spec (args := #[Value.ref b]) (first := s) (o := none) (s := s) (idx := []) (t := .string RX2 93) (cls := "java/lang/String") (hs _ (by decide +kernel))
    exact ⟨a, vk_R.of (hts (.stringRef RX2 93 "at") (by decide +kernel)) q1⟩
  have w102 : ∃ a, vk_R RX2 102 "pay" a s := by
    obtain ⟨a, c1, cA, kA, q1, -⟩ := Cond.exactly_spec (args := #[Value.ref b]) (first := s) (o := none) (s := s) (idx := []) (t := .string RX2 102) (cls := "java/lang/String") (hs _ (by decide +kernel))
    exact ⟨a, vk_R.of (hts (.stringRef RX2 102 "pay") (by decide +kernel)) q1⟩
  have w108 : ∃ a, vk_R RX2 108 "fine" a s := by
    obtain ⟨a, c1, cA, kA, q1, -⟩ := Cond.exactly_spec (args := #[Value.ref b]) (first := s) (o := none) (s := s) (idx := []) (t := .string RX2 108) (cls := "java/lang/String") (hs _ (by decide +kernel))
    exact ⟨a, vk_R.of (hts (.stringRef RX2 108 "fine") (by decide +kernel)) q1⟩
  intro q hq
  rcases (show q = (84, "window") ∨ q = (93, "at") ∨ q = (102, "pay") ∨ q = (108, "fine") by simpa [nz_T] using hq) with rfl | rfl | rfl | rfl
  · exact w84
  · exact w93
  · exact w102
  · exact w108

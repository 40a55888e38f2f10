theorem w_law_in : ∀ w ∈ w_law, w ∈ lw_tbl := (memIn_app (memIn_app (memIn_app (memIn_app (memIn_app (memIn_app (memIn_app (memIn_app (memIn_app (memIn_app (memIn_app (memIn_app (memIn_app (memIn_app wl_0_in (memIn_app wl_1_in (memIn_app wl_2_in (memIn_app wl_3_in (memIn_app wl_4_in (memIn_app wl_5_in (memIn_app wl_6_in (memIn_app wl_7_in (memIn_app wl_8_in (memIn_app wl_9_in (memIn_app wl_10_in (memIn_app wl_11_in (memIn_app wl_12_in (memIn_app wl_13_in (memIn_app wl_14_in (memIn_app wl_15_in (memIn_app wl_16_in (memIn_app wl_17_in (memIn_app wl_18_in (memIn_app wl_19_in (memIn_app wl_20_in (memIn_app wl_21_in (memIn_app wl_22_in (memIn_app wl_23_in (memIn_app wl_24_in (memIn_app wl_25_in (memIn_app wl_26_in (memIn_app wl_27_in (memIn_app wl_28_in (memIn_app wl_29_in (memIn_app wl_30_in (memIn_app wl_31_in wl_32_in)))))))))))))))))))))))))))))))) wt_X11_in) wt_X1_in) wt_X12_in) wt_X0_in) wt_X2_in) wt_X7_in) wt_X3_in) wt_X5_in) wt_X4_in) wt_X8_in) wt_X9_in) wt_X10_in) wt_X6_in)
theorem nest_in : ∀ q ∈ nestQs, Cond.methodLinkNest q.1 q.2.1 q.2.2 RX11 ∈ lw_tbl := fun q hq => memIn_r (nestQs.map (fun q => Cond.methodLinkNest q.1 q.2.1 q.2.2 RX11)) [603, 115, 137, 166, 198, 296, 371, 414, 416, 384, 304] (by decide +kernel) _ (List.mem_map.mpr ⟨q, hq, rfl⟩)
theorem ao_1 : Cond.arrayOver (.object RX1) ∈ lw_tbl := List.mem_of_getElem? (i := 107) (by decide +kernel)
theorem ao_9 : Cond.arrayOver (.object RX9) ∈ lw_tbl := List.mem_of_getElem? (i := 382) (by decide +kernel)
set_option maxHeartbeats 4000000 in
set_option maxRecDepth 100000 in
theorem k_start {args : Array Value} {s : State} (hts : ∀ w ∈ w_law, w.before args s = true) (hni : ∀ q ∈ nestQs, (Cond.methodLinkNest q.1 q.2.1 q.2.2 RX11).before args s = true) (ha1 : (Cond.arrayOver (.object RX1)).before args s = true) (ha9 : (Cond.arrayOver (.object RX9)).before args s = true) : ∃ (D : va_G) (ca : Nat → ClassId), va_K D vwCl (tys4 ca) s ∧ NW s := by
  obtain ⟨c0, i0, h0⟩ := u_known (C := RX0) (T := TX0) (N := 4) (n := 4) hts (fun _ h => (List.mem_append_left _ (List.mem_append_left _ (List.mem_append_left _ (List.mem_append_left _ (List.mem_append_left _ (List.mem_append_left _ (List.mem_append_left _ (List.mem_append_left _ (List.mem_append_left _ (List.mem_append_right _ h))))))))))) (hts (.instantiable RX0 4) (List.mem_of_getElem? (i := 462) rfl))
  obtain ⟨c1, i1, h1⟩ := u_known (C := RX1) (T := TX1) (N := 9) (n := 9) hts (fun _ h => (List.mem_append_left _ (List.mem_append_left _ (List.mem_append_left _ (List.mem_append_left _ (List.mem_append_left _ (List.mem_append_left _ (List.mem_append_left _ (List.mem_append_left _ (List.mem_append_left _ (List.mem_append_left _ (List.mem_append_left _ (List.mem_append_right _ h))))))))))))) (hts (.instantiable RX1 9) (List.mem_of_getElem? (i := 458) rfl))
  obtain ⟨c2, i2, h2⟩ := u_known (C := RX2) (T := TX2) (N := 6) (n := 6) hts (fun _ h => (List.mem_append_left _ (List.mem_append_left _ (List.mem_append_left _ (List.mem_append_left _ (List.mem_append_left _ (List.mem_append_left _ (List.mem_append_left _ (List.mem_append_left _ (List.mem_append_right _ h)))))))))) (hts (.instantiable RX2 6) (List.mem_of_getElem? (i := 467) rfl))
  obtain ⟨c3, i3, h3⟩ := u_known (C := RX3) (T := TX3) (N := 14) (n := 14) hts (fun _ h => (List.mem_append_left _ (List.mem_append_left _ (List.mem_append_left _ (List.mem_append_left _ (List.mem_append_left _ (List.mem_append_left _ (List.mem_append_right _ h)))))))) (hts (.instantiable RX3 14) (List.mem_of_getElem? (i := 481) rfl))
  obtain ⟨c4, i4, h4⟩ := u_known (C := RX4) (T := TX4) (N := 12) (n := 12) hts (fun _ h => (List.mem_append_left _ (List.mem_append_left _ (List.mem_append_left _ (List.mem_append_left _ (List.mem_append_right _ h)))))) (hts (.instantiable RX4 12) (List.mem_of_getElem? (i := 516) rfl))
  obtain ⟨c5, i5, h5⟩ := u_known (C := RX5) (T := TX5) (N := 6) (n := 6) hts (fun _ h => (List.mem_append_left _ (List.mem_append_left _ (List.mem_append_left _ (List.mem_append_left _ (List.mem_append_left _ (List.mem_append_right _ h))))))) (hts (.instantiable RX5 6) (List.mem_of_getElem? (i := 485) rfl))
  obtain ⟨c6, i6, h6⟩ := u_known (C := RX6) (T := TX6) (N := 7) (n := 7) hts (fun _ h => (List.mem_append_right _ h)) (hts (.instantiable RX6 7) (List.mem_of_getElem? (i := 505) rfl))
  obtain ⟨c7, i7, h7⟩ := u_known (C := RX7) (T := TX7) (N := 7) (n := 7) hts (fun _ h => (List.mem_append_left _ (List.mem_append_left _ (List.mem_append_left _ (List.mem_append_left _ (List.mem_append_left _ (List.mem_append_left _ (List.mem_append_left _ (List.mem_append_right _ h))))))))) (hts (.instantiable RX7 7) (List.mem_of_getElem? (i := 474) rfl))
  obtain ⟨c8, i8, h8⟩ := u_known (C := RX8) (T := TX8) (N := 2) (n := 2) hts (fun _ h => (List.mem_append_left _ (List.mem_append_left _ (List.mem_append_left _ (List.mem_append_right _ h))))) (hts (.instantiable RX8 2) (List.mem_of_getElem? (i := 521) rfl))
  obtain ⟨c9, i9, h9⟩ := u_known (C := RX9) (T := TX9) (N := 3) (n := 3) hts (fun _ h => (List.mem_append_left _ (List.mem_append_left _ (List.mem_append_right _ h)))) (hts (.instantiable RX9 3) (List.mem_of_getElem? (i := 525) rfl))
  obtain ⟨c10, i10, h10⟩ := u_known (C := RX10) (T := TX10) (N := 8) (n := 8) hts (fun _ h => (List.mem_append_left _ (List.mem_append_right _ h))) (hts (.instantiable RX10 8) (List.mem_of_getElem? (i := 497) rfl))
  obtain ⟨c11, i11, h11⟩ := u_known (C := RX11) (T := TX11) (N := 3) (n := 3) hts (fun _ h => (List.mem_append_left _ (List.mem_append_left _ (List.mem_append_left _ (List.mem_append_left _ (List.mem_append_left _ (List.mem_append_left _ (List.mem_append_left _ (List.mem_append_left _ (List.mem_append_left _ (List.mem_append_left _ (List.mem_append_left _ (List.mem_append_left _ (List.mem_append_right _ h)))))))))))))) (hts (.instantiable RX11 3) (List.mem_of_getElem? (i := 451) rfl))
  obtain ⟨c12, i12, h12⟩ := u_known (C := RX12) (T := TX12) (N := 90) (n := 90) hts (fun _ h => (List.mem_append_left _ (List.mem_append_left _ (List.mem_append_left _ (List.mem_append_left _ (List.mem_append_left _ (List.mem_append_left _ (List.mem_append_left _ (List.mem_append_left _ (List.mem_append_left _ (List.mem_append_left _ (List.mem_append_right _ h)))))))))))) (hts (.instantiable RX12 90) (List.mem_of_getElem? (i := 545) rfl))
  obtain ⟨kI, qI, pI, fI, gI, eI⟩ := Cond.arrayClass_spec (hts (.arrayClass .int) (List.mem_of_getElem? (i := 457) rfl))
  obtain ⟨kZ, qZ, pZ, fZ, gZ, eZ⟩ := Cond.arrayClass_spec (hts (.arrayClass .boolean) (List.mem_of_getElem? (i := 549) rfl))
  obtain ⟨pD, kD, qD, aD, -, bD, dD, eD⟩ := Cond.arrayOver_spec ha1
  obtain ⟨pT, kT, qT, aT, -, bT, dT, eT⟩ := Cond.arrayOver_spec ha9
  refine ⟨(fun k => ([c0, c1, c2, c3, c4, c5, c6, c7, c8, c9, c10, c11, c12] : List ClassId).getD k c0, fun k => ([i0, i1, i2, i3, i4, i5, i6, i7, i8, i9, i10, i11, i12] : List (Nat → Nat)).getD k i0), fun k => ([kI, kZ, kD, kT] : List ClassId).getD k kI, ⟨?_, ?_⟩, fun q hq => va_Nw.of rfl (hni q hq), va_AO.of ha1, va_AO.of ha9⟩
  · intro c q hq
    match c, hq with
    | 0, hq => cases hq; exact h0
    | 1, hq => cases hq; exact h1
    | 2, hq => cases hq; exact h2
    | 3, hq => cases hq; exact h3
    | 4, hq => cases hq; exact h4
    | 5, hq => cases hq; exact h5
    | 6, hq => cases hq; exact h6
    | 7, hq => cases hq; exact h7
    | 8, hq => cases hq; exact h8
    | 9, hq => cases hq; exact h9
    | 10, hq => cases hq; exact h10
    | 11, hq => cases hq; exact h11
    | 12, hq => cases hq; exact h12
    | c + 13, hq => simp [vwCl] at hq
  · intro k q hk
    match k, hk with
    | 0, hk => cases hk; exact ⟨fun n z => ⟨fun k h => (by cases h), qI, gI, pI, eI⟩, fI⟩
    | 1, hk => cases hk; exact ⟨fun n z => ⟨fun k h => (by cases h), qZ, gZ, pZ, eZ⟩, fZ⟩
    | 2, hk => cases hk; exact ⟨fun n z => ⟨fun k h => (by cases h), qD, bD, pD, dD⟩, qD, pD, bD, dD, aD, eD⟩
    | 3, hk => cases hk; exact ⟨fun n z => ⟨fun k h => (by cases h), qT, bT, pT, dT⟩, qT, pT, bT, dT, aT, eT⟩
    | k + 4, hk => simp at hk

set_option maxHeartbeats 4000000 in
set_option maxRecDepth 100000 in
theorem whole_start {p : Program} {e : Env} {s : State} {m : MethodId} {below : List Frame} {meth : Method} {c : Code} (l : Launch) {b L : Nat} {xs : Nat → Int32} (hL : L ≤ 8) (C0 : lw_At p s m meth c b L xs) : W p l e room_1 s m #[Value.ref b] below meth c s.heap [] 0 0 (lw_Z below #[Value.ref b] s) (entryFrame m ([Value.ref b] : List Value).toArray 4) := by
  obtain ⟨hx, hb, hr, hml, hown0, htb, hX, hbl, hlocks, hgv⟩ := id C0
  have hown : s.vm.findClass RL = some m.cls := hown0
  have hts : ∀ w ∈ w_law, w.before #[Value.ref b] s = true := fun w h => htb w (w_law_in w h)
  obtain ⟨D, ca, hK, hN⟩ := k_start hts (fun q hq => htb _ (nest_in q hq)) (htb _ ao_1) (htb _ ao_9)
  obtain ⟨k, k2, hk, hk2, hne, hv⟩ := dev_choose (xs 1) (xs 2)
  obtain ⟨A, hAe⟩ : ∃ A : Nat → Prop, (fun q : Nat => s.heap.size ≤ q) = A := ⟨_, rfl⟩
  have hA : ∀ q : Nat, s.heap.size ≤ q → A q := fun q h => by rw [← hAe]; exact h
  have hbA : ¬ A b := by rw [← hAe]; exact Nat.not_le.mpr hbl
  have hSs : ∀ {H : Heap} {locs : List Loc}, va_S A s.heap H locs → ∀ q ∈ locs, s.heap.size ≤ q.base := fun h q hq => by have := h.2.2 q hq; rw [← hAe] at this; exact this
  have hS : va_S A s.heap s.heap [] := va_S.rf
  have hP : va_P D vwCl [] s.heap := fun k q h => by simp at h
  have hD : va_D A [] := ⟨fun i j p q h => by simp at h, fun k q h => by simp at h⟩
  have hl := lv_entry ([.ref b]) (n := 4) (Nat.le_of_ble_eq_true rfl)
  rw [lg_entry_eq]
  generalize (lg_sl ([.ref b]) ++ List.replicate (4 - (lg_sl ([.ref b])).length) Slot.unset).toArray = ls at hl ⊢
  have hl : lv_has ls 4 [(0, .ref b)] := hl
  have hi_X11 : ∀ w ∈ wsX110, w ∈ w_law := fun _ h => (List.mem_append_left _ (List.mem_append_left _ (List.mem_append_left _ (List.mem_append_left _ (List.mem_append_left _ (List.mem_append_left _ (List.mem_append_left _ (List.mem_append_left _ (List.mem_append_left _ (List.mem_append_left _ (List.mem_append_left _ (List.mem_append_left _ (List.mem_append_right _ h)))))))))))))
  have hi_X1 : ∀ w ∈ wsX10, w ∈ w_law := fun _ h => (List.mem_append_left _ (List.mem_append_left _ (List.mem_append_left _ (List.mem_append_left _ (List.mem_append_left _ (List.mem_append_left _ (List.mem_append_left _ (List.mem_append_left _ (List.mem_append_left _ (List.mem_append_left _ (List.mem_append_left _ (List.mem_append_right _ h))))))))))))
  have hi_X12 : ∀ w ∈ wsX120, w ∈ w_law := fun _ h => (List.mem_append_left _ (List.mem_append_left _ (List.mem_append_left _ (List.mem_append_left _ (List.mem_append_left _ (List.mem_append_left _ (List.mem_append_left _ (List.mem_append_left _ (List.mem_append_left _ (List.mem_append_left _ (List.mem_append_right _ h)))))))))))
  have hi_X0 : ∀ w ∈ wsX00, w ∈ w_law := fun _ h => (List.mem_append_left _ (List.mem_append_left _ (List.mem_append_left _ (List.mem_append_left _ (List.mem_append_left _ (List.mem_append_left _ (List.mem_append_left _ (List.mem_append_left _ (List.mem_append_left _ (List.mem_append_right _ h))))))))))
  have hi_X2 : ∀ w ∈ wsX20, w ∈ w_law := fun _ h => (List.mem_append_left _ (List.mem_append_left _ (List.mem_append_left _ (List.mem_append_left _ (List.mem_append_left _ (List.mem_append_left _ (List.mem_append_left _ (List.mem_append_left _ (List.mem_append_right _ h)))))))))
  have hi_X7 : ∀ w ∈ wsX70, w ∈ w_law := fun _ h => (List.mem_append_left _ (List.mem_append_left _ (List.mem_append_left _ (List.mem_append_left _ (List.mem_append_left _ (List.mem_append_left _ (List.mem_append_left _ (List.mem_append_right _ h))))))))
  have hi_X3 : ∀ w ∈ wsX30, w ∈ w_law := fun _ h => (List.mem_append_left _ (List.mem_append_left _ (List.mem_append_left _ (List.mem_append_left _ (List.mem_append_left _ (List.mem_append_left _ (List.mem_append_right _ h)))))))
  have hi_X5 : ∀ w ∈ wsX50, w ∈ w_law := fun _ h => (List.mem_append_left _ (List.mem_append_left _ (List.mem_append_left _ (List.mem_append_left _ (List.mem_append_left _ (List.mem_append_right _ h))))))
  have hi_X4 : ∀ w ∈ wsX40, w ∈ w_law := fun _ h => (List.mem_append_left _ (List.mem_append_left _ (List.mem_append_left _ (List.mem_append_left _ (List.mem_append_right _ h)))))
  have hi_X8 : ∀ w ∈ wsX80, w ∈ w_law := fun _ h => (List.mem_append_left _ (List.mem_append_left _ (List.mem_append_left _ (List.mem_append_right _ h))))
  have hi_X9 : ∀ w ∈ wsX90, w ∈ w_law := fun _ h => (List.mem_append_left _ (List.mem_append_left _ (List.mem_append_right _ h)))
  have hi_X10 : ∀ w ∈ wsX100, w ∈ w_law := fun _ h => (List.mem_append_left _ (List.mem_append_right _ h))
  have hi_X6 : ∀ w ∈ wsX60, w ∈ w_law := fun _ h => (List.mem_append_right _ h)
  refine va_new (ci := 11) (fs := [.null, .null, .int 0]) (C := RX11) (T := TX11) (N := 3) hx hb hts hi_X11 tyX11 tyX11_ok hown (hts (.classLink RL 7 RX11) (List.mem_of_getElem? (i := 450) rfl)) (hts (.instantiable RX11 3) (List.mem_of_getElem? (i := 451) rfl)) (hts (.initialized RX11) (List.mem_of_getElem? (i := 6) rfl)) hK hP hD hS hA rfl (by decide +kernel) (Nat.le_of_ble_eq_true rfl) (Nat.le_of_ble_eq_true rfl) dL_law_0 (fun q_1 H hP hD hS => ?_)
  have hP : va_P D vwCl [(q_1, .inr (11, [.null, .null, .int 0]))] H := hP
  have hD : va_D A [(q_1, .inr (11, [.null, .null, .int 0]))] := hD
  refine W.widen (k := 1) (n := 3) (Nat.le_of_ble_eq_true rfl) (Nat.le_of_ble_eq_true rfl) ?_
  refine lv_dup hx hb dL_law_3 rfl ?_
  refine kGo_v (wr := []) (kRunI (As := []) (rest := [.ref q_1]) ⟨hx, hb, hml, hown, hts⟩ (c_BeamHouse_init l D ca _ q_1) (cwI 0 hts g_law_c_BeamHouse_init_9 rfl rfl rfl (hts (.initialized RX11) (List.mem_of_getElem? (i := 6) rfl)) (hts (.methodLink RL 9 yX11_init) (List.mem_of_getElem? (i := 542) rfl)) (hts (.instanceMethod yX11_init) (List.mem_of_getElem? (i := 543) rfl)) rfl (by decide +kernel) ⟨Nat.le_of_ble_eq_true rfl, Nat.le_of_ble_eq_true rfl⟩) hK hN hP hD [0] rfl rfl rfl hl.1 rfl (Nat.le_of_ble_eq_true rfl) dL_law_4 ⟨Nat.le_of_ble_eq_true rfl, Nat.le_of_ble_eq_true rfl⟩) hP hD hS hA [0] [] rfl rfl rfl (by decide) (fun uu_ tt H locs hr_2 hB hj hS => ?_)
  obtain ⟨dv, tp, fd, a_f, ft_f, hfd_all, hft_all, hWd⟩ := hB
  obtain ⟨hP, hD⟩ := hj _ (hWd k hk k2 hk2 hne)
  have hfd := hfd_all k hk
  have hfd2 := hfd_all k2 hk2
  have hft := hft_all k hk
  generalize a_f k = a at hP hD hfd hft
  generalize a_f k2 = b2 at hP hD hfd2
  generalize ft_f k = ft at hP hD hft
  have hP : va_P D vwCl [(q_1, .inr (11, [.ref dv, .ref tp, .int 0])), (dv, .inl (ca 2, 4, .inr (.inr (.inr (.inr fd))))), (tp, .inl (ca 0, 1000, .inl (fun _ => 0))), ((a 0), .inr (1, [.ref (a 1), .ref (a 4), .ref (a 5), .ref (a 6), .ref (a 8), .ref (a 10), .int 0, .int (nI (k + 1)), .int (nI k)])), ((a 1), .inr (0, [.ref (a 2), .int 0, .ref (a 3), .int 0])), ((a 2), .inl (ca 0, 4000, .inl (fun _ => 0))), ((a 3), .inl (ca 0, 74, .inl (fun _ => 0))), ((a 4), .inr (2, [.ref (a 15), .int 0, .int 0, .int 0, .int 0, .int 0])), ((a 5), .inr (7, [.ref (a 16), .int 0, .int 0, .int 0, .int 0, .int 0, .int 0])), ((a 6), .inr (3, [.ref (a 7), .int 0, .int 0, .int 0, .int 0, .int 0, .int 0, .int 0, .int 0, .int 0, .int 0, .int 0, .int 0, .int 0])), ((a 7), .inr (5, [.int 0, .int 24, .int 32, .ref (a 17), .ref (a 18), .int 0])), ((a 8), .inr (10, [.ref (a 9), .ref (a 21), .int 0, .int 0, .ref (a 22), .int 0, .int 0, .int 0])), ((a 9), .inr (5, [.int 0, .int 8, .int 60, .ref (a 19), .ref (a 20), .int 0])), ((a 10), .inr (4, [.ref (a 11), .ref (a 23), .int 0, .ref (a 24), .int 0, .int 0, .int 0, .ref (a 25), .int 0, .ref (a 26), .int 0, .int 0])), ((a 11), .inr (8, [.int 0, .ref (a 12)])), ((a 12), .inl (ca 3, 6, .inr (.inr (.inr (.inr ft))))), ((a 13), .inr (9, [.ref (a 14), .long 0, .int 0])), ((a 14), .inl (ca 0, 120, .inl (fun _ => 0))), ((b2 0), .inr (1, [.ref (b2 1), .ref (b2 4), .ref (b2 5), .ref (b2 6), .ref (b2 8), .ref (b2 10), .int 0, .int (nI (k2 + 1)), .int (nI k2)])), ((b2 1), .inr (0, [.ref (b2 2), .int 0, .ref (b2 3), .int 0]))] H := hP
  have hD : va_D A [(q_1, .inr (11, [.ref dv, .ref tp, .int 0])), (dv, .inl (ca 2, 4, .inr (.inr (.inr (.inr fd))))), (tp, .inl (ca 0, 1000, .inl (fun _ => 0))), ((a 0), .inr (1, [.ref (a 1), .ref (a 4), .ref (a 5), .ref (a 6), .ref (a 8), .ref (a 10), .int 0, .int (nI (k + 1)), .int (nI k)])), ((a 1), .inr (0, [.ref (a 2), .int 0, .ref (a 3), .int 0])), ((a 2), .inl (ca 0, 4000, .inl (fun _ => 0))), ((a 3), .inl (ca 0, 74, .inl (fun _ => 0))), ((a 4), .inr (2, [.ref (a 15), .int 0, .int 0, .int 0, .int 0, .int 0])), ((a 5), .inr (7, [.ref (a 16), .int 0, .int 0, .int 0, .int 0, .int 0, .int 0])), ((a 6), .inr (3, [.ref (a 7), .int 0, .int 0, .int 0, .int 0, .int 0, .int 0, .int 0, .int 0, .int 0, .int 0, .int 0, .int 0, .int 0])), ((a 7), .inr (5, [.int 0, .int 24, .int 32, .ref (a 17), .ref (a 18), .int 0])), ((a 8), .inr (10, [.ref (a 9), .ref (a 21), .int 0, .int 0, .ref (a 22), .int 0, .int 0, .int 0])), ((a 9), .inr (5, [.int 0, .int 8, .int 60, .ref (a 19), .ref (a 20), .int 0])), ((a 10), .inr (4, [.ref (a 11), .ref (a 23), .int 0, .ref (a 24), .int 0, .int 0, .int 0, .ref (a 25), .int 0, .ref (a 26), .int 0, .int 0])), ((a 11), .inr (8, [.int 0, .ref (a 12)])), ((a 12), .inl (ca 3, 6, .inr (.inr (.inr (.inr ft))))), ((a 13), .inr (9, [.ref (a 14), .long 0, .int 0])), ((a 14), .inl (ca 0, 120, .inl (fun _ => 0))), ((b2 0), .inr (1, [.ref (b2 1), .ref (b2 4), .ref (b2 5), .ref (b2 6), .ref (b2 8), .ref (b2 10), .int 0, .int (nI (k2 + 1)), .int (nI k2)])), ((b2 1), .inr (0, [.ref (b2 2), .int 0, .ref (b2 3), .int 0]))] := hD
  refine W.widen (k := 171) (n := 28163) (Nat.le_of_ble_eq_true rfl) (Nat.le_of_ble_eq_true rfl) ?_
  refine lv_astore_n (lv' := [(1, .ref q_1), (0, .ref b)]) hx hb dL_law_7 rfl hl (by decide) rfl (fun ls hl => ?_)
  refine va_new (ci := 12) (fs := [.null, .null, .null, .null, .null, .null, .null, .null, .null, .null, .int 0, .null, .null, .int 0, .int 0, .null, .null, .null, .null, .null, .null, .int 0, .int 0, .null, .null, .null, .null, .null, .null, .null, .null, .null, .null, .null, .null, .null, .null, .null, .null, .null, .null, .null, .null, .null, .null, .null, .null, .null, .null, .null, .null, .null, .null, .null, .null, .null, .null, .int 0, .null, .null, .null, .null, .null, .null, .null, .null, .null, .null, .null, .null, .null, .null, .null, .null, .null, .null, .null, .null, .null, .null, .null, .null, .int 0, .int 0, .int 0, .int 0, .int 0, .int 0, .null, .null]) (C := RX12) (T := TX12) (N := 90) hx hb hts hi_X12 tyX12 tyX12_ok hown (hts (.classLink RL 10 RX12) (List.mem_of_getElem? (i := 544) rfl)) (hts (.instantiable RX12 90) (List.mem_of_getElem? (i := 545) rfl)) (hts (.initialized RX12) (List.mem_of_getElem? (i := 17) rfl)) hK hP hD hS hA rfl (by decide +kernel) (Nat.le_of_ble_eq_true rfl) (Nat.le_of_ble_eq_true rfl) dL_law_8 (fun q_3 H hP hD hS => ?_)
  have hP : va_P D vwCl [(q_1, .inr (11, [.ref dv, .ref tp, .int 0])), (dv, .inl (ca 2, 4, .inr (.inr (.inr (.inr fd))))), (tp, .inl (ca 0, 1000, .inl (fun _ => 0))), ((a 0), .inr (1, [.ref (a 1), .ref (a 4), .ref (a 5), .ref (a 6), .ref (a 8), .ref (a 10), .int 0, .int (nI (k + 1)), .int (nI k)])), ((a 1), .inr (0, [.ref (a 2), .int 0, .ref (a 3), .int 0])), ((a 2), .inl (ca 0, 4000, .inl (fun _ => 0))), ((a 3), .inl (ca 0, 74, .inl (fun _ => 0))), ((a 4), .inr (2, [.ref (a 15), .int 0, .int 0, .int 0, .int 0, .int 0])), ((a 5), .inr (7, [.ref (a 16), .int 0, .int 0, .int 0, .int 0, .int 0, .int 0])), ((a 6), .inr (3, [.ref (a 7), .int 0, .int 0, .int 0, .int 0, .int 0, .int 0, .int 0, .int 0, .int 0, .int 0, .int 0, .int 0, .int 0])), ((a 7), .inr (5, [.int 0, .int 24, .int 32, .ref (a 17), .ref (a 18), .int 0])), ((a 8), .inr (10, [.ref (a 9), .ref (a 21), .int 0, .int 0, .ref (a 22), .int 0, .int 0, .int 0])), ((a 9), .inr (5, [.int 0, .int 8, .int 60, .ref (a 19), .ref (a 20), .int 0])), ((a 10), .inr (4, [.ref (a 11), .ref (a 23), .int 0, .ref (a 24), .int 0, .int 0, .int 0, .ref (a 25), .int 0, .ref (a 26), .int 0, .int 0])), ((a 11), .inr (8, [.int 0, .ref (a 12)])), ((a 12), .inl (ca 3, 6, .inr (.inr (.inr (.inr ft))))), ((a 13), .inr (9, [.ref (a 14), .long 0, .int 0])), ((a 14), .inl (ca 0, 120, .inl (fun _ => 0))), ((b2 0), .inr (1, [.ref (b2 1), .ref (b2 4), .ref (b2 5), .ref (b2 6), .ref (b2 8), .ref (b2 10), .int 0, .int (nI (k2 + 1)), .int (nI k2)])), ((b2 1), .inr (0, [.ref (b2 2), .int 0, .ref (b2 3), .int 0])), (q_3, .inr (12, [.null, .null, .null, .null, .null, .null, .null, .null, .null, .null, .int 0, .null, .null, .int 0, .int 0, .null, .null, .null, .null, .null, .null, .int 0, .int 0, .null, .null, .null, .null, .null, .null, .null, .null, .null, .null, .null, .null, .null, .null, .null, .null, .null, .null, .null, .null, .null, .null, .null, .null, .null, .null, .null, .null, .null, .null, .null, .null, .null, .null, .int 0, .null, .null, .null, .null, .null, .null, .null, .null, .null, .null, .null, .null, .null, .null, .null, .null, .null, .null, .null, .null, .null, .null, .null, .null, .int 0, .int 0, .int 0, .int 0, .int 0, .int 0, .null, .null]))] H := hP
  have hD : va_D A [(q_1, .inr (11, [.ref dv, .ref tp, .int 0])), (dv, .inl (ca 2, 4, .inr (.inr (.inr (.inr fd))))), (tp, .inl (ca 0, 1000, .inl (fun _ => 0))), ((a 0), .inr (1, [.ref (a 1), .ref (a 4), .ref (a 5), .ref (a 6), .ref (a 8), .ref (a 10), .int 0, .int (nI (k + 1)), .int (nI k)])), ((a 1), .inr (0, [.ref (a 2), .int 0, .ref (a 3), .int 0])), ((a 2), .inl (ca 0, 4000, .inl (fun _ => 0))), ((a 3), .inl (ca 0, 74, .inl (fun _ => 0))), ((a 4), .inr (2, [.ref (a 15), .int 0, .int 0, .int 0, .int 0, .int 0])), ((a 5), .inr (7, [.ref (a 16), .int 0, .int 0, .int 0, .int 0, .int 0, .int 0])), ((a 6), .inr (3, [.ref (a 7), .int 0, .int 0, .int 0, .int 0, .int 0, .int 0, .int 0, .int 0, .int 0, .int 0, .int 0, .int 0, .int 0])), ((a 7), .inr (5, [.int 0, .int 24, .int 32, .ref (a 17), .ref (a 18), .int 0])), ((a 8), .inr (10, [.ref (a 9), .ref (a 21), .int 0, .int 0, .ref (a 22), .int 0, .int 0, .int 0])), ((a 9), .inr (5, [.int 0, .int 8, .int 60, .ref (a 19), .ref (a 20), .int 0])), ((a 10), .inr (4, [.ref (a 11), .ref (a 23), .int 0, .ref (a 24), .int 0, .int 0, .int 0, .ref (a 25), .int 0, .ref (a 26), .int 0, .int 0])), ((a 11), .inr (8, [.int 0, .ref (a 12)])), ((a 12), .inl (ca 3, 6, .inr (.inr (.inr (.inr ft))))), ((a 13), .inr (9, [.ref (a 14), .long 0, .int 0])), ((a 14), .inl (ca 0, 120, .inl (fun _ => 0))), ((b2 0), .inr (1, [.ref (b2 1), .ref (b2 4), .ref (b2 5), .ref (b2 6), .ref (b2 8), .ref (b2 10), .int 0, .int (nI (k2 + 1)), .int (nI k2)])), ((b2 1), .inr (0, [.ref (b2 2), .int 0, .ref (b2 3), .int 0])), (q_3, .inr (12, [.null, .null, .null, .null, .null, .null, .null, .null, .null, .null, .int 0, .null, .null, .int 0, .int 0, .null, .null, .null, .null, .null, .null, .int 0, .int 0, .null, .null, .null, .null, .null, .null, .null, .null, .null, .null, .null, .null, .null, .null, .null, .null, .null, .null, .null, .null, .null, .null, .null, .null, .null, .null, .null, .null, .null, .null, .null, .null, .null, .null, .int 0, .null, .null, .null, .null, .null, .null, .null, .null, .null, .null, .null, .null, .null, .null, .null, .null, .null, .null, .null, .null, .null, .null, .null, .null, .int 0, .int 0, .int 0, .int 0, .int 0, .int 0, .null, .null]))] := hD
  refine W.widen (k := 172) (n := 28253) (Nat.le_of_ble_eq_true rfl) (Nat.le_of_ble_eq_true rfl) ?_
  refine lv_dup hx hb dL_law_11 rfl ?_
  refine kGo_v (wr := [(q_1, .inr (11, [.ref dv, .ref tp, .int 0])), (dv, .inl (ca 2, 4, .inr (.inr (.inr (.inr fd))))), (tp, .inl (ca 0, 1000, .inl (fun _ => 0))), ((a 0), .inr (1, [.ref (a 1), .ref (a 4), .ref (a 5), .ref (a 6), .ref (a 8), .ref (a 10), .int 0, .int (nI (k + 1)), .int (nI k)])), ((a 1), .inr (0, [.ref (a 2), .int 0, .ref (a 3), .int 0])), ((a 2), .inl (ca 0, 4000, .inl (fun _ => 0))), ((a 3), .inl (ca 0, 74, .inl (fun _ => 0))), ((a 4), .inr (2, [.ref (a 15), .int 0, .int 0, .int 0, .int 0, .int 0])), ((a 5), .inr (7, [.ref (a 16), .int 0, .int 0, .int 0, .int 0, .int 0, .int 0])), ((a 6), .inr (3, [.ref (a 7), .int 0, .int 0, .int 0, .int 0, .int 0, .int 0, .int 0, .int 0, .int 0, .int 0, .int 0, .int 0, .int 0])), ((a 7), .inr (5, [.int 0, .int 24, .int 32, .ref (a 17), .ref (a 18), .int 0])), ((a 8), .inr (10, [.ref (a 9), .ref (a 21), .int 0, .int 0, .ref (a 22), .int 0, .int 0, .int 0])), ((a 9), .inr (5, [.int 0, .int 8, .int 60, .ref (a 19), .ref (a 20), .int 0])), ((a 10), .inr (4, [.ref (a 11), .ref (a 23), .int 0, .ref (a 24), .int 0, .int 0, .int 0, .ref (a 25), .int 0, .ref (a 26), .int 0, .int 0])), ((a 11), .inr (8, [.int 0, .ref (a 12)])), ((a 12), .inl (ca 3, 6, .inr (.inr (.inr (.inr ft))))), ((a 13), .inr (9, [.ref (a 14), .long 0, .int 0])), ((a 14), .inl (ca 0, 120, .inl (fun _ => 0))), ((b2 0), .inr (1, [.ref (b2 1), .ref (b2 4), .ref (b2 5), .ref (b2 6), .ref (b2 8), .ref (b2 10), .int 0, .int (nI (k2 + 1)), .int (nI k2)])), ((b2 1), .inr (0, [.ref (b2 2), .int 0, .ref (b2 3), .int 0]))]) (kRunI (As := []) (rest := [.ref q_3]) ⟨hx, hb, hml, hown, hts⟩ (d_Model_init l D ca _ q_3) (cwI 0 hts g_law_d_Model_init_12 rfl rfl rfl (hts (.initialized RX12) (List.mem_of_getElem? (i := 17) rfl)) (hts (.methodLink RL 12 yX12_init) (List.mem_of_getElem? (i := 594) rfl)) (hts (.instanceMethod yX12_init) (List.mem_of_getElem? (i := 595) rfl)) rfl (by decide +kernel) ⟨Nat.le_of_ble_eq_true rfl, Nat.le_of_ble_eq_true rfl⟩) hK hN hP hD [20] rfl rfl rfl hl.1 rfl (Nat.le_of_ble_eq_true rfl) dL_law_12 ⟨Nat.le_of_ble_eq_true rfl, Nat.le_of_ble_eq_true rfl⟩) hP hD hS hA [20] [0, 1, 2, 3, 4, 5, 6, 7, 8, 9, 10, 11, 12, 13, 14, 15, 16, 17, 18, 19] rfl rfl rfl (by decide) (fun uu_ tt H locs hr_4 hB hj hS => ?_)
  obtain ⟨mm, fa, fs, hfa_all, hfs_all, hWd⟩ := hB
  obtain ⟨hP, hD⟩ := hj _ hWd
  have hfa := hfa_all k hk
  have hfs := hfs_all k hk
  have hP : va_P D vwCl [(q_1, .inr (11, [.ref dv, .ref tp, .int 0])), (dv, .inl (ca 2, 4, .inr (.inr (.inr (.inr fd))))), (tp, .inl (ca 0, 1000, .inl (fun _ => 0))), ((a 0), .inr (1, [.ref (a 1), .ref (a 4), .ref (a 5), .ref (a 6), .ref (a 8), .ref (a 10), .int 0, .int (nI (k + 1)), .int (nI k)])), ((a 1), .inr (0, [.ref (a 2), .int 0, .ref (a 3), .int 0])), ((a 2), .inl (ca 0, 4000, .inl (fun _ => 0))), ((a 3), .inl (ca 0, 74, .inl (fun _ => 0))), ((a 4), .inr (2, [.ref (a 15), .int 0, .int 0, .int 0, .int 0, .int 0])), ((a 5), .inr (7, [.ref (a 16), .int 0, .int 0, .int 0, .int 0, .int 0, .int 0])), ((a 6), .inr (3, [.ref (a 7), .int 0, .int 0, .int 0, .int 0, .int 0, .int 0, .int 0, .int 0, .int 0, .int 0, .int 0, .int 0, .int 0])), ((a 7), .inr (5, [.int 0, .int 24, .int 32, .ref (a 17), .ref (a 18), .int 0])), ((a 8), .inr (10, [.ref (a 9), .ref (a 21), .int 0, .int 0, .ref (a 22), .int 0, .int 0, .int 0])), ((a 9), .inr (5, [.int 0, .int 8, .int 60, .ref (a 19), .ref (a 20), .int 0])), ((a 10), .inr (4, [.ref (a 11), .ref (a 23), .int 0, .ref (a 24), .int 0, .int 0, .int 0, .ref (a 25), .int 0, .ref (a 26), .int 0, .int 0])), ((a 11), .inr (8, [.int 0, .ref (a 12)])), ((a 12), .inl (ca 3, 6, .inr (.inr (.inr (.inr ft))))), ((a 13), .inr (9, [.ref (a 14), .long 0, .int 0])), ((a 14), .inl (ca 0, 120, .inl (fun _ => 0))), ((b2 0), .inr (1, [.ref (b2 1), .ref (b2 4), .ref (b2 5), .ref (b2 6), .ref (b2 8), .ref (b2 10), .int 0, .int (nI (k2 + 1)), .int (nI k2)])), ((b2 1), .inr (0, [.ref (b2 2), .int 0, .ref (b2 3), .int 0])), (q_3, .inr (12, [.ref (mm 0), .ref (mm 1), .ref (mm 2), .ref (mm 3), .ref (mm 4), .ref (mm 5), .ref (mm 6), .ref (mm 7), .ref (mm 8), .ref (mm 9), .int 0, .ref (mm 11), .ref (mm 12), .int 0, .int 0, .ref (mm 15), .ref (mm 16), .ref (mm 17), .ref (mm 18), .ref (mm 19), .ref (mm 20), .int 0, .int 0, .ref (mm 23), .ref (mm 24), .ref (mm 25), .ref (mm 26), .ref (mm 27), .ref (mm 28), .ref (mm 29), .ref (mm 30), .ref (mm 31), .ref (mm 32), .ref (mm 33), .ref (mm 34), .ref (mm 35), .ref (mm 36), .ref (mm 37), .ref (mm 38), .ref (mm 39), .ref (mm 40), .ref (mm 41), .ref (mm 42), .ref (mm 43), .ref (mm 44), .ref (mm 45), .ref (mm 46), .ref (mm 47), .ref (mm 48), .ref (mm 49), .ref (mm 50), .ref (mm 51), .ref (mm 52), .ref (mm 53), .ref (mm 54), .ref (mm 55), .ref (mm 56), .int 0, .ref (mm 58), .ref (mm 59), .ref (mm 60), .ref (mm 61), .ref (mm 62), .ref (mm 63), .ref (mm 64), .ref (mm 65), .ref (mm 66), .ref (mm 67), .ref (mm 68), .ref (mm 69), .ref (mm 70), .ref (mm 71), .ref (mm 72), .ref (mm 73), .ref (mm 74), .ref (mm 75), .ref (mm 76), .ref (mm 77), .ref (mm 78), .ref (mm 79), .ref (mm 80), .ref (mm 81), .int 0, .int 0, .int 0, .int 0, .int 0, .int 0, .ref (mm 88), .ref (mm 89)])), ((mm 0), .inl (ca 0, 4, .inl fa)), ((mm 1), .inl (ca 0, 4, .inl fs)), ((mm 2), .inl (ca 0, 4, .inl (fun _ => 0))), ((mm 3), .inl (ca 0, 4, .inl (fun _ => 0))), ((mm 4), .inl (ca 0, 4, .inl (fun _ => 0))), ((mm 5), .inl (ca 0, 4, .inl (fun _ => 0))), ((mm 6), .inl (ca 0, 4, .inl (fun _ => 0))), ((mm 7), .inl (ca 0, 16000, .inl (fun _ => 0))), ((mm 9), .inl (ca 0, 1000, .inl (fun _ => 0))), ((mm 11), .inl (ca 0, 80, .inl (fun _ => 0))), ((mm 12), .inl (ca 0, 180, .inl (fun _ => 0))), ((mm 19), .inl (ca 0, 4, .inl (fun _ => 0))), ((mm 20), .inl (ca 0, 4, .inl (fun _ => 0))), ((mm 25), .inl (ca 0, 4, .inl (fun _ => 0))), ((mm 26), .inl (ca 0, 4, .inl (fun _ => 0))), ((mm 27), .inl (ca 0, 4, .inl (fun _ => 0))), ((mm 29), .inl (ca 1, 4, .inl (fun _ => 0))), ((mm 35), .inl (ca 0, 4, .inl (fun _ => 0))), ((mm 36), .inl (ca 0, 4, .inl (fun _ => 0))), ((mm 41), .inl (ca 0, 4, .inl (fun _ => 0))), ((mm 42), .inl (ca 0, 4, .inl (fun _ => 0))), ((mm 45), .inl (ca 0, 4, .inl (fun _ => 0))), ((mm 46), .inl (ca 0, 4, .inl (fun _ => 0))), ((mm 48), .inl (ca 0, 4, .inl (fun _ => 0))), ((mm 49), .inl (ca 0, 4, .inl (fun _ => 0))), ((mm 58), .inl (ca 0, 4, .inl (fun _ => 0))), ((mm 59), .inl (ca 0, 24, .inl (fun _ => 0))), ((mm 60), .inl (ca 0, 192, .inl (fun _ => 0))), ((mm 61), .inl (ca 0, 24, .inl (fun _ => 0))), ((mm 62), .inl (ca 0, 2880, .inl (fun _ => 0))), ((mm 73), .inl (ca 0, 4, .inl (fun _ => 0))), ((mm 88), .inl (ca 0, 8, .inl (fun _ => 0))), ((mm 89), .inl (ca 0, 120, .inl (fun _ => 0)))] H := hP
  have hD : va_D A [(q_1, .inr (11, [.ref dv, .ref tp, .int 0])), (dv, .inl (ca 2, 4, .inr (.inr (.inr (.inr fd))))), (tp, .inl (ca 0, 1000, .inl (fun _ => 0))), ((a 0), .inr (1, [.ref (a 1), .ref (a 4), .ref (a 5), .ref (a 6), .ref (a 8), .ref (a 10), .int 0, .int (nI (k + 1)), .int (nI k)])), ((a 1), .inr (0, [.ref (a 2), .int 0, .ref (a 3), .int 0])), ((a 2), .inl (ca 0, 4000, .inl (fun _ => 0))), ((a 3), .inl (ca 0, 74, .inl (fun _ => 0))), ((a 4), .inr (2, [.ref (a 15), .int 0, .int 0, .int 0, .int 0, .int 0])), ((a 5), .inr (7, [.ref (a 16), .int 0, .int 0, .int 0, .int 0, .int 0, .int 0])), ((a 6), .inr (3, [.ref (a 7), .int 0, .int 0, .int 0, .int 0, .int 0, .int 0, .int 0, .int 0, .int 0, .int 0, .int 0, .int 0, .int 0])), ((a 7), .inr (5, [.int 0, .int 24, .int 32, .ref (a 17), .ref (a 18), .int 0])), ((a 8), .inr (10, [.ref (a 9), .ref (a 21), .int 0, .int 0, .ref (a 22), .int 0, .int 0, .int 0])), ((a 9), .inr (5, [.int 0, .int 8, .int 60, .ref (a 19), .ref (a 20), .int 0])), ((a 10), .inr (4, [.ref (a 11), .ref (a 23), .int 0, .ref (a 24), .int 0, .int 0, .int 0, .ref (a 25), .int 0, .ref (a 26), .int 0, .int 0])), ((a 11), .inr (8, [.int 0, .ref (a 12)])), ((a 12), .inl (ca 3, 6, .inr (.inr (.inr (.inr ft))))), ((a 13), .inr (9, [.ref (a 14), .long 0, .int 0])), ((a 14), .inl (ca 0, 120, .inl (fun _ => 0))), ((b2 0), .inr (1, [.ref (b2 1), .ref (b2 4), .ref (b2 5), .ref (b2 6), .ref (b2 8), .ref (b2 10), .int 0, .int (nI (k2 + 1)), .int (nI k2)])), ((b2 1), .inr (0, [.ref (b2 2), .int 0, .ref (b2 3), .int 0])), (q_3, .inr (12, [.ref (mm 0), .ref (mm 1), .ref (mm 2), .ref (mm 3), .ref (mm 4), .ref (mm 5), .ref (mm 6), .ref (mm 7), .ref (mm 8), .ref (mm 9), .int 0, .ref (mm 11), .ref (mm 12), .int 0, .int 0, .ref (mm 15), .ref (mm 16), .ref (mm 17), .ref (mm 18), .ref (mm 19), .ref (mm 20), .int 0, .int 0, .ref (mm 23), .ref (mm 24), .ref (mm 25), .ref (mm 26), .ref (mm 27), .ref (mm 28), .ref (mm 29), .ref (mm 30), .ref (mm 31), .ref (mm 32), .ref (mm 33), .ref (mm 34), .ref (mm 35), .ref (mm 36), .ref (mm 37), .ref (mm 38), .ref (mm 39), .ref (mm 40), .ref (mm 41), .ref (mm 42), .ref (mm 43), .ref (mm 44), .ref (mm 45), .ref (mm 46), .ref (mm 47), .ref (mm 48), .ref (mm 49), .ref (mm 50), .ref (mm 51), .ref (mm 52), .ref (mm 53), .ref (mm 54), .ref (mm 55), .ref (mm 56), .int 0, .ref (mm 58), .ref (mm 59), .ref (mm 60), .ref (mm 61), .ref (mm 62), .ref (mm 63), .ref (mm 64), .ref (mm 65), .ref (mm 66), .ref (mm 67), .ref (mm 68), .ref (mm 69), .ref (mm 70), .ref (mm 71), .ref (mm 72), .ref (mm 73), .ref (mm 74), .ref (mm 75), .ref (mm 76), .ref (mm 77), .ref (mm 78), .ref (mm 79), .ref (mm 80), .ref (mm 81), .int 0, .int 0, .int 0, .int 0, .int 0, .int 0, .ref (mm 88), .ref (mm 89)])), ((mm 0), .inl (ca 0, 4, .inl fa)), ((mm 1), .inl (ca 0, 4, .inl fs)), ((mm 2), .inl (ca 0, 4, .inl (fun _ => 0))), ((mm 3), .inl (ca 0, 4, .inl (fun _ => 0))), ((mm 4), .inl (ca 0, 4, .inl (fun _ => 0))), ((mm 5), .inl (ca 0, 4, .inl (fun _ => 0))), ((mm 6), .inl (ca 0, 4, .inl (fun _ => 0))), ((mm 7), .inl (ca 0, 16000, .inl (fun _ => 0))), ((mm 9), .inl (ca 0, 1000, .inl (fun _ => 0))), ((mm 11), .inl (ca 0, 80, .inl (fun _ => 0))), ((mm 12), .inl (ca 0, 180, .inl (fun _ => 0))), ((mm 19), .inl (ca 0, 4, .inl (fun _ => 0))), ((mm 20), .inl (ca 0, 4, .inl (fun _ => 0))), ((mm 25), .inl (ca 0, 4, .inl (fun _ => 0))), ((mm 26), .inl (ca 0, 4, .inl (fun _ => 0))), ((mm 27), .inl (ca 0, 4, .inl (fun _ => 0))), ((mm 29), .inl (ca 1, 4, .inl (fun _ => 0))), ((mm 35), .inl (ca 0, 4, .inl (fun _ => 0))), ((mm 36), .inl (ca 0, 4, .inl (fun _ => 0))), ((mm 41), .inl (ca 0, 4, .inl (fun _ => 0))), ((mm 42), .inl (ca 0, 4, .inl (fun _ => 0))), ((mm 45), .inl (ca 0, 4, .inl (fun _ => 0))), ((mm 46), .inl (ca 0, 4, .inl (fun _ => 0))), ((mm 48), .inl (ca 0, 4, .inl (fun _ => 0))), ((mm 49), .inl (ca 0, 4, .inl (fun _ => 0))), ((mm 58), .inl (ca 0, 4, .inl (fun _ => 0))), ((mm 59), .inl (ca 0, 24, .inl (fun _ => 0))), ((mm 60), .inl (ca 0, 192, .inl (fun _ => 0))), ((mm 61), .inl (ca 0, 24, .inl (fun _ => 0))), ((mm 62), .inl (ca 0, 2880, .inl (fun _ => 0))), ((mm 73), .inl (ca 0, 4, .inl (fun _ => 0))), ((mm 88), .inl (ca 0, 8, .inl (fun _ => 0))), ((mm 89), .inl (ca 0, 120, .inl (fun _ => 0)))] := hD
  refine W.widen (k := 250) (n := 60253) (Nat.le_of_ble_eq_true rfl) (Nat.le_of_ble_eq_true rfl) ?_
  refine lv_astore_n (lv' := [(2, .ref q_3), (1, .ref q_1), (0, .ref b)]) hx hb dL_law_15 rfl hl (by decide) rfl (fun ls hl => ?_)
  refine lv_iconst (v := 0) hx hb dL_law_16 (by decide) ?_
  refine lv_istore_n (lv' := [(3, .int 0), (2, .ref q_3), (1, .ref q_1), (0, .ref b)]) hx hb dL_law_17 rfl hl (by decide) rfl (fun ls hl => ?_)
  refine lv_iload_n hx hb dL_law_18 rfl (lv_at hl 0 rfl) ?_
  refine lv_aload_n hx hb dL_law_19 rfl (lv_at hl 3 rfl) ?_
  refine va_slen hx hb hX hbl hbA hS dL_law_20 ?_
  refine lv_bipush (v := 8) hx hb dL_law_21 (by decide) ?_
  refine lv_isub hx hb dL_law_23 ?_
  refine lv_topi (fun x_5 ex_5 => ?_)
  refine lv_icmp_gt (tgt := 1004) hx hb dL_law_24 (by decide) (fun c_24 => ?_) (fun c_24 => ?_)
  · refine lv_iconst (v := 1) hx hb dL_law_1004 (by decide) ?_
    refine va_forget (hSs hS) ?_
    refine W.widen (k := 600000) (n := 7302250) (Nat.le_of_ble_eq_true rfl) (Nat.le_of_ble_eq_true rfl) ?_
    exact lw_ret hx hb hr hlocks dL_law_1005
  · obtain rfl : L = 8 := k_l8 hL (by rw [← ex_5]; exact c_24)
    refine lv_aload_n hx hb dL_law_27 rfl (lv_at hl 3 rfl) ?_
    refine lv_iload_n hx hb dL_law_28 rfl (lv_at hl 0 rfl) ?_
    refine va_sld hx hb hX hbl hbA hS (show ¬ (_ ∨ _) by decide) dL_law_29 ?_
    refine lv_topn (xs 0) rfl ?_
    refine lv_bipush (v := 31) hx hb dL_law_30 (by decide) ?_
    refine lv_iand hx hb dL_law_32 ?_
    refine lv_topi (fun x_6 ex_6 => ?_)
    by_cases c_a : x_6 < 0
    · refine lv_tableOut (tgt := 998) hx hb dL_law_33 (sw_out17 (Or.inl c_a)) (by decide) ?_
      refine lv_iinc (v := 8) (lv' := [(3, .int 8), (2, .ref q_3), (1, .ref q_1), (0, .ref b)]) hx hb dL_law_998 hl (k := 0) rfl (by decide) (by decide) rfl (fun ls hl => ?_)
      refine lv_goto (tgt := 18) hx hb dL_law_1001 (by decide) ?_
      refine lv_iload_n hx hb dL_law_18 rfl (lv_at hl 0 rfl) ?_
      refine lv_aload_n hx hb dL_law_19 rfl (lv_at hl 3 rfl) ?_
      refine va_slen hx hb hX hbl hbA hS dL_law_20 ?_
      refine lv_topn 8 rfl ?_
      refine lv_bipush (v := 8) hx hb dL_law_21 (by decide) ?_
      refine lv_isub hx hb dL_law_23 ?_
      refine lv_topn 0 (by decide) ?_
      refine lv_icmp_gt (tgt := 1004) hx hb dL_law_24 (by decide) (fun _ => ?_) (fun h => absurd (by decide) h)
      refine lv_iconst (v := 1) hx hb dL_law_1004 (by decide) ?_
      refine va_forget (hSs hS) ?_
      refine W.widen (k := 600000) (n := 7302250) (Nat.le_of_ble_eq_true rfl) (Nat.le_of_ble_eq_true rfl) ?_
      exact lw_ret hx hb hr hlocks dL_law_1005
    · by_cases c_b : x_6 ≤ 17
      · obtain ⟨j, hj, e_j⟩ := nI_of2 (M := 17) (n := 17) (by decide) c_a c_b
        subst e_j
        rcases (show j = 0 ∨ j = 1 ∨ j = 2 ∨ j = 3 ∨ j = 4 ∨ j = 5 ∨ j = 6 ∨ j = 7 ∨ j = 8 ∨ j = 9 ∨ j = 10 ∨ j = 11 ∨ j = 12 ∨ j = 13 ∨ j = 14 ∨ j = 15 ∨ j = 16 ∨ j = 17 by omega) with rfl | rfl | rfl | rfl | rfl | rfl | rfl | rfl | rfl | rfl | rfl | rfl | rfl | rfl | rfl | rfl | rfl | rfl
        · refine lv_tableIn (tgt := 120) (off := 87) hx hb dL_law_33 (by decide) (by decide) rfl (by decide) ?_
          exact law_device C0 hK hN hk hk2 hne hv hfd hfd2 hft hfa hfs hAe hP hD hS hl
        · refine lv_tableIn (tgt := 163) (off := 130) hx hb dL_law_33 (by decide) (by decide) rfl (by decide) ?_
          exact law_feed C0 hK hN hk hk2 hne hv hfd hfd2 hft hfa hfs hAe hP hD hS hl
        · refine lv_tableIn (tgt := 226) (off := 193) hx hb dL_law_33 (by decide) (by decide) rfl (by decide) ?_
          exact law_bend C0 hK hN hk hk2 hne hv hfd hfd2 hft hfa hfs hAe hP hD hS hl
        · refine lv_tableIn (tgt := 259) (off := 226) hx hb dL_law_33 (by decide) (by decide) rfl (by decide) ?_
          exact law_take C0 hK hN hk hk2 hne hv hfd hfd2 hft hfa hfs hAe hP hD hS hl
        · refine lv_tableIn (tgt := 282) (off := 249) hx hb dL_law_33 (by decide) (by decide) rfl (by decide) ?_
          exact law_hear C0 hK hN hk hk2 hne hv hfd hfd2 hft hfa hfs hAe hP hD hS hl
        · refine lv_tableIn (tgt := 325) (off := 292) hx hb dL_law_33 (by decide) (by decide) rfl (by decide) ?_
          exact law_talk C0 hK hN hk hk2 hne hv hfd hfd2 hft hfa hfs hAe hP hD hS hl
        · refine lv_tableIn (tgt := 368) (off := 335) hx hb dL_law_33 (by decide) (by decide) rfl (by decide) ?_
          exact law_tick C0 hK hN hk hk2 hne hv hfd hfd2 hft hfa hfs hAe hP hD hS hl
        · refine lv_tableIn (tgt := 391) (off := 358) hx hb dL_law_33 (by decide) (by decide) rfl (by decide) ?_
          exact law_discover C0 hK hN hk hk2 hne hv hfd hfd2 hft hfa hfs hAe hP hD hS hl
        · refine lv_tableIn (tgt := 424) (off := 391) hx hb dL_law_33 (by decide) (by decide) rfl (by decide) ?_
          exact law_listed C0 hK hN hk hk2 hne hv hfd hfd2 hft hfa hfs hAe hP hD hS hl
        · refine lv_tableIn (tgt := 457) (off := 424) hx hb dL_law_33 (by decide) (by decide) rfl (by decide) ?_
          exact law_call C0 hK hN hk hk2 hne hv hfd hfd2 hft hfa hfs hAe hP hD hS hl
        · refine lv_tableIn (tgt := 500) (off := 467) hx hb dL_law_33 (by decide) (by decide) rfl (by decide) ?_
          exact law_end C0 hK hN hk hk2 hne hv hfd hfd2 hft hfa hfs hAe hP hD hS hl
        · refine lv_tableIn (tgt := 523) (off := 490) hx hb dL_law_33 (by decide) (by decide) rfl (by decide) ?_
          exact law_store C0 hK hN hk hk2 hne hv hfd hfd2 hft hfa hfs hAe hP hD hS hl
        · refine lv_tableIn (tgt := 630) (off := 597) hx hb dL_law_33 (by decide) (by decide) rfl (by decide) ?_
          exact law_put C0 hK hN hk hk2 hne hv hfd hfd2 hft hfa hfs hAe hP hD hS hl
        · refine lv_tableIn (tgt := 703) (off := 670) hx hb dL_law_33 (by decide) (by decide) rfl (by decide) ?_
          exact law_get C0 hK hN hk hk2 hne hv hfd hfd2 hft hfa hfs hAe hP hD hS hl
        · refine lv_tableIn (tgt := 776) (off := 743) hx hb dL_law_33 (by decide) (by decide) rfl (by decide) ?_
          exact law_size C0 hK hN hk hk2 hne hv hfd hfd2 hft hfa hfs hAe hP hD hS hl
        · refine lv_tableIn (tgt := 849) (off := 816) hx hb dL_law_33 (by decide) (by decide) rfl (by decide) ?_
          exact law_octet C0 hK hN hk hk2 hne hv hfd hfd2 hft hfa hfs hAe hP hD hS hl
        · refine lv_tableIn (tgt := 932) (off := 899) hx hb dL_law_33 (by decide) (by decide) rfl (by decide) ?_
          exact law_of C0 hK hN hk hk2 hne hv hfd hfd2 hft hfa hfs hAe hP hD hS hl
        · refine lv_tableIn (tgt := 965) (off := 932) hx hb dL_law_33 (by decide) (by decide) rfl (by decide) ?_
          exact law_tape C0 hK hN hk hk2 hne hv hfd hfd2 hft hfa hfs hAe hP hD hS hl
      · refine lv_tableOut (tgt := 998) hx hb dL_law_33 (sw_out17 (Or.inr c_b)) (by decide) ?_
        refine lv_iinc (v := 8) (lv' := [(3, .int 8), (2, .ref q_3), (1, .ref q_1), (0, .ref b)]) hx hb dL_law_998 hl (k := 0) rfl (by decide) (by decide) rfl (fun ls hl => ?_)
        refine lv_goto (tgt := 18) hx hb dL_law_1001 (by decide) ?_
        refine lv_iload_n hx hb dL_law_18 rfl (lv_at hl 0 rfl) ?_
        refine lv_aload_n hx hb dL_law_19 rfl (lv_at hl 3 rfl) ?_
        refine va_slen hx hb hX hbl hbA hS dL_law_20 ?_
        refine lv_topn 8 rfl ?_
        refine lv_bipush (v := 8) hx hb dL_law_21 (by decide) ?_
        refine lv_isub hx hb dL_law_23 ?_
        refine lv_topn 0 (by decide) ?_
        refine lv_icmp_gt (tgt := 1004) hx hb dL_law_24 (by decide) (fun _ => ?_) (fun h => absurd (by decide) h)
        refine lv_iconst (v := 1) hx hb dL_law_1004 (by decide) ?_
        refine va_forget (hSs hS) ?_
        refine W.widen (k := 600000) (n := 7302250) (Nat.le_of_ble_eq_true rfl) (Nat.le_of_ble_eq_true rfl) ?_
        exact lw_ret hx hb hr hlocks dL_law_1005
set_option maxHeartbeats 4000000 in
theorem lw_walk (l : Launch) (b : Addr) (xs : List Int32) : MetFree l x (headSpec (Jvm.Cond.code x code maxLocals ret :: tables_1) room_1) (lw_P b xs) (fun _ _ _ _ _ => True) lw_Q := by
  refine MetFree.of_bodyS (code := code) (maxLocals := maxLocals) (ret := ret) (by decide) ?_ ?_
  · intro args s m h hn
    obtain ⟨meth, c, h1, h2, h3, h4, h5, h6, -, -⟩ := Cond.code_spec hn (atoms_spec (ws := Jvm.Cond.code x code maxLocals ret :: tables_1) h _ List.mem_cons_self)
    exact ⟨meth, c, h1, h2, h3, h4, h5, h6⟩
  · intro p e s m args below meth c s₁ B hml0 hP _
    obtain ⟨rfl, hx, hbd, hgv⟩ := hP
    obtain ⟨scr, harrAt, hlist, hof, hsmall⟩ := hx
    obtain ⟨hcb, hkn, -, -⟩ := State.arrayAt?_spec harrAt
    have hown : s.vm.findClass R_law = some m.cls := findClass_of_methodNamed B.named
    have hts0 : ∀ c ∈ (Jvm.Cond.code x code maxLocals ret :: tables_1), c.before #[Value.ref b] s = true := atoms_spec (ws := Jvm.Cond.code x code maxLocals ret :: tables_1) B.pre
    have hts : ∀ w ∈ lw_tbl, w.before #[Value.ref b] s = true := k2_hts_sels lw_privs (fun w hw => hts0 w (List.mem_cons_of_mem _ hw)) lw_privs_ok
    have hml : c.maxLocals = 4 := B.maxLocals_eq (hts0 _ List.mem_cons_self)
    have X₀ : Stand p l e room_1 s m #[Value.ref b] below meth c s₁ [] 0 0 := Stand.of_body B
    have hh0 : s₁.heap = s.heap := by rw [B.state]; rfl
    have hsz : scr.slots.size = xs.length := by rw [← Array.length_toList, hlist, List.length_map]
    have hval : ∀ j : Nat, j < xs.length → scr.slots[j]? = some (.int (xs.getD j 0)) := fun j hj => by
      rw [← Array.getElem?_toList, hlist]
      simp [hj]
    have hbl : b < s.heap.size := (Array.getElem?_eq_some_iff.mp hcb).1
    have hX : va_X b xs.length (fun j => xs.getD j 0) s s.heap := ⟨scr, hcb, hof, hkn, hsz, hval⟩
    have K : W p l e room_1 s m #[Value.ref b] below meth c s₁.heap [] 0 0 (lw_Z below #[Value.ref b] s) (entryFrame m ([Value.ref b] : List Value).toArray 4) := by
      rw [hh0]
      exact whole_start l hbd ⟨B.exec, B.bytes, B.returns, hml, hown, hts, hX, hbl, B.notSynchronized, hgv⟩
    obtain ⟨t, a1, o, b1, b2, b3⟩ := K s₁ rfl X₀
    exact ⟨t, o, a1, b1, b2, b3⟩
theorem lw_pre_spec {args : Array Value} {s : State} (h : (Jvm.Cond.and given_1 narrow_1).before args s = true) (hr : rest_1_c.before args s = true) : ∃ (b : Addr) (xs : List Int32), lw_P b xs args s := by
  have hs := flat_of_before _ h
  have hq := flat_of_before _ hr
  have hc : (Cond.count 1).before args s = true := hs _ (by decide +kernel)
  have harr : (Cond.arrayOf (.arg 0) .int).before args s = true := hs _ (by decide +kernel)
  have hle : (Cond.le (.length (.arg 0)) (.int 8)).before args s = true := hs _ (by decide +kernel)
  have hlen : (Cond.isInt (.length (.arg 0))).before args s = true := hq _ (by decide +kernel)
  have hall : (Cond.all (.arg 0) (.isInt (.elem (.arg 0) (.index 0)))).before args s = true := hq _ (by decide +kernel)
  obtain ⟨b, xs, hb, hx⟩ := State.ints_of_pre rfl harr hlen hall
  have hsm : xs.length < 2 ^ 31 := hx.choose_spec.2.2.2
  have hev : (Term.length (.arg 0)).eval args s none [] s = some (.int xs.length.toInt32) := hx.length_eval hb
  have hv := Cond.le_ints hev (show (Term.int 8).eval args s none [] s = some (.int 8) from rfl)
  have hd : xs.length.toInt32 ≤ 8 := by
    simpa [Cond.before, Cond.holds, hv] using hle
  have hN : xs.length ≤ 8 := (Int32.ofNat_le_ofNat hsm (by decide)).mp (show Int32.ofNat xs.length ≤ Int32.ofNat 8 from hd)
  exact ⟨b, xs, Cond.one_arg hc (show args[0]? = some (.ref b) from hb), hx, hN, h⟩
theorem lw_comes (l : Launch) : Comes l x (Jvm.Cond.code x code maxLocals ret :: tables_1) room_1 (fun tb e args s => Calls_1 tb e args s ∧ rest_1 tb e args s ∧ Pre_1 tb e args s)
    (fun _ _ args s o t => lw_Q args s o t) := by
  intro p e ha hc hk s m args below hf hfit hheap happ hpre
  obtain ⟨b, xs, hP⟩ := lw_pre_spec hpre.2.2 hpre.2.1
  obtain ⟨k, o, h1, h2, h3, hQ⟩ := lw_walk l b xs p e ha hc hk s m args below hf ((Spec.applies_iff_loose hf).mp happ).1 hP trivial
  exact ⟨k, o, h1, h2, h3, hQ⟩
theorem lw_frame {s t : State} {o : Outcome} {args : Array Value} (h : Framed s o t [] 600000 7302250) :
    Framed s o t (fieldLocs frame_1_writes args s ++ arrayLocs frame_1_arrays args s ++ staticLocs frame_1_statics s) 600000 7302250 := h
theorem lw_limb (L : Cond) (hL : ∀ (args : Array Value) (s t : State), L.after args s (.returned (some (.int 1))) t = true) :
    ArmFor flags0 classFile x code maxLocals ret World_1 tables_1 room_1 Calls_1 rest_1 Pre_1
      (fun tb e a s o t => postC L tb e a s o t ∧ Framed s o t (fieldLocs frame_1_writes a s ++ arrayLocs frame_1_arrays a s ++ staticLocs frame_1_statics s) 600000 7302250) := by
  intro l _ _ _ p e ha hc hk s m args below hf hfit hheap happ hpre
  obtain ⟨k, o, h1, h2, h3, rfl, hF⟩ := lw_comes l p e ha hc hk s m args below hf hfit hheap happ hpre
  exact ⟨k, _, h1, h2, h3, hL args s _, lw_frame hF⟩
theorem i_vc : Claimed_1_1 ∧ Claimed_1_2 := ⟨lw_limb limb_1_1 (fun args s t => by simp [limb_1_1, Cond.after, Cond.holds, Cond.value]), lw_limb limb_1_2 (fun args s t => Cond.after_iff.mpr (by
  first | (rw [show limb_1_2 = Cond.eq .result (.int 1) from rfl, Cond.eq_ints (x := 1) (y := 1) rfl rfl]; simp; done) | (simp [limb_1_2, Cond.value, Term.eval]; done)))⟩

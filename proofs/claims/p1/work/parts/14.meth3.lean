def w_c_empties : List Cond := .code yX5_empties cX5_empties 1 none :: (([.fieldLink RX5 46 "BeamHouse$Queue" "head" "I", .fieldLink RX5 29 "BeamHouse$Queue" "count" "I"] : List Cond) ++ wsX50)
set_option maxHeartbeats 4000000 in
set_option maxRecDepth 100000 in
theorem c_empties (l : Launch) (D : va_G) (ca : Nat → ClassId) (sz : Nat) (a : Nat → Nat)  : Met l yX5_empties w_c_empties ({ frames := 0, cells := 0, slots := 0, locals := 0 }) (Pre D ca [.ref (a 7)] [((a 7), .inr (5, [.int 0, .int 24, .int 32, .ref (a 17), .ref (a 18), .int 0]))] sz) (va_Qv (fun _ : Unit => True) (fun (_ : Unit) (tt : State) => Wd D (va_A [((a 7), .inr (5, [.int 0, .int 24, .int 32, .ref (a 17), .ref (a 18), .int 0]))] sz) [((a 7), .inr (5, [.int 0, .int 24, .int 32, .ref (a 17), .ref (a 18), .int 0]))] tt) (va_A [((a 7), .inr (5, [.int 0, .int 24, .int 32, .ref (a 17), .ref (a 18), .int 0]))] sz)) 0 0 (va_A [((a 7), .inr (5, [.int 0, .int 24, .int 32, .ref (a 17), .ref (a 18), .int 0]))] sz) := by
  refine Met.ofW (cc := cX5_empties) (maxL := 1) (ret := none) (by decide) rfl ?_
  intro p e s m args below meth c s₁ B hml hv
  obtain ⟨rfl, hsz, hP, hK, hD0, hN⟩ := hv
  have hx := B.exec
  have hb := B.bytes
  have hr := B.returns
  have hts := atoms_spec (ws := w_c_empties) B.pre
  have hown : s.vm.findClass RX5 = some m.cls := findClass_of_methodNamed B.named
  have hlocks := B.notSynchronized
  have hi_X5 : ∀ w ∈ wsX50, w ∈ w_c_empties := fun _ h => List.mem_cons_of_mem _ (List.mem_append_right _ h)
  subst hsz
  have hD := hD0.self (sz := s.heap.size)
  generalize hAe : va_A [((a 7), .inr (5, [.int 0, .int 24, .int 32, .ref (a 17), .ref (a 18), .int 0]))] s.heap.size = A at hD ⊢
  have hA : ∀ q : Nat, s.heap.size ≤ q → A q := fun q h => by rw [← hAe]; exact Or.inr h
  have hS : va_S A s.heap s.heap [] := va_S.rf
  have hP : va_P D vwCl [((a 7), .inr (5, [.int 0, .int 24, .int 32, .ref (a 17), .ref (a 18), .int 0]))] s.heap := hP
  have hl := lv_entry ([.ref (a 7)]) (n := 1) (Nat.le_of_ble_eq_true rfl)
  rw [lg_entry_eq]
  generalize (lg_sl ([.ref (a 7)]) ++ List.replicate (1 - (lg_sl ([.ref (a 7)])).length) Slot.unset).toArray = ls at hl ⊢
  have hl : lv_has ls 1 [(0, .ref (a 7))] := hl
  refine lv_aload_n hx hb dX5_empties_0 rfl (lv_at hl 0 rfl) ?_
  refine lv_iconst (v := 0) hx hb dX5_empties_1 (by decide) ?_
  refine va_put (D := D) (ci := 5) (v := .int 0) (ty := .int) (C := RX5) (T := TX5) (N := 6) hx hb hts hi_X5 tyX5 tyX5_ok nmX5 hown hK hP hD hS 0 rfl rfl 5 (by decide) (hts (.fieldLink RX5 46 "BeamHouse$Queue" "head" "I") (List.mem_of_getElem? (i := 1) rfl)) (fun _ h9 => h9) rfl (by decide +kernel) rfl rfl (Nat.le_of_ble_eq_true rfl) dX5_empties_2 (fun H locs hP hD hS => ?_)
  have hP : va_P D vwCl [((a 7), .inr (5, [.int 0, .int 24, .int 32, .ref (a 17), .ref (a 18), .int 0]))] H := hP
  have hD : va_D A [((a 7), .inr (5, [.int 0, .int 24, .int 32, .ref (a 17), .ref (a 18), .int 0]))] := hD
  refine lv_aload_n hx hb dX5_empties_5 rfl (lv_at hl 0 rfl) ?_
  refine lv_iconst (v := 0) hx hb dX5_empties_6 (by decide) ?_
  refine va_put (D := D) (ci := 5) (v := .int 0) (ty := .int) (C := RX5) (T := TX5) (N := 6) hx hb hts hi_X5 tyX5 tyX5_ok nmX5 hown hK hP hD hS 0 rfl rfl 0 (by decide) (hts (.fieldLink RX5 29 "BeamHouse$Queue" "count" "I") (List.mem_of_getElem? (i := 2) rfl)) (fun _ h9 => h9) rfl (by decide +kernel) rfl rfl (Nat.le_of_ble_eq_true rfl) dX5_empties_7 (fun H locs hP hD hS => ?_)
  have hP : va_P D vwCl [((a 7), .inr (5, [.int 0, .int 24, .int 32, .ref (a 17), .ref (a 18), .int 0]))] H := hP
  have hD : va_D A [((a 7), .inr (5, [.int 0, .int 24, .int 32, .ref (a 17), .ref (a 18), .int 0]))] := hD
  exact W.vret hx hb hr (fun tt ht hW => ⟨⟨(), rfl, trivial, ⟨by rw [ht]; exact hP.sub [0] rfl, hD.sub [0] rfl rfl⟩⟩, hS.F ht⟩) hS.2.2 dX5_empties_10
def w_c_clears : List Cond := .code yX3_clears cX3_clears 1 none :: (([.fieldLink RX3 14 "BeamHouse$Link" "parts" "LBeamHouse$Queue;", .code yX5_empties cX5_empties 1 none, .fieldLink RX5 46 "BeamHouse$Queue" "head" "I", .fieldLink RX5 29 "BeamHouse$Queue" "count" "I", .methodLink RX3 33 yX5_empties, .instanceMethod yX5_empties, .selects RX5 yX5_empties yX5_empties, .initialized RX5, .fieldLink RX3 23 "BeamHouse$Link" "number" "I", .fieldLink RX3 27 "BeamHouse$Link" "window" "I", .fieldLink RX3 30 "BeamHouse$Link" "other" "I", .fieldLink RX3 36 "BeamHouse$Link" "sentFrom" "I", .fieldLink RX3 39 "BeamHouse$Link" "taken" "I", .fieldLink RX3 42 "BeamHouse$Link" "sent" "I", .fieldLink RX3 45 "BeamHouse$Link" "ticks" "I", .fieldLink RX3 48 "BeamHouse$Link" "hasTurn" "Z", .fieldLink RX3 52 "BeamHouse$Link" "hasTakenData" "Z", .fieldLink RX3 55 "BeamHouse$Link" "hasMissed" "Z", .fieldLink RX3 58 "BeamHouse$Link" "endWished" "Z", .fieldLink RX3 61 "BeamHouse$Link" "endSent" "Z", .fieldLink RX3 64 "BeamHouse$Link" "endIsLatest" "Z"] : List Cond) ++ wsX30 ++ wsX50)
theorem g_c_clears_c_empties_33 : GoodIn w_c_clears (wsV RX3 33 RX5 yX5_empties w_c_empties) := (goodIn_app (goodIn_r _ [5, 6, 7, 8] rfl rfl) (goodIn_ca (goodIn_r _ [2, 3, 4] rfl rfl) (goodIn_sub (fun _ h => List.mem_cons_of_mem _ (List.mem_append_right _ h)) gw_X5)))
set_option maxHeartbeats 4000000 in
set_option maxRecDepth 100000 in
theorem c_clears (l : Launch) (D : va_G) (ca : Nat → ClassId) (sz : Nat) (a : Nat → Nat)  : Met l yX3_clears w_c_clears ({ frames := 1, cells := 0, slots := 0, locals := 20 }) (Pre D ca [.ref (a 6)] [((a 6), .inr (3, [.ref (a 7), .int 0, .int 0, .int 0, .int 0, .int 0, .int 0, .int 0, .int 0, .int 0, .int 0, .int 0, .int 0, .int 0])), ((a 7), .inr (5, [.int 0, .int 24, .int 32, .ref (a 17), .ref (a 18), .int 0]))] sz) (va_Qv (fun _ : Unit => True) (fun (_ : Unit) (tt : State) => Wd D (va_A [((a 6), .inr (3, [.ref (a 7), .int 0, .int 0, .int 0, .int 0, .int 0, .int 0, .int 0, .int 0, .int 0, .int 0, .int 0, .int 0, .int 0])), ((a 7), .inr (5, [.int 0, .int 24, .int 32, .ref (a 17), .ref (a 18), .int 0]))] sz) [((a 6), .inr (3, [.ref (a 7), .int 0, .int 0, .int 0, .int 0, .int 0, .int 0, .int 0, .int 0, .int 0, .int 0, .int 0, .int 0, .int 0])), ((a 7), .inr (5, [.int 0, .int 24, .int 32, .ref (a 17), .ref (a 18), .int 0]))] tt) (va_A [((a 6), .inr (3, [.ref (a 7), .int 0, .int 0, .int 0, .int 0, .int 0, .int 0, .int 0, .int 0, .int 0, .int 0, .int 0, .int 0, .int 0])), ((a 7), .inr (5, [.int 0, .int 24, .int 32, .ref (a 17), .ref (a 18), .int 0]))] sz)) 0 0 (va_A [((a 6), .inr (3, [.ref (a 7), .int 0, .int 0, .int 0, .int 0, .int 0, .int 0, .int 0, .int 0, .int 0, .int 0, .int 0, .int 0, .int 0])), ((a 7), .inr (5, [.int 0, .int 24, .int 32, .ref (a 17), .ref (a 18), .int 0]))] sz) := by
  refine Met.ofW (cc := cX3_clears) (maxL := 1) (ret := none) (by decide) rfl ?_
  intro p e s m args below meth c s₁ B hml hv
  obtain ⟨rfl, hsz, hP, hK, hD0, hN⟩ := hv
  have hx := B.exec
  have hb := B.bytes
  have hr := B.returns
  have hts := atoms_spec (ws := w_c_clears) B.pre
  have hown : s.vm.findClass RX3 = some m.cls := findClass_of_methodNamed B.named
  have hlocks := B.notSynchronized
  have hi_X3 : ∀ w ∈ wsX30, w ∈ w_c_clears := fun _ h => List.mem_cons_of_mem _ (List.mem_append_left _ (List.mem_append_right _ h))
  have hi_X5 : ∀ w ∈ wsX50, w ∈ w_c_clears := fun _ h => List.mem_cons_of_mem _ (List.mem_append_right _ h)
  subst hsz
  have hD := hD0.self (sz := s.heap.size)
  generalize hAe : va_A [((a 6), .inr (3, [.ref (a 7), .int 0, .int 0, .int 0, .int 0, .int 0, .int 0, .int 0, .int 0, .int 0, .int 0, .int 0, .int 0, .int 0])), ((a 7), .inr (5, [.int 0, .int 24, .int 32, .ref (a 17), .ref (a 18), .int 0]))] s.heap.size = A at hD ⊢
  have hA : ∀ q : Nat, s.heap.size ≤ q → A q := fun q h => by rw [← hAe]; exact Or.inr h
  have hS : va_S A s.heap s.heap [] := va_S.rf
  have hP : va_P D vwCl [((a 6), .inr (3, [.ref (a 7), .int 0, .int 0, .int 0, .int 0, .int 0, .int 0, .int 0, .int 0, .int 0, .int 0, .int 0, .int 0, .int 0])), ((a 7), .inr (5, [.int 0, .int 24, .int 32, .ref (a 17), .ref (a 18), .int 0]))] s.heap := hP
  have hl := lv_entry ([.ref (a 6)]) (n := 1) (Nat.le_of_ble_eq_true rfl)
  rw [lg_entry_eq]
  generalize (lg_sl ([.ref (a 6)]) ++ List.replicate (1 - (lg_sl ([.ref (a 6)])).length) Slot.unset).toArray = ls at hl ⊢
  have hl : lv_has ls 1 [(0, .ref (a 6))] := hl
  refine lv_aload_n hx hb dX3_clears_0 rfl (lv_at hl 0 rfl) ?_
  refine va_get (D := D) (ci := 3) (v := .ref (a 7)) (C := RX3) (T := TX3) (N := 14) hx hb hts hi_X3 hown hK hP 0 rfl rfl 0 (by decide) (hts (.fieldLink RX3 14 "BeamHouse$Link" "parts" "LBeamHouse$Queue;") (List.mem_of_getElem? (i := 1) rfl)) (fun _ h9 => h9) rfl dX3_clears_1 ?_
  refine kGo_v (wr := [((a 6), .inr (3, [.ref (a 7), .int 0, .int 0, .int 0, .int 0, .int 0, .int 0, .int 0, .int 0, .int 0, .int 0, .int 0, .int 0, .int 0]))]) (kRunV (As := []) (rest := []) ⟨hx, hb, hml, hown, hts⟩ (c_empties l D ca _ a) (cwV 0 hts g_c_clears_c_empties_33 rfl rfl rfl (by decide +kernel) ⟨Nat.le_of_ble_eq_true rfl, Nat.le_of_ble_eq_true rfl⟩) hK hN hP hD [1] rfl rfl rfl rfl rfl rfl hl.1 rfl (Nat.le_of_ble_eq_true rfl) dX3_clears_4 ⟨Nat.le_of_ble_eq_true rfl, Nat.le_of_ble_eq_true rfl⟩) hP hD hS hA [1] [0] rfl rfl rfl (by decide) (fun uu_ tt H locs hr_1 hB hj hS => ?_)
  have hWd := hB
  obtain ⟨hP, hD⟩ := hj _ hWd
  have hP : va_P D vwCl [((a 6), .inr (3, [.ref (a 7), .int 0, .int 0, .int 0, .int 0, .int 0, .int 0, .int 0, .int 0, .int 0, .int 0, .int 0, .int 0, .int 0])), ((a 7), .inr (5, [.int 0, .int 24, .int 32, .ref (a 17), .ref (a 18), .int 0]))] H := hP
  have hD : va_D A [((a 6), .inr (3, [.ref (a 7), .int 0, .int 0, .int 0, .int 0, .int 0, .int 0, .int 0, .int 0, .int 0, .int 0, .int 0, .int 0, .int 0])), ((a 7), .inr (5, [.int 0, .int 24, .int 32, .ref (a 17), .ref (a 18), .int 0]))] := hD
  refine lv_aload_n hx hb dX3_clears_7 rfl (lv_at hl 0 rfl) ?_
  refine lv_iconst (v := 0) hx hb dX3_clears_8 (by decide) ?_
  refine va_put (D := D) (ci := 3) (v := .int 0) (ty := .int) (C := RX3) (T := TX3) (N := 14) hx hb hts hi_X3 tyX3 tyX3_ok nmX3 hown hK hP hD hS 0 rfl rfl 1 (by decide) (hts (.fieldLink RX3 23 "BeamHouse$Link" "number" "I") (List.mem_of_getElem? (i := 9) rfl)) (fun _ h9 => h9) rfl (by decide +kernel) rfl rfl (Nat.le_of_ble_eq_true rfl) dX3_clears_9 (fun H locs hP hD hS => ?_)
  have hP : va_P D vwCl [((a 6), .inr (3, [.ref (a 7), .int 0, .int 0, .int 0, .int 0, .int 0, .int 0, .int 0, .int 0, .int 0, .int 0, .int 0, .int 0, .int 0])), ((a 7), .inr (5, [.int 0, .int 24, .int 32, .ref (a 17), .ref (a 18), .int 0]))] H := hP
  have hD : va_D A [((a 6), .inr (3, [.ref (a 7), .int 0, .int 0, .int 0, .int 0, .int 0, .int 0, .int 0, .int 0, .int 0, .int 0, .int 0, .int 0, .int 0])), ((a 7), .inr (5, [.int 0, .int 24, .int 32, .ref (a 17), .ref (a 18), .int 0]))] := hD
  refine lv_aload_n hx hb dX3_clears_12 rfl (lv_at hl 0 rfl) ?_
  refine lv_iconst (v := 0) hx hb dX3_clears_13 (by decide) ?_
  refine va_put (D := D) (ci := 3) (v := .int 0) (ty := .int) (C := RX3) (T := TX3) (N := 14) hx hb hts hi_X3 tyX3 tyX3_ok nmX3 hown hK hP hD hS 0 rfl rfl 2 (by decide) (hts (.fieldLink RX3 27 "BeamHouse$Link" "window" "I") (List.mem_of_getElem? (i := 10) rfl)) (fun _ h9 => h9) rfl (by decide +kernel) rfl rfl (Nat.le_of_ble_eq_true rfl) dX3_clears_14 (fun H locs hP hD hS => ?_)
  have hP : va_P D vwCl [((a 6), .inr (3, [.ref (a 7), .int 0, .int 0, .int 0, .int 0, .int 0, .int 0, .int 0, .int 0, .int 0, .int 0, .int 0, .int 0, .int 0])), ((a 7), .inr (5, [.int 0, .int 24, .int 32, .ref (a 17), .ref (a 18), .int 0]))] H := hP
  have hD : va_D A [((a 6), .inr (3, [.ref (a 7), .int 0, .int 0, .int 0, .int 0, .int 0, .int 0, .int 0, .int 0, .int 0, .int 0, .int 0, .int 0, .int 0])), ((a 7), .inr (5, [.int 0, .int 24, .int 32, .ref (a 17), .ref (a 18), .int 0]))] := hD
  refine lv_aload_n hx hb dX3_clears_17 rfl (lv_at hl 0 rfl) ?_
  refine lv_iconst (v := 0) hx hb dX3_clears_18 (by decide) ?_
  refine va_put (D := D) (ci := 3) (v := .int 0) (ty := .int) (C := RX3) (T := TX3) (N := 14) hx hb hts hi_X3 tyX3 tyX3_ok nmX3 hown hK hP hD hS 0 rfl rfl 3 (by decide) (hts (.fieldLink RX3 30 "BeamHouse$Link" "other" "I") (List.mem_of_getElem? (i := 11) rfl)) (fun _ h9 => h9) rfl (by decide +kernel) rfl rfl (Nat.le_of_ble_eq_true rfl) dX3_clears_19 (fun H locs hP hD hS => ?_)
  have hP : va_P D vwCl [((a 6), .inr (3, [.ref (a 7), .int 0, .int 0, .int 0, .int 0, .int 0, .int 0, .int 0, .int 0, .int 0, .int 0, .int 0, .int 0, .int 0])), ((a 7), .inr (5, [.int 0, .int 24, .int 32, .ref (a 17), .ref (a 18), .int 0]))] H := hP
  have hD : va_D A [((a 6), .inr (3, [.ref (a 7), .int 0, .int 0, .int 0, .int 0, .int 0, .int 0, .int 0, .int 0, .int 0, .int 0, .int 0, .int 0, .int 0])), ((a 7), .inr (5, [.int 0, .int 24, .int 32, .ref (a 17), .ref (a 18), .int 0]))] := hD
  refine lv_aload_n hx hb dX3_clears_22 rfl (lv_at hl 0 rfl) ?_
  refine lv_iconst (v := 0) hx hb dX3_clears_23 (by decide) ?_
  refine va_put (D := D) (ci := 3) (v := .int 0) (ty := .int) (C := RX3) (T := TX3) (N := 14) hx hb hts hi_X3 tyX3 tyX3_ok nmX3 hown hK hP hD hS 0 rfl rfl 4 (by decide) (hts (.fieldLink RX3 36 "BeamHouse$Link" "sentFrom" "I") (List.mem_of_getElem? (i := 12) rfl)) (fun _ h9 => h9) rfl (by decide +kernel) rfl rfl (Nat.le_of_ble_eq_true rfl) dX3_clears_24 (fun H locs hP hD hS => ?_)
  have hP : va_P D vwCl [((a 6), .inr (3, [.ref (a 7), .int 0, .int 0, .int 0, .int 0, .int 0, .int 0, .int 0, .int 0, .int 0, .int 0, .int 0, .int 0, .int 0])), ((a 7), .inr (5, [.int 0, .int 24, .int 32, .ref (a 17), .ref (a 18), .int 0]))] H := hP
  have hD : va_D A [((a 6), .inr (3, [.ref (a 7), .int 0, .int 0, .int 0, .int 0, .int 0, .int 0, .int 0, .int 0, .int 0, .int 0, .int 0, .int 0, .int 0])), ((a 7), .inr (5, [.int 0, .int 24, .int 32, .ref (a 17), .ref (a 18), .int 0]))] := hD
  refine lv_aload_n hx hb dX3_clears_27 rfl (lv_at hl 0 rfl) ?_
  refine lv_iconst (v := 0) hx hb dX3_clears_28 (by decide) ?_
  refine va_put (D := D) (ci := 3) (v := .int 0) (ty := .int) (C := RX3) (T := TX3) (N := 14) hx hb hts hi_X3 tyX3 tyX3_ok nmX3 hown hK hP hD hS 0 rfl rfl 5 (by decide) (hts (.fieldLink RX3 39 "BeamHouse$Link" "taken" "I") (List.mem_of_getElem? (i := 13) rfl)) (fun _ h9 => h9) rfl (by decide +kernel) rfl rfl (Nat.le_of_ble_eq_true rfl) dX3_clears_29 (fun H locs hP hD hS => ?_)
  have hP : va_P D vwCl [((a 6), .inr (3, [.ref (a 7), .int 0, .int 0, .int 0, .int 0, .int 0, .int 0, .int 0, .int 0, .int 0, .int 0, .int 0, .int 0, .int 0])), ((a 7), .inr (5, [.int 0, .int 24, .int 32, .ref (a 17), .ref (a 18), .int 0]))] H := hP
  have hD : va_D A [((a 6), .inr (3, [.ref (a 7), .int 0, .int 0, .int 0, .int 0, .int 0, .int 0, .int 0, .int 0, .int 0, .int 0, .int 0, .int 0, .int 0])), ((a 7), .inr (5, [.int 0, .int 24, .int 32, .ref (a 17), .ref (a 18), .int 0]))] := hD
  refine lv_aload_n hx hb dX3_clears_32 rfl (lv_at hl 0 rfl) ?_
  refine lv_iconst (v := 0) hx hb dX3_clears_33 (by decide) ?_
  refine va_put (D := D) (ci := 3) (v := .int 0) (ty := .int) (C := RX3) (T := TX3) (N := 14) hx hb hts hi_X3 tyX3 tyX3_ok nmX3 hown hK hP hD hS 0 rfl rfl 6 (by decide) (hts (.fieldLink RX3 42 "BeamHouse$Link" "sent" "I") (List.mem_of_getElem? (i := 14) rfl)) (fun _ h9 => h9) rfl (by decide +kernel) rfl rfl (Nat.le_of_ble_eq_true rfl) dX3_clears_34 (fun H locs hP hD hS => ?_)
  have hP : va_P D vwCl [((a 6), .inr (3, [.ref (a 7), .int 0, .int 0, .int 0, .int 0, .int 0, .int 0, .int 0, .int 0, .int 0, .int 0, .int 0, .int 0, .int 0])), ((a 7), .inr (5, [.int 0, .int 24, .int 32, .ref (a 17), .ref (a 18), .int 0]))] H := hP
  have hD : va_D A [((a 6), .inr (3, [.ref (a 7), .int 0, .int 0, .int 0, .int 0, .int 0, .int 0, .int 0, .int 0, .int 0, .int 0, .int 0, .int 0, .int 0])), ((a 7), .inr (5, [.int 0, .int 24, .int 32, .ref (a 17), .ref (a 18), .int 0]))] := hD
  refine lv_aload_n hx hb dX3_clears_37 rfl (lv_at hl 0 rfl) ?_
  refine lv_iconst (v := 0) hx hb dX3_clears_38 (by decide) ?_
  refine va_put (D := D) (ci := 3) (v := .int 0) (ty := .int) (C := RX3) (T := TX3) (N := 14) hx hb hts hi_X3 tyX3 tyX3_ok nmX3 hown hK hP hD hS 0 rfl rfl 7 (by decide) (hts (.fieldLink RX3 45 "BeamHouse$Link" "ticks" "I") (List.mem_of_getElem? (i := 15) rfl)) (fun _ h9 => h9) rfl (by decide +kernel) rfl rfl (Nat.le_of_ble_eq_true rfl) dX3_clears_39 (fun H locs hP hD hS => ?_)
  have hP : va_P D vwCl [((a 6), .inr (3, [.ref (a 7), .int 0, .int 0, .int 0, .int 0, .int 0, .int 0, .int 0, .int 0, .int 0, .int 0, .int 0, .int 0, .int 0])), ((a 7), .inr (5, [.int 0, .int 24, .int 32, .ref (a 17), .ref (a 18), .int 0]))] H := hP
  have hD : va_D A [((a 6), .inr (3, [.ref (a 7), .int 0, .int 0, .int 0, .int 0, .int 0, .int 0, .int 0, .int 0, .int 0, .int 0, .int 0, .int 0, .int 0])), ((a 7), .inr (5, [.int 0, .int 24, .int 32, .ref (a 17), .ref (a 18), .int 0]))] := hD
  refine lv_aload_n hx hb dX3_clears_42 rfl (lv_at hl 0 rfl) ?_
  refine lv_iconst (v := 0) hx hb dX3_clears_43 (by decide) ?_
  refine va_put (D := D) (ci := 3) (v := .int 0) (ty := .boolean) (C := RX3) (T := TX3) (N := 14) hx hb hts hi_X3 tyX3 tyX3_ok nmX3 hown hK hP hD hS 0 rfl rfl 8 (by decide) (hts (.fieldLink RX3 48 "BeamHouse$Link" "hasTurn" "Z") (List.mem_of_getElem? (i := 16) rfl)) (fun _ h9 => h9) rfl (by decide +kernel) rfl rfl (Nat.le_of_ble_eq_true rfl) dX3_clears_44 (fun H locs hP hD hS => ?_)
  have hP : va_P D vwCl [((a 6), .inr (3, [.ref (a 7), .int 0, .int 0, .int 0, .int 0, .int 0, .int 0, .int 0, .int 0, .int 0, .int 0, .int 0, .int 0, .int 0])), ((a 7), .inr (5, [.int 0, .int 24, .int 32, .ref (a 17), .ref (a 18), .int 0]))] H := hP
  have hD : va_D A [((a 6), .inr (3, [.ref (a 7), .int 0, .int 0, .int 0, .int 0, .int 0, .int 0, .int 0, .int 0, .int 0, .int 0, .int 0, .int 0, .int 0])), ((a 7), .inr (5, [.int 0, .int 24, .int 32, .ref (a 17), .ref (a 18), .int 0]))] := hD
  refine lv_aload_n hx hb dX3_clears_47 rfl (lv_at hl 0 rfl) ?_
  refine lv_iconst (v := 0) hx hb dX3_clears_48 (by decide) ?_
  refine va_put (D := D) (ci := 3) (v := .int 0) (ty := .boolean) (C := RX3) (T := TX3) (N := 14) hx hb hts hi_X3 tyX3 tyX3_ok nmX3 hown hK hP hD hS 0 rfl rfl 9 (by decide) (hts (.fieldLink RX3 52 "BeamHouse$Link" "hasTakenData" "Z") (List.mem_of_getElem? (i := 17) rfl)) (fun _ h9 => h9) rfl (by decide +kernel) rfl rfl (Nat.le_of_ble_eq_true rfl) dX3_clears_49 (fun H locs hP hD hS => ?_)
  have hP : va_P D vwCl [((a 6), .inr (3, [.ref (a 7), .int 0, .int 0, .int 0, .int 0, .int 0, .int 0, .int 0, .int 0, .int 0, .int 0, .int 0, .int 0, .int 0])), ((a 7), .inr (5, [.int 0, .int 24, .int 32, .ref (a 17), .ref (a 18), .int 0]))] H := hP
  have hD : va_D A [((a 6), .inr (3, [.ref (a 7), .int 0, .int 0, .int 0, .int 0, .int 0, .int 0, .int 0, .int 0, .int 0, .int 0, .int 0, .int 0, .int 0])), ((a 7), .inr (5, [.int 0, .int 24, .int 32, .ref (a 17), .ref (a 18), .int 0]))] := hD
  refine lv_aload_n hx hb dX3_clears_52 rfl (lv_at hl 0 rfl) ?_
  refine lv_iconst (v := 0) hx hb dX3_clears_53 (by decide) ?_
  refine va_put (D := D) (ci := 3) (v := .int 0) (ty := .boolean) (C := RX3) (T := TX3) (N := 14) hx hb hts hi_X3 tyX3 tyX3_ok nmX3 hown hK hP hD hS 0 rfl rfl 10 (by decide) (hts (.fieldLink RX3 55 "BeamHouse$Link" "hasMissed" "Z") (List.mem_of_getElem? (i := 18) rfl)) (fun _ h9 => h9) rfl (by decide +kernel) rfl rfl (Nat.le_of_ble_eq_true rfl) dX3_clears_54 (fun H locs hP hD hS => ?_)
  have hP : va_P D vwCl [((a 6), .inr (3, [.ref (a 7), .int 0, .int 0, .int 0, .int 0, .int 0, .int 0, .int 0, .int 0, .int 0, .int 0, .int 0, .int 0, .int 0])), ((a 7), .inr (5, [.int 0, .int 24, .int 32, .ref (a 17), .ref (a 18), .int 0]))] H := hP
  have hD : va_D A [((a 6), .inr (3, [.ref (a 7), .int 0, .int 0, .int 0, .int 0, .int 0, .int 0, .int 0, .int 0, .int 0, .int 0, .int 0, .int 0, .int 0])), ((a 7), .inr (5, [.int 0, .int 24, .int 32, .ref (a 17), .ref (a 18), .int 0]))] := hD
  refine lv_aload_n hx hb dX3_clears_57 rfl (lv_at hl 0 rfl) ?_
  refine lv_iconst (v := 0) hx hb dX3_clears_58 (by decide) ?_
  refine va_put (D := D) (ci := 3) (v := .int 0) (ty := .boolean) (C := RX3) (T := TX3) (N := 14) hx hb hts hi_X3 tyX3 tyX3_ok nmX3 hown hK hP hD hS 0 rfl rfl 11 (by decide) (hts (.fieldLink RX3 58 "BeamHouse$Link" "endWished" "Z") (List.mem_of_getElem? (i := 19) rfl)) (fun _ h9 => h9) rfl (by decide +kernel) rfl rfl (Nat.le_of_ble_eq_true rfl) dX3_clears_59 (fun H locs hP hD hS => ?_)
  have hP : va_P D vwCl [((a 6), .inr (3, [.ref (a 7), .int 0, .int 0, .int 0, .int 0, .int 0, .int 0, .int 0, .int 0, .int 0, .int 0, .int 0, .int 0, .int 0])), ((a 7), .inr (5, [.int 0, .int 24, .int 32, .ref (a 17), .ref (a 18), .int 0]))] H := hP
  have hD : va_D A [((a 6), .inr (3, [.ref (a 7), .int 0, .int 0, .int 0, .int 0, .int 0, .int 0, .int 0, .int 0, .int 0, .int 0, .int 0, .int 0, .int 0])), ((a 7), .inr (5, [.int 0, .int 24, .int 32, .ref (a 17), .ref (a 18), .int 0]))] := hD
  refine lv_aload_n hx hb dX3_clears_62 rfl (lv_at hl 0 rfl) ?_
  refine lv_iconst (v := 0) hx hb dX3_clears_63 (by decide) ?_
  refine va_put (D := D) (ci := 3) (v := .int 0) (ty := .boolean) (C := RX3) (T := TX3) (N := 14) hx hb hts hi_X3 tyX3 tyX3_ok nmX3 hown hK hP hD hS 0 rfl rfl 12 (by decide) (hts (.fieldLink RX3 61 "BeamHouse$Link" "endSent" "Z") (List.mem_of_getElem? (i := 20) rfl)) (fun _ h9 => h9) rfl (by decide +kernel) rfl rfl (Nat.le_of_ble_eq_true rfl) dX3_clears_64 (fun H locs hP hD hS => ?_)
  have hP : va_P D vwCl [((a 6), .inr (3, [.ref (a 7), .int 0, .int 0, .int 0, .int 0, .int 0, .int 0, .int 0, .int 0, .int 0, .int 0, .int 0, .int 0, .int 0])), ((a 7), .inr (5, [.int 0, .int 24, .int 32, .ref (a 17), .ref (a 18), .int 0]))] H := hP
  have hD : va_D A [((a 6), .inr (3, [.ref (a 7), .int 0, .int 0, .int 0, .int 0, .int 0, .int 0, .int 0, .int 0, .int 0, .int 0, .int 0, .int 0, .int 0])), ((a 7), .inr (5, [.int 0, .int 24, .int 32, .ref (a 17), .ref (a 18), .int 0]))] := hD
  refine lv_aload_n hx hb dX3_clears_67 rfl (lv_at hl 0 rfl) ?_
  refine lv_iconst (v := 0) hx hb dX3_clears_68 (by decide) ?_
  refine va_put (D := D) (ci := 3) (v := .int 0) (ty := .boolean) (C := RX3) (T := TX3) (N := 14) hx hb hts hi_X3 tyX3 tyX3_ok nmX3 hown hK hP hD hS 0 rfl rfl 13 (by decide) (hts (.fieldLink RX3 64 "BeamHouse$Link" "endIsLatest" "Z") (List.mem_of_getElem? (i := 21) rfl)) (fun _ h9 => h9) rfl (by decide +kernel) rfl rfl (Nat.le_of_ble_eq_true rfl) dX3_clears_69 (fun H locs hP hD hS => ?_)
  have hP : va_P D vwCl [((a 6), .inr (3, [.ref (a 7), .int 0, .int 0, .int 0, .int 0, .int 0, .int 0, .int 0, .int 0, .int 0, .int 0, .int 0, .int 0, .int 0])), ((a 7), .inr (5, [.int 0, .int 24, .int 32, .ref (a 17), .ref (a 18), .int 0]))] H := hP
  have hD : va_D A [((a 6), .inr (3, [.ref (a 7), .int 0, .int 0, .int 0, .int 0, .int 0, .int 0, .int 0, .int 0, .int 0, .int 0, .int 0, .int 0, .int 0])), ((a 7), .inr (5, [.int 0, .int 24, .int 32, .ref (a 17), .ref (a 18), .int 0]))] := hD
  exact W.vret hx hb hr (fun tt ht hW => ⟨⟨(), rfl, trivial, ⟨by rw [ht]; exact hP.sub [0, 1] rfl, hD.sub [0, 1] rfl rfl⟩⟩, hS.F ht⟩) hS.2.2 dX3_clears_72
def w_c_link_begins : List Cond := .code yX3_begins cX3_begins 4 none :: (([.code yX3_clears cX3_clears 1 none, .fieldLink RX3 14 "BeamHouse$Link" "parts" "LBeamHouse$Queue;", .code yX5_empties cX5_empties 1 none, .fieldLink RX5 46 "BeamHouse$Queue" "head" "I", .fieldLink RX5 29 "BeamHouse$Queue" "count" "I", .methodLink RX3 33 yX5_empties, .instanceMethod yX5_empties, .selects RX5 yX5_empties yX5_empties, .initialized RX5, .fieldLink RX3 23 "BeamHouse$Link" "number" "I", .fieldLink RX3 27 "BeamHouse$Link" "window" "I", .fieldLink RX3 30 "BeamHouse$Link" "other" "I", .fieldLink RX3 36 "BeamHouse$Link" "sentFrom" "I", .fieldLink RX3 39 "BeamHouse$Link" "taken" "I", .fieldLink RX3 42 "BeamHouse$Link" "sent" "I", .fieldLink RX3 45 "BeamHouse$Link" "ticks" "I", .fieldLink RX3 48 "BeamHouse$Link" "hasTurn" "Z", .fieldLink RX3 52 "BeamHouse$Link" "hasTakenData" "Z", .fieldLink RX3 55 "BeamHouse$Link" "hasMissed" "Z", .fieldLink RX3 58 "BeamHouse$Link" "endWished" "Z", .fieldLink RX3 61 "BeamHouse$Link" "endSent" "Z", .fieldLink RX3 64 "BeamHouse$Link" "endIsLatest" "Z", .methodLink RX3 20 yX3_clears, .instanceMethod yX3_clears, .selects RX3 yX3_clears yX3_clears, .initialized RX3] : List Cond) ++ wsX30 ++ wsX50)
theorem g_c_link_begins_c_clears_20 : GoodIn w_c_link_begins (wsV RX3 20 RX3 yX3_clears w_c_clears) := (goodIn_app (goodIn_r _ [23, 24, 25, 26] rfl rfl) (goodIn_ca (goodIn_ca (goodIn_r _ [1, 2, 3, 4, 5, 6, 7, 8, 9, 10, 11, 12, 13, 14, 15, 16, 17, 18, 19, 20, 21, 22] rfl rfl) (goodIn_sub (fun _ h => List.mem_cons_of_mem _ (List.mem_append_left _ (List.mem_append_right _ h))) gw_X3)) (goodIn_sub (fun _ h => List.mem_cons_of_mem _ (List.mem_append_right _ h)) gw_X5)))
set_option maxHeartbeats 4000000 in
set_option maxRecDepth 100000 in
theorem c_link_begins (l : Launch) (D : va_G) (ca : Nat → ClassId) (sz : Nat) (a : Nat → Nat) (nb : Int32) (wd : Int32) (ot : Int32)  : Met l yX3_begins w_c_link_begins ({ frames := 2, cells := 0, slots := 0, locals := 40 }) (Pre D ca [.ref (a 6), .int nb, .int wd, .int ot] [((a 6), .inr (3, [.ref (a 7), .int 0, .int 0, .int 0, .int 0, .int 0, .int 0, .int 0, .int 0, .int 0, .int 0, .int 0, .int 0, .int 0])), ((a 7), .inr (5, [.int 0, .int 24, .int 32, .ref (a 17), .ref (a 18), .int 0]))] sz) (va_Qv (fun _ : Unit => True) (fun (_ : Unit) (tt : State) => Wd D (va_A [((a 6), .inr (3, [.ref (a 7), .int 0, .int 0, .int 0, .int 0, .int 0, .int 0, .int 0, .int 0, .int 0, .int 0, .int 0, .int 0, .int 0])), ((a 7), .inr (5, [.int 0, .int 24, .int 32, .ref (a 17), .ref (a 18), .int 0]))] sz) [((a 6), .inr (3, [.ref (a 7), .int nb, .int wd, .int ot, .int 0, .int 0, .int 0, .int 0, .int 0, .int 0, .int 0, .int 0, .int 0, .int 0])), ((a 7), .inr (5, [.int 0, .int 24, .int 32, .ref (a 17), .ref (a 18), .int 0]))] tt) (va_A [((a 6), .inr (3, [.ref (a 7), .int 0, .int 0, .int 0, .int 0, .int 0, .int 0, .int 0, .int 0, .int 0, .int 0, .int 0, .int 0, .int 0])), ((a 7), .inr (5, [.int 0, .int 24, .int 32, .ref (a 17), .ref (a 18), .int 0]))] sz)) 0 0 (va_A [((a 6), .inr (3, [.ref (a 7), .int 0, .int 0, .int 0, .int 0, .int 0, .int 0, .int 0, .int 0, .int 0, .int 0, .int 0, .int 0, .int 0])), ((a 7), .inr (5, [.int 0, .int 24, .int 32, .ref (a 17), .ref (a 18), .int 0]))] sz) := by
  refine Met.ofW (cc := cX3_begins) (maxL := 4) (ret := none) (by decide) rfl ?_
  intro p e s m args below meth c s₁ B hml hv
  obtain ⟨rfl, hsz, hP, hK, hD0, hN⟩ := hv
  have hx := B.exec
  have hb := B.bytes
  have hr := B.returns
  have hts := atoms_spec (ws := w_c_link_begins) B.pre
  have hown : s.vm.findClass RX3 = some m.cls := findClass_of_methodNamed B.named
  have hlocks := B.notSynchronized
  have hi_X3 : ∀ w ∈ wsX30, w ∈ w_c_link_begins := fun _ h => List.mem_cons_of_mem _ (List.mem_append_left _ (List.mem_append_right _ h))
  have hi_X5 : ∀ w ∈ wsX50, w ∈ w_c_link_begins := fun _ h => List.mem_cons_of_mem _ (List.mem_append_right _ h)
  subst hsz
  have hD := hD0.self (sz := s.heap.size)
  generalize hAe : va_A [((a 6), .inr (3, [.ref (a 7), .int 0, .int 0, .int 0, .int 0, .int 0, .int 0, .int 0, .int 0, .int 0, .int 0, .int 0, .int 0, .int 0])), ((a 7), .inr (5, [.int 0, .int 24, .int 32, .ref (a 17), .ref (a 18), .int 0]))] s.heap.size = A at hD ⊢
  have hA : ∀ q : Nat, s.heap.size ≤ q → A q := fun q h => by rw [← hAe]; exact Or.inr h
  have hS : va_S A s.heap s.heap [] := va_S.rf
  have hP : va_P D vwCl [((a 6), .inr (3, [.ref (a 7), .int 0, .int 0, .int 0, .int 0, .int 0, .int 0, .int 0, .int 0, .int 0, .int 0, .int 0, .int 0, .int 0])), ((a 7), .inr (5, [.int 0, .int 24, .int 32, .ref (a 17), .ref (a 18), .int 0]))] s.heap := hP
  have hl := lv_entry ([.ref (a 6), .int nb, .int wd, .int ot]) (n := 4) (Nat.le_of_ble_eq_true rfl)
  rw [lg_entry_eq]
  generalize (lg_sl ([.ref (a 6), .int nb, .int wd, .int ot]) ++ List.replicate (4 - (lg_sl ([.ref (a 6), .int nb, .int wd, .int ot])).length) Slot.unset).toArray = ls at hl ⊢
  have hl : lv_has ls 4 [(0, .ref (a 6)), (1, .int nb), (2, .int wd), (3, .int ot)] := hl
  refine lv_aload_n hx hb dX3_begins_0 rfl (lv_at hl 0 rfl) ?_
  refine kGo_v (wr := []) (kRunV (As := []) (rest := []) ⟨hx, hb, hml, hown, hts⟩ (c_clears l D ca _ a) (cwV 0 hts g_c_link_begins_c_clears_20 rfl rfl rfl (by decide +kernel) ⟨Nat.le_of_ble_eq_true rfl, Nat.le_of_ble_eq_true rfl⟩) hK hN hP hD [0, 1] rfl rfl rfl rfl rfl rfl hl.1 rfl (Nat.le_of_ble_eq_true rfl) dX3_begins_1 ⟨Nat.le_of_ble_eq_true rfl, Nat.le_of_ble_eq_true rfl⟩) hP hD hS hA [0, 1] [] rfl rfl rfl (by decide) (fun uu_ tt H locs hr_1 hB hj hS => ?_)
  have hWd := hB
  obtain ⟨hP, hD⟩ := hj _ hWd
  have hP : va_P D vwCl [((a 6), .inr (3, [.ref (a 7), .int 0, .int 0, .int 0, .int 0, .int 0, .int 0, .int 0, .int 0, .int 0, .int 0, .int 0, .int 0, .int 0])), ((a 7), .inr (5, [.int 0, .int 24, .int 32, .ref (a 17), .ref (a 18), .int 0]))] H := hP
  have hD : va_D A [((a 6), .inr (3, [.ref (a 7), .int 0, .int 0, .int 0, .int 0, .int 0, .int 0, .int 0, .int 0, .int 0, .int 0, .int 0, .int 0, .int 0])), ((a 7), .inr (5, [.int 0, .int 24, .int 32, .ref (a 17), .ref (a 18), .int 0]))] := hD
  refine lv_aload_n hx hb dX3_begins_4 rfl (lv_at hl 0 rfl) ?_
  refine lv_iload_n hx hb dX3_begins_5 rfl (lv_at hl 1 rfl) ?_
  refine va_put (D := D) (ci := 3) (v := .int nb) (ty := .int) (C := RX3) (T := TX3) (N := 14) hx hb hts hi_X3 tyX3 tyX3_ok nmX3 hown hK hP hD hS 0 rfl rfl 1 (by decide) (hts (.fieldLink RX3 23 "BeamHouse$Link" "number" "I") (List.mem_of_getElem? (i := 10) rfl)) (fun _ h9 => h9) rfl (by decide +kernel) rfl rfl (Nat.le_of_ble_eq_true rfl) dX3_begins_6 (fun H locs hP hD hS => ?_)
  have hP : va_P D vwCl [((a 6), .inr (3, [.ref (a 7), .int nb, .int 0, .int 0, .int 0, .int 0, .int 0, .int 0, .int 0, .int 0, .int 0, .int 0, .int 0, .int 0])), ((a 7), .inr (5, [.int 0, .int 24, .int 32, .ref (a 17), .ref (a 18), .int 0]))] H := hP
  have hD : va_D A [((a 6), .inr (3, [.ref (a 7), .int nb, .int 0, .int 0, .int 0, .int 0, .int 0, .int 0, .int 0, .int 0, .int 0, .int 0, .int 0, .int 0])), ((a 7), .inr (5, [.int 0, .int 24, .int 32, .ref (a 17), .ref (a 18), .int 0]))] := hD
  refine lv_aload_n hx hb dX3_begins_9 rfl (lv_at hl 0 rfl) ?_
  refine lv_iload_n hx hb dX3_begins_10 rfl (lv_at hl 2 rfl) ?_
  refine va_put (D := D) (ci := 3) (v := .int wd) (ty := .int) (C := RX3) (T := TX3) (N := 14) hx hb hts hi_X3 tyX3 tyX3_ok nmX3 hown hK hP hD hS 0 rfl rfl 2 (by decide) (hts (.fieldLink RX3 27 "BeamHouse$Link" "window" "I") (List.mem_of_getElem? (i := 11) rfl)) (fun _ h9 => h9) rfl (by decide +kernel) rfl rfl (Nat.le_of_ble_eq_true rfl) dX3_begins_11 (fun H locs hP hD hS => ?_)
  have hP : va_P D vwCl [((a 6), .inr (3, [.ref (a 7), .int nb, .int wd, .int 0, .int 0, .int 0, .int 0, .int 0, .int 0, .int 0, .int 0, .int 0, .int 0, .int 0])), ((a 7), .inr (5, [.int 0, .int 24, .int 32, .ref (a 17), .ref (a 18), .int 0]))] H := hP
  have hD : va_D A [((a 6), .inr (3, [.ref (a 7), .int nb, .int wd, .int 0, .int 0, .int 0, .int 0, .int 0, .int 0, .int 0, .int 0, .int 0, .int 0, .int 0])), ((a 7), .inr (5, [.int 0, .int 24, .int 32, .ref (a 17), .ref (a 18), .int 0]))] := hD
  refine lv_aload_n hx hb dX3_begins_14 rfl (lv_at hl 0 rfl) ?_
  refine lv_iload_n hx hb dX3_begins_15 rfl (lv_at hl 3 rfl) ?_
  refine va_put (D := D) (ci := 3) (v := .int ot) (ty := .int) (C := RX3) (T := TX3) (N := 14) hx hb hts hi_X3 tyX3 tyX3_ok nmX3 hown hK hP hD hS 0 rfl rfl 3 (by decide) (hts (.fieldLink RX3 30 "BeamHouse$Link" "other" "I") (List.mem_of_getElem? (i := 12) rfl)) (fun _ h9 => h9) rfl (by decide +kernel) rfl rfl (Nat.le_of_ble_eq_true rfl) dX3_begins_16 (fun H locs hP hD hS => ?_)
  have hP : va_P D vwCl [((a 6), .inr (3, [.ref (a 7), .int nb, .int wd, .int ot, .int 0, .int 0, .int 0, .int 0, .int 0, .int 0, .int 0, .int 0, .int 0, .int 0])), ((a 7), .inr (5, [.int 0, .int 24, .int 32, .ref (a 17), .ref (a 18), .int 0]))] H := hP
  have hD : va_D A [((a 6), .inr (3, [.ref (a 7), .int nb, .int wd, .int ot, .int 0, .int 0, .int 0, .int 0, .int 0, .int 0, .int 0, .int 0, .int 0, .int 0])), ((a 7), .inr (5, [.int 0, .int 24, .int 32, .ref (a 17), .ref (a 18), .int 0]))] := hD
  exact W.vret hx hb hr (fun tt ht hW => ⟨⟨(), rfl, trivial, ⟨by rw [ht]; exact hP.sub [0, 1] rfl, hD.sub [0, 1] rfl rfl⟩⟩, hS.F ht⟩) hS.2.2 dX3_begins_19
def w_c_draws : List Cond := .code yX1_draws cX1_draws 2 (some .int) :: (([.fieldLink RX1 57 "BeamHouse$Device" "seed" "I", .constant RX1 70 (1103515245)] : List Cond) ++ wsX10)
set_option maxHeartbeats 4000000 in
set_option maxRecDepth 100000 in
theorem c_draws (l : Launch) (D : va_G) (ca : Nat → ClassId) (sz : Nat) (a : Nat → Nat) (ad : Int32) (se : Int32)  : Met l yX1_draws w_c_draws ({ frames := 0, cells := 0, slots := 0, locals := 0 }) (Pre D ca [.ref (a 0), .int 126] [((a 0), .inr (1, [.ref (a 1), .ref (a 4), .ref (a 5), .ref (a 6), .ref (a 8), .ref (a 10), .int 0, .int ad, .int se]))] sz) (va_Qi (fun (r : Int32) (_ : Unit) => r = drw se) (fun (_ : Unit) (tt : State) => ∃ (s2 : Int32), Wd D (va_A [((a 0), .inr (1, [.ref (a 1), .ref (a 4), .ref (a 5), .ref (a 6), .ref (a 8), .ref (a 10), .int 0, .int ad, .int se]))] sz) [((a 0), .inr (1, [.ref (a 1), .ref (a 4), .ref (a 5), .ref (a 6), .ref (a 8), .ref (a 10), .int 0, .int ad, .int s2]))] tt) (va_A [((a 0), .inr (1, [.ref (a 1), .ref (a 4), .ref (a 5), .ref (a 6), .ref (a 8), .ref (a 10), .int 0, .int ad, .int se]))] sz)) 0 0 (va_A [((a 0), .inr (1, [.ref (a 1), .ref (a 4), .ref (a 5), .ref (a 6), .ref (a 8), .ref (a 10), .int 0, .int ad, .int se]))] sz) := by
  refine Met.ofW (cc := cX1_draws) (maxL := 2) (ret := (some .int)) (by decide) rfl ?_
  intro p e s m args below meth c s₁ B hml hv
  obtain ⟨rfl, hsz, hP, hK, hD0, hN⟩ := hv
  have hx := B.exec
  have hb := B.bytes
  have hr := B.returns
  have hts := atoms_spec (ws := w_c_draws) B.pre
  have hown : s.vm.findClass RX1 = some m.cls := findClass_of_methodNamed B.named
  have hlocks := B.notSynchronized
  have hi_X1 : ∀ w ∈ wsX10, w ∈ w_c_draws := fun _ h => List.mem_cons_of_mem _ (List.mem_append_right _ h)
  subst hsz
  have hD := hD0.self (sz := s.heap.size)
  generalize hAe : va_A [((a 0), .inr (1, [.ref (a 1), .ref (a 4), .ref (a 5), .ref (a 6), .ref (a 8), .ref (a 10), .int 0, .int ad, .int se]))] s.heap.size = A at hD ⊢
  have hA : ∀ q : Nat, s.heap.size ≤ q → A q := fun q h => by rw [← hAe]; exact Or.inr h
  have hS : va_S A s.heap s.heap [] := va_S.rf
  have hP : va_P D vwCl [((a 0), .inr (1, [.ref (a 1), .ref (a 4), .ref (a 5), .ref (a 6), .ref (a 8), .ref (a 10), .int 0, .int ad, .int se]))] s.heap := hP
  have hl := lv_entry ([.ref (a 0), .int 126]) (n := 2) (Nat.le_of_ble_eq_true rfl)
  rw [lg_entry_eq]
  generalize (lg_sl ([.ref (a 0), .int 126]) ++ List.replicate (2 - (lg_sl ([.ref (a 0), .int 126])).length) Slot.unset).toArray = ls at hl ⊢
  have hl : lv_has ls 2 [(0, .ref (a 0)), (1, .int 126)] := hl
  refine lv_aload_n hx hb dX1_draws_0 rfl (lv_at hl 0 rfl) ?_
  refine lv_aload_n hx hb dX1_draws_1 rfl (lv_at hl 0 rfl) ?_
  refine va_get (D := D) (ci := 1) (v := .int se) (C := RX1) (T := TX1) (N := 9) hx hb hts hi_X1 hown hK hP 0 rfl rfl 8 (by decide) (hts (.fieldLink RX1 57 "BeamHouse$Device" "seed" "I") (List.mem_of_getElem? (i := 1) rfl)) (fun _ h9 => h9) rfl dX1_draws_2 ?_
  refine lv_ldc (v := 1103515245) hx hb hown (hts (.constant RX1 70 (1103515245)) (List.mem_of_getElem? (i := 2) rfl)) dX1_draws_5 ?_
  refine lv_imul hx hb dX1_draws_7 ?_
  refine lv_topi (fun x_1 ex_1 => ?_)
  refine lv_sipush (v := 12345) hx hb dX1_draws_8 (by decide) ?_
  refine lv_iadd hx hb dX1_draws_11 ?_
  refine lv_topi (fun x_2 ex_2 => ?_)
  refine va_put (D := D) (ci := 1) (v := .int x_2) (ty := .int) (C := RX1) (T := TX1) (N := 9) hx hb hts hi_X1 tyX1 tyX1_ok nmX1 hown hK hP hD hS 0 rfl rfl 8 (by decide) (hts (.fieldLink RX1 57 "BeamHouse$Device" "seed" "I") (List.mem_of_getElem? (i := 1) rfl)) (fun _ h9 => h9) rfl (by decide +kernel) rfl rfl (Nat.le_of_ble_eq_true rfl) dX1_draws_12 (fun H locs hP hD hS => ?_)
  have hP : va_P D vwCl [((a 0), .inr (1, [.ref (a 1), .ref (a 4), .ref (a 5), .ref (a 6), .ref (a 8), .ref (a 10), .int 0, .int ad, .int x_2]))] H := hP
  have hD : va_D A [((a 0), .inr (1, [.ref (a 1), .ref (a 4), .ref (a 5), .ref (a 6), .ref (a 8), .ref (a 10), .int 0, .int ad, .int x_2]))] := hD
  refine lv_iload_n hx hb dX1_draws_15 rfl (lv_at hl 1 rfl) ?_
  refine lv_iconst (v := 1) hx hb dX1_draws_16 (by decide) ?_
  refine lv_icmp_ge (tgt := 24) hx hb dX1_draws_17 (by decide) (fun _ => ?_) (fun h => absurd (by decide) h)
  refine lv_aload_n hx hb dX1_draws_24 rfl (lv_at hl 0 rfl) ?_
  refine va_get (D := D) (ci := 1) (v := .int x_2) (C := RX1) (T := TX1) (N := 9) hx hb hts hi_X1 hown hK hP 0 rfl rfl 8 (by decide) (hts (.fieldLink RX1 57 "BeamHouse$Device" "seed" "I") (List.mem_of_getElem? (i := 1) rfl)) (fun _ h9 => h9) rfl dX1_draws_25 ?_
  refine lv_bipush (v := 16) hx hb dX1_draws_28 (by decide) ?_
  refine lv_iushr hx hb dX1_draws_30 rfl ?_
  refine lv_topi (fun x_3 ex_3 => ?_)
  refine lv_iload_n hx hb dX1_draws_31 rfl (lv_at hl 1 rfl) ?_
  refine lv_irem hx hb dX1_draws_32 (by decide) ?_
  refine lv_topi (fun x_4 ex_4 => ?_)
  exact W.iret (v := x_4) hx hb hr (fun tt ht hW => ⟨⟨x_4, (), rfl, (by rw [ex_4]; simp only [ex_1, ex_2, ex_3]; rfl), ⟨x_2, ⟨by rw [ht]; exact hP.sub [0] rfl, hD.sub [0] rfl rfl⟩⟩⟩, hS.F ht⟩) hS.2.2 dX1_draws_33
def w_c_adds : List Cond := .code yX0_adds cX0_adds 2 none :: (([.fieldLink RX0 18 "BeamHouse$Air" "framed" "I", .fieldLink RX0 15 "BeamHouse$Air" "frame" "[I"] : List Cond) ++ wsX00)
set_option maxHeartbeats 4000000 in
set_option maxRecDepth 100000 in
theorem c_adds (l : Launch) (D : va_G) (ca : Nat → ClassId) (sz : Nat) (h0 : Nat) (ab : Nat) (af : Nat) (y : Int32) (t : Nat) (f : Nat → Int32) (v : Int32) (ht : t < 72) : Met l yX0_adds w_c_adds ({ frames := 0, cells := 0, slots := 0, locals := 0 }) (Pre D ca [.ref h0, .int v] [(h0, .inr (0, [.ref ab, .int y, .ref af, .int (nI t)])), (af, .inl (ca 0, 74, .inl f))] sz) (va_Qv (fun _ : Unit => True) (fun (_ : Unit) (tt : State) => ∃ (f1 : Nat → Int32), Wd D (va_A [(h0, .inr (0, [.ref ab, .int y, .ref af, .int (nI t)])), (af, .inl (ca 0, 74, .inl f))] sz) [(h0, .inr (0, [.ref ab, .int y, .ref af, .int (nI (t + 1))])), (af, .inl (ca 0, 74, .inl f1))] tt) (va_A [(h0, .inr (0, [.ref ab, .int y, .ref af, .int (nI t)])), (af, .inl (ca 0, 74, .inl f))] sz)) 0 0 (va_A [(h0, .inr (0, [.ref ab, .int y, .ref af, .int (nI t)])), (af, .inl (ca 0, 74, .inl f))] sz) := by
  refine Met.ofW (cc := cX0_adds) (maxL := 2) (ret := none) (by decide) rfl ?_
  intro p e s m args below meth c s₁ B hml hv
  obtain ⟨rfl, hsz, hP, hK, hD0, hN⟩ := hv
  have hx := B.exec
  have hb := B.bytes
  have hr := B.returns
  have hts := atoms_spec (ws := w_c_adds) B.pre
  have hown : s.vm.findClass RX0 = some m.cls := findClass_of_methodNamed B.named
  have hlocks := B.notSynchronized
  have hi_X0 : ∀ w ∈ wsX00, w ∈ w_c_adds := fun _ h => List.mem_cons_of_mem _ (List.mem_append_right _ h)
  subst hsz
  have hD := hD0.self (sz := s.heap.size)
  generalize hAe : va_A [(h0, .inr (0, [.ref ab, .int y, .ref af, .int (nI t)])), (af, .inl (ca 0, 74, .inl f))] s.heap.size = A at hD ⊢
  have hA : ∀ q : Nat, s.heap.size ≤ q → A q := fun q h => by rw [← hAe]; exact Or.inr h
  have hS : va_S A s.heap s.heap [] := va_S.rf
  have hP : va_P D vwCl [(h0, .inr (0, [.ref ab, .int y, .ref af, .int (nI t)])), (af, .inl (ca 0, 74, .inl f))] s.heap := hP
  have hl := lv_entry ([.ref h0, .int v]) (n := 2) (Nat.le_of_ble_eq_true rfl)
  rw [lg_entry_eq]
  generalize (lg_sl ([.ref h0, .int v]) ++ List.replicate (2 - (lg_sl ([.ref h0, .int v])).length) Slot.unset).toArray = ls at hl ⊢
  have hl : lv_has ls 2 [(0, .ref h0), (1, .int v)] := hl
  refine lv_aload_n hx hb dX0_adds_0 rfl (lv_at hl 0 rfl) ?_
  refine va_get (D := D) (ci := 0) (v := .int (nI t)) (C := RX0) (T := TX0) (N := 4) hx hb hts hi_X0 hown hK hP 0 rfl rfl 3 (by decide) (hts (.fieldLink RX0 18 "BeamHouse$Air" "framed" "I") (List.mem_of_getElem? (i := 1) rfl)) (fun _ h9 => h9) rfl dX0_adds_1 ?_
  refine lv_bipush (v := 72) hx hb dX0_adds_4 (by decide) ?_
  refine lv_icmp_ge (tgt := 33) hx hb dX0_adds_6 (by decide) (fun h => absurd h (nI_ge (a := t) (b := 72) (by omega) (by decide))) (fun _ => ?_)
  refine lv_aload_n hx hb dX0_adds_9 rfl (lv_at hl 0 rfl) ?_
  refine va_get (D := D) (ci := 0) (v := .ref af) (C := RX0) (T := TX0) (N := 4) hx hb hts hi_X0 hown hK hP 0 rfl rfl 2 (by decide) (hts (.fieldLink RX0 15 "BeamHouse$Air" "frame" "[I") (List.mem_of_getElem? (i := 2) rfl)) (fun _ h9 => h9) rfl dX0_adds_10 ?_
  refine lv_aload_n hx hb dX0_adds_13 rfl (lv_at hl 0 rfl) ?_
  refine va_get (D := D) (ci := 0) (v := .int (nI t)) (C := RX0) (T := TX0) (N := 4) hx hb hts hi_X0 hown hK hP 0 rfl rfl 3 (by decide) (hts (.fieldLink RX0 18 "BeamHouse$Air" "framed" "I") (List.mem_of_getElem? (i := 1) rfl)) (fun _ h9 => h9) rfl dX0_adds_14 ?_
  refine lv_iload_n hx hb dX0_adds_17 rfl (lv_at hl 1 rfl) ?_
  refine lv_sipush (v := 255) hx hb dX0_adds_18 (by decide) ?_
  refine lv_iand hx hb dX0_adds_21 ?_
  refine lv_topi (fun x_1 ex_1 => ?_)
  refine va_iast hx hb hK hP hD hS 1 0 rfl rfl (vp_in_nI (by omega) (by decide)) dX0_adds_22 (fun H locs hP hD hS => ?_)
  have hP : va_P D vwCl [(h0, .inr (0, [.ref ab, .int y, .ref af, .int (nI t)])), (af, .inl (ca 0, 74, .inl (upd f ((nI t)).toNatClampNeg x_1)))] H := hP
  have hD : va_D A [(h0, .inr (0, [.ref ab, .int y, .ref af, .int (nI t)])), (af, .inl (ca 0, 74, .inl (upd f ((nI t)).toNatClampNeg x_1)))] := hD
  generalize (upd f ((nI t)).toNatClampNeg x_1) = f_2 at hP hD
  refine lv_aload_n hx hb dX0_adds_23 rfl (lv_at hl 0 rfl) ?_
  refine lv_dup hx hb dX0_adds_24 rfl ?_
  refine va_get (D := D) (ci := 0) (v := .int (nI t)) (C := RX0) (T := TX0) (N := 4) hx hb hts hi_X0 hown hK hP 0 rfl rfl 3 (by decide) (hts (.fieldLink RX0 18 "BeamHouse$Air" "framed" "I") (List.mem_of_getElem? (i := 1) rfl)) (fun _ h9 => h9) rfl dX0_adds_25 ?_
  refine lv_iconst (v := 1) hx hb dX0_adds_28 (by decide) ?_
  refine lv_iadd hx hb dX0_adds_29 ?_
  refine lv_topn (nI (t + 1)) (nI_add t 1) ?_
  refine va_put (D := D) (ci := 0) (v := .int (nI (t + 1))) (ty := .int) (C := RX0) (T := TX0) (N := 4) hx hb hts hi_X0 tyX0 tyX0_ok nmX0 hown hK hP hD hS 0 rfl rfl 3 (by decide) (hts (.fieldLink RX0 18 "BeamHouse$Air" "framed" "I") (List.mem_of_getElem? (i := 1) rfl)) (fun _ h9 => h9) rfl (by decide +kernel) rfl rfl (Nat.le_of_ble_eq_true rfl) dX0_adds_30 (fun H locs hP hD hS => ?_)
  have hP : va_P D vwCl [(h0, .inr (0, [.ref ab, .int y, .ref af, .int (nI (t + 1))])), (af, .inl (ca 0, 74, .inl f_2))] H := hP
  have hD : va_D A [(h0, .inr (0, [.ref ab, .int y, .ref af, .int (nI (t + 1))])), (af, .inl (ca 0, 74, .inl f_2))] := hD
  exact W.vret hx hb hr (fun tt ht hW => ⟨⟨(), rfl, trivial, ⟨f_2, ⟨by rw [ht]; exact hP.sub [0, 1] rfl, hD.sub [0, 1] rfl rfl⟩⟩⟩, hS.F ht⟩) hS.2.2 dX0_adds_33
def w_c_air_begins : List Cond := .code yX0_begins cX0_begins 3 none :: (([.fieldLink RX0 18 "BeamHouse$Air" "framed" "I", .code yX0_adds cX0_adds 2 none, .fieldLink RX0 15 "BeamHouse$Air" "frame" "[I", .methodLink RX0 22 yX0_adds, .instanceMethod yX0_adds, .selects RX0 yX0_adds yX0_adds, .initialized RX0] : List Cond) ++ wsX00)
theorem g_c_air_begins_c_adds_22 : GoodIn w_c_air_begins (wsV RX0 22 RX0 yX0_adds w_c_adds) := (goodIn_app (goodIn_r _ [4, 5, 6, 7] rfl rfl) (goodIn_ca (goodIn_r _ [2, 1, 3] rfl rfl) (goodIn_sub (fun _ h => List.mem_cons_of_mem _ (List.mem_append_right _ h)) gw_X0)))
set_option maxHeartbeats 4000000 in
set_option maxRecDepth 100000 in
theorem c_air_begins (l : Launch) (D : va_G) (ca : Nat → ClassId) (sz : Nat) (h0 : Nat) (ab : Nat) (af : Nat) (y : Int32) (fr : Int32) (f : Nat → Int32) (hd : Int32) (kd : Int32)  : Met l yX0_begins w_c_air_begins ({ frames := 1, cells := 0, slots := 0, locals := 21 }) (Pre D ca [.ref h0, .int hd, .int kd] [(h0, .inr (0, [.ref ab, .int y, .ref af, .int fr])), (af, .inl (ca 0, 74, .inl f))] sz) (va_Qv (fun _ : Unit => True) (fun (_ : Unit) (tt : State) => ∃ (f1 : Nat → Int32), Wd D (va_A [(h0, .inr (0, [.ref ab, .int y, .ref af, .int fr])), (af, .inl (ca 0, 74, .inl f))] sz) [(h0, .inr (0, [.ref ab, .int y, .ref af, .int (nI 2)])), (af, .inl (ca 0, 74, .inl f1))] tt) (va_A [(h0, .inr (0, [.ref ab, .int y, .ref af, .int fr])), (af, .inl (ca 0, 74, .inl f))] sz)) 0 0 (va_A [(h0, .inr (0, [.ref ab, .int y, .ref af, .int fr])), (af, .inl (ca 0, 74, .inl f))] sz) := by
  refine Met.ofW (cc := cX0_begins) (maxL := 3) (ret := none) (by decide) rfl ?_
  intro p e s m args below meth c s₁ B hml hv
  obtain ⟨rfl, hsz, hP, hK, hD0, hN⟩ := hv
  have hx := B.exec
  have hb := B.bytes
  have hr := B.returns
  have hts := atoms_spec (ws := w_c_air_begins) B.pre
  have hown : s.vm.findClass RX0 = some m.cls := findClass_of_methodNamed B.named
  have hlocks := B.notSynchronized
  have hi_X0 : ∀ w ∈ wsX00, w ∈ w_c_air_begins := fun _ h => List.mem_cons_of_mem _ (List.mem_append_right _ h)
  subst hsz
  have hD := hD0.self (sz := s.heap.size)
  generalize hAe : va_A [(h0, .inr (0, [.ref ab, .int y, .ref af, .int fr])), (af, .inl (ca 0, 74, .inl f))] s.heap.size = A at hD ⊢
  have hA : ∀ q : Nat, s.heap.size ≤ q → A q := fun q h => by rw [← hAe]; exact Or.inr h
  have hS : va_S A s.heap s.heap [] := va_S.rf
  have hP : va_P D vwCl [(h0, .inr (0, [.ref ab, .int y, .ref af, .int fr])), (af, .inl (ca 0, 74, .inl f))] s.heap := hP
  have hl := lv_entry ([.ref h0, .int hd, .int kd]) (n := 3) (Nat.le_of_ble_eq_true rfl)
  rw [lg_entry_eq]
  generalize (lg_sl ([.ref h0, .int hd, .int kd]) ++ List.replicate (3 - (lg_sl ([.ref h0, .int hd, .int kd])).length) Slot.unset).toArray = ls at hl ⊢
  have hl : lv_has ls 3 [(0, .ref h0), (1, .int hd), (2, .int kd)] := hl
  refine lv_aload_n hx hb dX0_begins_0 rfl (lv_at hl 0 rfl) ?_
  refine lv_iconst (v := 0) hx hb dX0_begins_1 (by decide) ?_
  refine va_put (D := D) (ci := 0) (v := .int 0) (ty := .int) (C := RX0) (T := TX0) (N := 4) hx hb hts hi_X0 tyX0 tyX0_ok nmX0 hown hK hP hD hS 0 rfl rfl 3 (by decide) (hts (.fieldLink RX0 18 "BeamHouse$Air" "framed" "I") (List.mem_of_getElem? (i := 1) rfl)) (fun _ h9 => h9) rfl (by decide +kernel) rfl rfl (Nat.le_of_ble_eq_true rfl) dX0_begins_2 (fun H locs hP hD hS => ?_)
  have hP : va_P D vwCl [(h0, .inr (0, [.ref ab, .int y, .ref af, .int 0])), (af, .inl (ca 0, 74, .inl f))] H := hP
  have hD : va_D A [(h0, .inr (0, [.ref ab, .int y, .ref af, .int 0])), (af, .inl (ca 0, 74, .inl f))] := hD
  have hP : va_P D vwCl [(h0, .inr (0, [.ref ab, .int y, .ref af, .int (nI 0)])), (af, .inl (ca 0, 74, .inl f))] H := hP
  have hD : va_D A [(h0, .inr (0, [.ref ab, .int y, .ref af, .int (nI 0)])), (af, .inl (ca 0, 74, .inl f))] := hD
  refine lv_aload_n hx hb dX0_begins_5 rfl (lv_at hl 0 rfl) ?_
  refine lv_iload_n hx hb dX0_begins_6 rfl (lv_at hl 1 rfl) ?_
  refine kGo_v (wr := []) (kRunV (As := [.int hd]) (rest := []) ⟨hx, hb, hml, hown, hts⟩ (c_adds l D ca _ h0 ab af y 0 f hd (by decide)) (cwV 1 hts g_c_air_begins_c_adds_22 rfl rfl rfl (by decide +kernel) ⟨Nat.le_of_ble_eq_true rfl, Nat.le_of_ble_eq_true rfl⟩) hK hN hP hD [0, 1] rfl rfl rfl rfl rfl rfl hl.1 rfl (Nat.le_of_ble_eq_true rfl) dX0_begins_7 ⟨Nat.le_of_ble_eq_true rfl, Nat.le_of_ble_eq_true rfl⟩) hP hD hS hA [0, 1] [] rfl rfl rfl (by decide) (fun uu_ tt H locs hr_2 hB hj hS => ?_)
  obtain ⟨f_1, hWd⟩ := hB
  obtain ⟨hP, hD⟩ := hj _ hWd
  have hP : va_P D vwCl [(h0, .inr (0, [.ref ab, .int y, .ref af, .int (nI (0 + 1))])), (af, .inl (ca 0, 74, .inl f_1))] H := hP
  have hD : va_D A [(h0, .inr (0, [.ref ab, .int y, .ref af, .int (nI (0 + 1))])), (af, .inl (ca 0, 74, .inl f_1))] := hD
  have hP : va_P D vwCl [(h0, .inr (0, [.ref ab, .int y, .ref af, .int (nI 1)])), (af, .inl (ca 0, 74, .inl f_1))] H := hP
  have hD : va_D A [(h0, .inr (0, [.ref ab, .int y, .ref af, .int (nI 1)])), (af, .inl (ca 0, 74, .inl f_1))] := hD
  refine lv_aload_n hx hb dX0_begins_10 rfl (lv_at hl 0 rfl) ?_
  refine lv_iload_n hx hb dX0_begins_11 rfl (lv_at hl 2 rfl) ?_
  refine kGo_v (wr := []) (kRunV (As := [.int kd]) (rest := []) ⟨hx, hb, hml, hown, hts⟩ (c_adds l D ca _ h0 ab af y 1 f_1 kd (by decide)) (cwV 1 hts g_c_air_begins_c_adds_22 rfl rfl rfl (by decide +kernel) ⟨Nat.le_of_ble_eq_true rfl, Nat.le_of_ble_eq_true rfl⟩) hK hN hP hD [0, 1] rfl rfl rfl rfl rfl rfl hl.1 rfl (Nat.le_of_ble_eq_true rfl) dX0_begins_12 ⟨Nat.le_of_ble_eq_true rfl, Nat.le_of_ble_eq_true rfl⟩) hP hD hS hA [0, 1] [] rfl rfl rfl (by decide) (fun uu_ tt H locs hr_4 hB hj hS => ?_)
  obtain ⟨f_3, hWd⟩ := hB
  obtain ⟨hP, hD⟩ := hj _ hWd
  have hP : va_P D vwCl [(h0, .inr (0, [.ref ab, .int y, .ref af, .int (nI (1 + 1))])), (af, .inl (ca 0, 74, .inl f_3))] H := hP
  have hD : va_D A [(h0, .inr (0, [.ref ab, .int y, .ref af, .int (nI (1 + 1))])), (af, .inl (ca 0, 74, .inl f_3))] := hD
  have hP : va_P D vwCl [(h0, .inr (0, [.ref ab, .int y, .ref af, .int (nI 2)])), (af, .inl (ca 0, 74, .inl f_3))] H := hP
  have hD : va_D A [(h0, .inr (0, [.ref ab, .int y, .ref af, .int (nI 2)])), (af, .inl (ca 0, 74, .inl f_3))] := hD
  exact W.vret hx hb hr (fun tt ht hW => ⟨⟨(), rfl, trivial, ⟨f_3, ⟨by rw [ht]; exact hP.sub [0, 1] rfl, hD.sub [0, 1] rfl rfl⟩⟩⟩, hS.F ht⟩) hS.2.2 dX0_begins_15
def w_c_addsAddress : List Cond := .code yX0_addsAddress cX0_addsAddress 3 none :: (([.code yX0_adds cX0_adds 2 none, .fieldLink RX0 18 "BeamHouse$Air" "framed" "I", .fieldLink RX0 15 "BeamHouse$Air" "frame" "[I", .methodLink RX0 22 yX0_adds, .instanceMethod yX0_adds, .selects RX0 yX0_adds yX0_adds, .initialized RX0] : List Cond) ++ wsX00)
theorem g_c_addsAddress_c_adds_22 : GoodIn w_c_addsAddress (wsV RX0 22 RX0 yX0_adds w_c_adds) := (goodIn_app (goodIn_r _ [4, 5, 6, 7] rfl rfl) (goodIn_ca (goodIn_r _ [1, 2, 3] rfl rfl) (goodIn_sub (fun _ h => List.mem_cons_of_mem _ (List.mem_append_right _ h)) gw_X0)))
set_option maxHeartbeats 4000000 in
set_option maxRecDepth 100000 in
theorem c_addsAddress (l : Launch) (D : va_G) (ca : Nat → ClassId) (sz : Nat) (h0 : Nat) (ab : Nat) (af : Nat) (y : Int32) (t : Nat) (f : Nat → Int32) (v : Int32) (ht : t < 68) : Met l yX0_addsAddress w_c_addsAddress ({ frames := 1, cells := 0, slots := 0, locals := 21 }) (Pre D ca [.ref h0, .int v] [(h0, .inr (0, [.ref ab, .int y, .ref af, .int (nI t)])), (af, .inl (ca 0, 74, .inl f))] sz) (va_Qv (fun _ : Unit => True) (fun (_ : Unit) (tt : State) => ∃ (f1 : Nat → Int32), Wd D (va_A [(h0, .inr (0, [.ref ab, .int y, .ref af, .int (nI t)])), (af, .inl (ca 0, 74, .inl f))] sz) [(h0, .inr (0, [.ref ab, .int y, .ref af, .int (nI (t + 4))])), (af, .inl (ca 0, 74, .inl f1))] tt) (va_A [(h0, .inr (0, [.ref ab, .int y, .ref af, .int (nI t)])), (af, .inl (ca 0, 74, .inl f))] sz)) 0 0 (va_A [(h0, .inr (0, [.ref ab, .int y, .ref af, .int (nI t)])), (af, .inl (ca 0, 74, .inl f))] sz) := by
  refine Met.ofW (cc := cX0_addsAddress) (maxL := 3) (ret := none) (by decide) rfl ?_
  intro p e s m args below meth c s₁ B hml hv
  obtain ⟨rfl, hsz, hP, hK, hD0, hN⟩ := hv
  have hx := B.exec
  have hb := B.bytes
  have hr := B.returns
  have hts := atoms_spec (ws := w_c_addsAddress) B.pre
  have hown : s.vm.findClass RX0 = some m.cls := findClass_of_methodNamed B.named
  have hlocks := B.notSynchronized
  have hi_X0 : ∀ w ∈ wsX00, w ∈ w_c_addsAddress := fun _ h => List.mem_cons_of_mem _ (List.mem_append_right _ h)
  subst hsz
  have hD := hD0.self (sz := s.heap.size)
  generalize hAe : va_A [(h0, .inr (0, [.ref ab, .int y, .ref af, .int (nI t)])), (af, .inl (ca 0, 74, .inl f))] s.heap.size = A at hD ⊢
  have hA : ∀ q : Nat, s.heap.size ≤ q → A q := fun q h => by rw [← hAe]; exact Or.inr h
  have hS : va_S A s.heap s.heap [] := va_S.rf
  have hP : va_P D vwCl [(h0, .inr (0, [.ref ab, .int y, .ref af, .int (nI t)])), (af, .inl (ca 0, 74, .inl f))] s.heap := hP
  have hl := lv_entry ([.ref h0, .int v]) (n := 3) (Nat.le_of_ble_eq_true rfl)
  rw [lg_entry_eq]
  generalize (lg_sl ([.ref h0, .int v]) ++ List.replicate (3 - (lg_sl ([.ref h0, .int v])).length) Slot.unset).toArray = ls at hl ⊢
  have hl : lv_has ls 3 [(0, .ref h0), (1, .int v)] := hl
  refine lv_iconst (v := 0) hx hb dX0_addsAddress_0 (by decide) ?_
  refine lv_istore_n (lv' := [(2, .int 0), (0, .ref h0), (1, .int v)]) hx hb dX0_addsAddress_1 rfl hl (by decide) rfl (fun ls hl => ?_)
  refine lv_iload_n hx hb dX0_addsAddress_2 rfl (lv_at hl 0 rfl) ?_
  refine lv_bipush (v := 32) hx hb dX0_addsAddress_3 (by decide) ?_
  refine lv_icmp_ge (tgt := 21) hx hb dX0_addsAddress_5 (by decide) (fun h => absurd h (by decide)) (fun _ => ?_)
  refine lv_aload_n hx hb dX0_addsAddress_8 rfl (lv_at hl 1 rfl) ?_
  refine lv_iload_n hx hb dX0_addsAddress_9 rfl (lv_at hl 2 rfl) ?_
  refine lv_iload_n hx hb dX0_addsAddress_10 rfl (lv_at hl 0 rfl) ?_
  refine lv_iushr hx hb dX0_addsAddress_11 rfl ?_
  refine lv_topi (fun x_1 ex_1 => ?_)
  refine kGo_v (wr := []) (kRunV (As := [.int x_1]) (rest := []) ⟨hx, hb, hml, hown, hts⟩ (c_adds l D ca _ h0 ab af y t f x_1 (by omega)) (cwV 1 hts g_c_addsAddress_c_adds_22 rfl rfl rfl (by decide +kernel) ⟨Nat.le_of_ble_eq_true rfl, Nat.le_of_ble_eq_true rfl⟩) hK hN hP hD [0, 1] rfl rfl rfl rfl rfl rfl hl.1 rfl (Nat.le_of_ble_eq_true rfl) dX0_addsAddress_12 ⟨Nat.le_of_ble_eq_true rfl, Nat.le_of_ble_eq_true rfl⟩) hP hD hS hA [0, 1] [] rfl rfl rfl (by decide) (fun uu_ tt H locs hr_3 hB hj hS => ?_)
  obtain ⟨f_2, hWd⟩ := hB
  obtain ⟨hP, hD⟩ := hj _ hWd
  have hP : va_P D vwCl [(h0, .inr (0, [.ref ab, .int y, .ref af, .int (nI (t + 1))])), (af, .inl (ca 0, 74, .inl f_2))] H := hP
  have hD : va_D A [(h0, .inr (0, [.ref ab, .int y, .ref af, .int (nI (t + 1))])), (af, .inl (ca 0, 74, .inl f_2))] := hD
  refine lv_iinc (v := 8) (lv' := [(2, .int 8), (0, .ref h0), (1, .int v)]) hx hb dX0_addsAddress_15 hl (k := 0) rfl (by decide) (by decide) rfl (fun ls hl => ?_)
  refine lv_goto (tgt := 2) hx hb dX0_addsAddress_18 (by decide) ?_
  refine lv_iload_n hx hb dX0_addsAddress_2 rfl (lv_at hl 0 rfl) ?_
  refine lv_bipush (v := 32) hx hb dX0_addsAddress_3 (by decide) ?_
  refine lv_icmp_ge (tgt := 21) hx hb dX0_addsAddress_5 (by decide) (fun h => absurd h (by decide)) (fun _ => ?_)
  refine lv_aload_n hx hb dX0_addsAddress_8 rfl (lv_at hl 1 rfl) ?_
  refine lv_iload_n hx hb dX0_addsAddress_9 rfl (lv_at hl 2 rfl) ?_
  refine lv_iload_n hx hb dX0_addsAddress_10 rfl (lv_at hl 0 rfl) ?_
  refine lv_iushr hx hb dX0_addsAddress_11 rfl ?_
  refine lv_topi (fun x_4 ex_4 => ?_)
  refine kGo_v (wr := []) (kRunV (As := [.int x_4]) (rest := []) ⟨hx, hb, hml, hown, hts⟩ (c_adds l D ca _ h0 ab af y (t + 1) f_2 x_4 (by omega)) (cwV 1 hts g_c_addsAddress_c_adds_22 rfl rfl rfl (by decide +kernel) ⟨Nat.le_of_ble_eq_true rfl, Nat.le_of_ble_eq_true rfl⟩) hK hN hP hD [0, 1] rfl rfl rfl rfl rfl rfl hl.1 rfl (Nat.le_of_ble_eq_true rfl) dX0_addsAddress_12 ⟨Nat.le_of_ble_eq_true rfl, Nat.le_of_ble_eq_true rfl⟩) hP hD hS hA [0, 1] [] rfl rfl rfl (by decide) (fun uu_ tt H locs hr_6 hB hj hS => ?_)
  obtain ⟨f_5, hWd⟩ := hB
  obtain ⟨hP, hD⟩ := hj _ hWd
  have hP : va_P D vwCl [(h0, .inr (0, [.ref ab, .int y, .ref af, .int (nI ((t + 1) + 1))])), (af, .inl (ca 0, 74, .inl f_5))] H := hP
  have hD : va_D A [(h0, .inr (0, [.ref ab, .int y, .ref af, .int (nI ((t + 1) + 1))])), (af, .inl (ca 0, 74, .inl f_5))] := hD
  have hP : va_P D vwCl [(h0, .inr (0, [.ref ab, .int y, .ref af, .int (nI (t + 2))])), (af, .inl (ca 0, 74, .inl f_5))] H := hP
  have hD : va_D A [(h0, .inr (0, [.ref ab, .int y, .ref af, .int (nI (t + 2))])), (af, .inl (ca 0, 74, .inl f_5))] := hD
  refine lv_iinc (v := 16) (lv' := [(2, .int 16), (0, .ref h0), (1, .int v)]) hx hb dX0_addsAddress_15 hl (k := 0) rfl (by decide) (by decide) rfl (fun ls hl => ?_)
  refine lv_goto (tgt := 2) hx hb dX0_addsAddress_18 (by decide) ?_
  refine lv_iload_n hx hb dX0_addsAddress_2 rfl (lv_at hl 0 rfl) ?_
  refine lv_bipush (v := 32) hx hb dX0_addsAddress_3 (by decide) ?_
  refine lv_icmp_ge (tgt := 21) hx hb dX0_addsAddress_5 (by decide) (fun h => absurd h (by decide)) (fun _ => ?_)
  refine lv_aload_n hx hb dX0_addsAddress_8 rfl (lv_at hl 1 rfl) ?_
  refine lv_iload_n hx hb dX0_addsAddress_9 rfl (lv_at hl 2 rfl) ?_
  refine lv_iload_n hx hb dX0_addsAddress_10 rfl (lv_at hl 0 rfl) ?_
  refine lv_iushr hx hb dX0_addsAddress_11 rfl ?_
  refine lv_topi (fun x_7 ex_7 => ?_)
  refine kGo_v (wr := []) (kRunV (As := [.int x_7]) (rest := []) ⟨hx, hb, hml, hown, hts⟩ (c_adds l D ca _ h0 ab af y (t + 2) f_5 x_7 (by omega)) (cwV 1 hts g_c_addsAddress_c_adds_22 rfl rfl rfl (by decide +kernel) ⟨Nat.le_of_ble_eq_true rfl, Nat.le_of_ble_eq_true rfl⟩) hK hN hP hD [0, 1] rfl rfl rfl rfl rfl rfl hl.1 rfl (Nat.le_of_ble_eq_true rfl) dX0_addsAddress_12 ⟨Nat.le_of_ble_eq_true rfl, Nat.le_of_ble_eq_true rfl⟩) hP hD hS hA [0, 1] [] rfl rfl rfl (by decide) (fun uu_ tt H locs hr_9 hB hj hS => ?_)
  obtain ⟨f_8, hWd⟩ := hB
  obtain ⟨hP, hD⟩ := hj _ hWd
  have hP : va_P D vwCl [(h0, .inr (0, [.ref ab, .int y, .ref af, .int (nI ((t + 2) + 1))])), (af, .inl (ca 0, 74, .inl f_8))] H := hP
  have hD : va_D A [(h0, .inr (0, [.ref ab, .int y, .ref af, .int (nI ((t + 2) + 1))])), (af, .inl (ca 0, 74, .inl f_8))] := hD
  have hP : va_P D vwCl [(h0, .inr (0, [.ref ab, .int y, .ref af, .int (nI (t + 3))])), (af, .inl (ca 0, 74, .inl f_8))] H := hP
  have hD : va_D A [(h0, .inr (0, [.ref ab, .int y, .ref af, .int (nI (t + 3))])), (af, .inl (ca 0, 74, .inl f_8))] := hD
  refine lv_iinc (v := 24) (lv' := [(2, .int 24), (0, .ref h0), (1, .int v)]) hx hb dX0_addsAddress_15 hl (k := 0) rfl (by decide) (by decide) rfl (fun ls hl => ?_)
  refine lv_goto (tgt := 2) hx hb dX0_addsAddress_18 (by decide) ?_
  refine lv_iload_n hx hb dX0_addsAddress_2 rfl (lv_at hl 0 rfl) ?_
  refine lv_bipush (v := 32) hx hb dX0_addsAddress_3 (by decide) ?_
  refine lv_icmp_ge (tgt := 21) hx hb dX0_addsAddress_5 (by decide) (fun h => absurd h (by decide)) (fun _ => ?_)
  refine lv_aload_n hx hb dX0_addsAddress_8 rfl (lv_at hl 1 rfl) ?_
  refine lv_iload_n hx hb dX0_addsAddress_9 rfl (lv_at hl 2 rfl) ?_
  refine lv_iload_n hx hb dX0_addsAddress_10 rfl (lv_at hl 0 rfl) ?_
  refine lv_iushr hx hb dX0_addsAddress_11 rfl ?_
  refine lv_topi (fun x_10 ex_10 => ?_)
  refine kGo_v (wr := []) (kRunV (As := [.int x_10]) (rest := []) ⟨hx, hb, hml, hown, hts⟩ (c_adds l D ca _ h0 ab af y (t + 3) f_8 x_10 (by omega)) (cwV 1 hts g_c_addsAddress_c_adds_22 rfl rfl rfl (by decide +kernel) ⟨Nat.le_of_ble_eq_true rfl, Nat.le_of_ble_eq_true rfl⟩) hK hN hP hD [0, 1] rfl rfl rfl rfl rfl rfl hl.1 rfl (Nat.le_of_ble_eq_true rfl) dX0_addsAddress_12 ⟨Nat.le_of_ble_eq_true rfl, Nat.le_of_ble_eq_true rfl⟩) hP hD hS hA [0, 1] [] rfl rfl rfl (by decide) (fun uu_ tt H locs hr_12 hB hj hS => ?_)
  obtain ⟨f_11, hWd⟩ := hB
  obtain ⟨hP, hD⟩ := hj _ hWd
  have hP : va_P D vwCl [(h0, .inr (0, [.ref ab, .int y, .ref af, .int (nI ((t + 3) + 1))])), (af, .inl (ca 0, 74, .inl f_11))] H := hP
  have hD : va_D A [(h0, .inr (0, [.ref ab, .int y, .ref af, .int (nI ((t + 3) + 1))])), (af, .inl (ca 0, 74, .inl f_11))] := hD
  have hP : va_P D vwCl [(h0, .inr (0, [.ref ab, .int y, .ref af, .int (nI (t + 4))])), (af, .inl (ca 0, 74, .inl f_11))] H := hP
  have hD : va_D A [(h0, .inr (0, [.ref ab, .int y, .ref af, .int (nI (t + 4))])), (af, .inl (ca 0, 74, .inl f_11))] := hD
  refine lv_iinc (v := 32) (lv' := [(2, .int 32), (0, .ref h0), (1, .int v)]) hx hb dX0_addsAddress_15 hl (k := 0) rfl (by decide) (by decide) rfl (fun ls hl => ?_)
  refine lv_goto (tgt := 2) hx hb dX0_addsAddress_18 (by decide) ?_
  refine lv_iload_n hx hb dX0_addsAddress_2 rfl (lv_at hl 0 rfl) ?_
  refine lv_bipush (v := 32) hx hb dX0_addsAddress_3 (by decide) ?_
  refine lv_icmp_ge (tgt := 21) hx hb dX0_addsAddress_5 (by decide) (fun _ => ?_) (fun h => absurd (by decide) h)
  exact W.vret hx hb hr (fun tt ht hW => ⟨⟨(), rfl, trivial, ⟨f_11, ⟨by rw [ht]; exact hP.sub [0, 1] rfl, hD.sub [0, 1] rfl rfl⟩⟩⟩, hS.F ht⟩) hS.2.2 dX0_addsAddress_21
def w_c_isSpecial : List Cond := .code yX0_isSpecial cX0_isSpecial 1 (some .boolean) :: (([] : List Cond))
set_option maxHeartbeats 4000000 in
set_option maxRecDepth 100000 in
theorem c_isSpecial (l : Launch) (D : va_G) (ca : Nat → ClassId) (sz : Nat) (v : Int32)  : Met l yX0_isSpecial w_c_isSpecial ({ frames := 0, cells := 0, slots := 0, locals := 0 }) (Pre D ca [.int v] [] sz) (va_Qi (fun (r : Int32) (_ : Unit) => True) (fun (_ : Unit) (tt : State) => Wd D (va_A [] sz) [] tt) (va_A [] sz)) 0 0 (va_A [] sz) := by
  refine Met.ofW (cc := cX0_isSpecial) (maxL := 1) (ret := (some .boolean)) (by decide) rfl ?_
  intro p e s m args below meth c s₁ B hml hv
  obtain ⟨rfl, hsz, hP, hK, hD0, hN⟩ := hv
  have hx := B.exec
  have hb := B.bytes
  have hr := B.returns
  have hts := atoms_spec (ws := w_c_isSpecial) B.pre
  have hown : s.vm.findClass RX0 = some m.cls := findClass_of_methodNamed B.named
  have hlocks := B.notSynchronized
  subst hsz
  have hD := hD0.self (sz := s.heap.size)
  generalize hAe : va_A [] s.heap.size = A at hD ⊢
  have hA : ∀ q : Nat, s.heap.size ≤ q → A q := fun q h => by rw [← hAe]; exact Or.inr h
  have hS : va_S A s.heap s.heap [] := va_S.rf
  have hP : va_P D vwCl [] s.heap := hP
  have hl := lv_entry ([.int v]) (n := 1) (Nat.le_of_ble_eq_true rfl)
  rw [lg_entry_eq]
  generalize (lg_sl ([.int v]) ++ List.replicate (1 - (lg_sl ([.int v])).length) Slot.unset).toArray = ls at hl ⊢
  have hl : lv_has ls 1 [(0, .int v)] := hl
  refine lv_iload_n hx hb dX0_isSpecial_0 rfl (lv_at hl 0 rfl) ?_
  refine lv_sipush (v := 192) hx hb dX0_isSpecial_1 (by decide) ?_
  refine lv_icmp_eq (tgt := 20) hx hb dX0_isSpecial_4 (by decide) (fun c_4 => ?_) (fun c_4 => ?_)
  · refine lv_iconst (v := 1) hx hb dX0_isSpecial_20 (by decide) ?_
    refine lv_goto (tgt := 25) hx hb dX0_isSpecial_21 (by decide) ?_
    exact W.zret (v := 1) (ty := .boolean) hx hb hr rfl (fun tt ht hW => ⟨⟨1, (), rfl, trivial, ⟨by rw [ht]; exact hP.sub [] rfl, hD.sub [] rfl rfl⟩⟩, hS.F ht⟩) hS.2.2 dX0_isSpecial_25
  · refine lv_iload_n hx hb dX0_isSpecial_7 rfl (lv_at hl 0 rfl) ?_
    refine lv_sipush (v := 193) hx hb dX0_isSpecial_8 (by decide) ?_
    refine lv_icmp_eq (tgt := 20) hx hb dX0_isSpecial_11 (by decide) (fun c_11 => ?_) (fun c_11 => ?_)
    · refine lv_iconst (v := 1) hx hb dX0_isSpecial_20 (by decide) ?_
      refine lv_goto (tgt := 25) hx hb dX0_isSpecial_21 (by decide) ?_
      exact W.zret (v := 1) (ty := .boolean) hx hb hr rfl (fun tt ht hW => ⟨⟨1, (), rfl, trivial, ⟨by rw [ht]; exact hP.sub [] rfl, hD.sub [] rfl rfl⟩⟩, hS.F ht⟩) hS.2.2 dX0_isSpecial_25
    · refine lv_iload_n hx hb dX0_isSpecial_14 rfl (lv_at hl 0 rfl) ?_
      refine lv_bipush (v := 125) hx hb dX0_isSpecial_15 (by decide) ?_
      refine lv_icmp_ne (tgt := 24) hx hb dX0_isSpecial_17 (by decide) (fun c_17 => ?_) (fun c_17 => ?_)
      · refine lv_iconst (v := 0) hx hb dX0_isSpecial_24 (by decide) ?_
        exact W.zret (v := 0) (ty := .boolean) hx hb hr rfl (fun tt ht hW => ⟨⟨0, (), rfl, trivial, ⟨by rw [ht]; exact hP.sub [] rfl, hD.sub [] rfl rfl⟩⟩, hS.F ht⟩) hS.2.2 dX0_isSpecial_25
      · refine lv_iconst (v := 1) hx hb dX0_isSpecial_20 (by decide) ?_
        refine lv_goto (tgt := 25) hx hb dX0_isSpecial_21 (by decide) ?_
        exact W.zret (v := 1) (ty := .boolean) hx hb hr rfl (fun tt ht hW => ⟨⟨1, (), rfl, trivial, ⟨by rw [ht]; exact hP.sub [] rfl, hD.sub [] rfl rfl⟩⟩, hS.F ht⟩) hS.2.2 dX0_isSpecial_25
def w_c_wrappedLength : List Cond := .code yX0_wrappedLength cX0_wrappedLength 4 (some .int) :: (([.fieldLink RX0 15 "BeamHouse$Air" "frame" "[I", .code yX0_isSpecial cX0_isSpecial 1 (some .boolean), .methodLink RX0 40 yX0_isSpecial, .static yX0_isSpecial, .initialized RX0] : List Cond) ++ wsX00)
theorem g_c_wrappedLength_c_isSpecial_40 : GoodIn w_c_wrappedLength (va_wsS RX0 40 yX0_isSpecial w_c_isSpecial) := (goodIn_app (goodIn_r _ [3, 4, 5] rfl rfl) (goodIn_r _ [2] rfl rfl))
set_option maxHeartbeats 4000000 in
set_option maxRecDepth 100000 in
theorem c_wrappedLength (l : Launch) (D : va_G) (ca : Nat → ClassId) (sz : Nat) (h0 : Nat) (ab : Nat) (af : Nat) (y : Int32) (fr : Int32) (f : Nat → Int32) (t : Nat) (ht : t ≤ 74) : Met l yX0_wrappedLength w_c_wrappedLength ({ frames := 1, cells := 0, slots := 0, locals := 20 }) (Pre D ca [.ref h0, .int (nI t)] [(h0, .inr (0, [.ref ab, .int y, .ref af, .int fr])), (af, .inl (ca 0, 74, .inl f))] sz) (va_Qi (fun (r : Int32) (_ : Unit) => True) (fun (_ : Unit) (tt : State) => Wd D (va_A [(h0, .inr (0, [.ref ab, .int y, .ref af, .int fr])), (af, .inl (ca 0, 74, .inl f))] sz) [(h0, .inr (0, [.ref ab, .int y, .ref af, .int fr])), (af, .inl (ca 0, 74, .inl f))] tt) (va_A [(h0, .inr (0, [.ref ab, .int y, .ref af, .int fr])), (af, .inl (ca 0, 74, .inl f))] sz)) 0 0 (va_A [(h0, .inr (0, [.ref ab, .int y, .ref af, .int fr])), (af, .inl (ca 0, 74, .inl f))] sz) := by
  refine Met.ofW (cc := cX0_wrappedLength) (maxL := 4) (ret := (some .int)) (by decide) rfl ?_
  intro p e s m args below meth c s₁ B hml hv
  obtain ⟨rfl, hsz, hP, hK, hD0, hN⟩ := hv
  have hx := B.exec
  have hb := B.bytes
  have hr := B.returns
  have hts := atoms_spec (ws := w_c_wrappedLength) B.pre
  have hown : s.vm.findClass RX0 = some m.cls := findClass_of_methodNamed B.named
  have hlocks := B.notSynchronized
  have hi_X0 : ∀ w ∈ wsX00, w ∈ w_c_wrappedLength := fun _ h => List.mem_cons_of_mem _ (List.mem_append_right _ h)
  subst hsz
  have hD := hD0.self (sz := s.heap.size)
  generalize hAe : va_A [(h0, .inr (0, [.ref ab, .int y, .ref af, .int fr])), (af, .inl (ca 0, 74, .inl f))] s.heap.size = A at hD ⊢
  have hA : ∀ q : Nat, s.heap.size ≤ q → A q := fun q h => by rw [← hAe]; exact Or.inr h
  have hS : va_S A s.heap s.heap [] := va_S.rf
  have hP : va_P D vwCl [(h0, .inr (0, [.ref ab, .int y, .ref af, .int fr])), (af, .inl (ca 0, 74, .inl f))] s.heap := hP
  have hl := lv_entry ([.ref h0, .int (nI t)]) (n := 4) (Nat.le_of_ble_eq_true rfl)
  rw [lg_entry_eq]
  generalize (lg_sl ([.ref h0, .int (nI t)]) ++ List.replicate (4 - (lg_sl ([.ref h0, .int (nI t)])).length) Slot.unset).toArray = ls at hl ⊢
  have hl : lv_has ls 4 [(0, .ref h0), (1, .int (nI t))] := hl
  refine lv_iconst (v := 2) hx hb dX0_wrappedLength_0 (by decide) ?_
  refine lv_istore_n (lv' := [(2, .int 2), (0, .ref h0), (1, .int (nI t))]) hx hb dX0_wrappedLength_1 rfl hl (by decide) rfl (fun ls hl => ?_)
  refine lv_iconst (v := 0) hx hb dX0_wrappedLength_2 (by decide) ?_
  refine lv_istore_n (lv' := [(3, .int 0), (2, .int 2), (0, .ref h0), (1, .int (nI t))]) hx hb dX0_wrappedLength_3 rfl hl (by decide) rfl (fun ls hl => ?_)
  have key_4 : ∀ (fu : Nat) (j : Nat) (x : Int32) (hj : j ≤ t) (hm_4 : t + 1 ≤ j + fu) (H : Heap) (locs : List Loc) (ls : Array Slot), va_P D vwCl [(h0, .inr (0, [.ref ab, .int y, .ref af, .int fr])), (af, .inl (ca 0, 74, .inl f))] H → va_D A [(h0, .inr (0, [.ref ab, .int y, .ref af, .int fr])), (af, .inl (ca 0, 74, .inl f))] → va_S A s.heap H locs → lv_has ls 4 [(3, .int (nI j)), (2, .int x), (1, .int (nI t)), (0, .ref h0)] → W p l e (headSpec w_c_wrappedLength ({ frames := 1, cells := 0, slots := 0, locals := 20 })).room s m [.ref h0, .int (nI t)].toArray below meth c H locs 0 0 (MQ below (va_Qi (fun (r : Int32) (_ : Unit) => True) (fun (_ : Unit) (tt : State) => Wd D (A) [(h0, .inr (0, [.ref ab, .int y, .ref af, .int fr])), (af, .inl (ca 0, 74, .inl f))] tt) (A)) [.ref h0, .int (nI t)].toArray s 0 0 A) (F0 m 4 ls []) := by
    intro fu
    induction fu with
    | zero =>
      intro j x hj hm_4
      exact absurd hm_4 (by omega)
    | succ fu ih_4 =>
      intro j x hj hm_4 H locs ls hP hD hS hl
      refine lv_iload_n hx hb dX0_wrappedLength_4 rfl (lv_at hl 0 rfl) ?_
      refine lv_iload_n hx hb dX0_wrappedLength_5 rfl (lv_at hl 2 rfl) ?_
      refine lv_icmp_ge (tgt := 35) hx hb dX0_wrappedLength_6 (by decide) (fun c_6 => ?_) (fun c_6 => ?_)
      · refine lv_iload_n hx hb dX0_wrappedLength_35 rfl (lv_at hl 1 rfl) ?_
        exact W.iret (v := x) hx hb hr (fun tt ht hW => ⟨⟨x, (), rfl, trivial, ⟨by rw [ht]; exact hP.sub [0, 1] rfl, hD.sub [0, 1] rfl rfl⟩⟩, hS.F ht⟩) hS.2.2 dX0_wrappedLength_36
      · have hjt : j < t := k_ltI (by omega) (by omega) c_6
        refine lv_iload_n hx hb dX0_wrappedLength_9 rfl (lv_at hl 1 rfl) ?_
        refine lv_aload_n hx hb dX0_wrappedLength_10 rfl (lv_at hl 3 rfl) ?_
        refine va_get (D := D) (ci := 0) (v := .ref af) (C := RX0) (T := TX0) (N := 4) hx hb hts hi_X0 hown hK hP 0 rfl rfl 2 (by decide) (hts (.fieldLink RX0 15 "BeamHouse$Air" "frame" "[I") (List.mem_of_getElem? (i := 1) rfl)) (fun _ h9 => h9) rfl dX0_wrappedLength_11 ?_
        refine lv_iload_n hx hb dX0_wrappedLength_14 rfl (lv_at hl 0 rfl) ?_
        refine va_iald hx hb hK hP 1 0 rfl rfl (vp_in_nI (by omega) (by decide)) dX0_wrappedLength_15 ?_
        refine lv_topi (fun x_1 ex_1 => ?_)
        refine kGo_i (wr := [(h0, .inr (0, [.ref ab, .int y, .ref af, .int fr])), (af, .inl (ca 0, 74, .inl f))]) (kRunS (As := [.int x_1]) (rest := [.int x]) ⟨hx, hb, hml, hown, hts⟩ (c_isSpecial l D ca _ x_1) (va_cwS 1 hts g_c_wrappedLength_c_isSpecial_40 rfl rfl rfl (by decide +kernel) ⟨Nat.le_of_ble_eq_true rfl, Nat.le_of_ble_eq_true rfl⟩) hK hN hP hD [] rfl rfl rfl hl.1 rfl (Nat.le_of_ble_eq_true rfl) dX0_wrappedLength_16 ⟨Nat.le_of_ble_eq_true rfl, Nat.le_of_ble_eq_true rfl⟩) hP hD hS hA [] [0, 1] rfl rfl rfl (by decide) (fun r_2 uu_ tt H locs hr_2 hB hj hS => ?_)
        have hWd := hB
        obtain ⟨hP, hD⟩ := hj _ hWd
        have hP : va_P D vwCl [(h0, .inr (0, [.ref ab, .int y, .ref af, .int fr])), (af, .inl (ca 0, 74, .inl f))] H := hP
        have hD : va_D A [(h0, .inr (0, [.ref ab, .int y, .ref af, .int fr])), (af, .inl (ca 0, 74, .inl f))] := hD
        refine lv_if_eq (tgt := 26) hx hb dX0_wrappedLength_19 (by decide) (fun c_19 => ?_) (fun c_19 => ?_)
        · refine lv_iconst (v := 1) hx hb dX0_wrappedLength_26 (by decide) ?_
          refine lv_iadd hx hb dX0_wrappedLength_27 ?_
          refine lv_topi (fun x_3 ex_3 => ?_)
          refine lv_istore_n (lv' := [(2, .int x_3), (3, .int (nI j)), (1, .int (nI t)), (0, .ref h0)]) hx hb dX0_wrappedLength_28 rfl hl (by decide) rfl (fun ls hl => ?_)
          refine lv_iinc (v := (nI (j + 1))) (lv' := [(3, .int (nI (j + 1))), (2, .int x_3), (1, .int (nI t)), (0, .ref h0)]) hx hb dX0_wrappedLength_29 hl (k := 1) rfl (nI_1 j) (by decide) rfl (fun ls hl => ?_)
          refine lv_goto (tgt := 4) hx hb dX0_wrappedLength_32 (by decide) ?_
          exact ih_4 (j + 1) x_3 (by omega) (by omega) _ _ _ hP hD hS (lv_sub hl [0, 1, 2, 3] rfl)
        · refine lv_iconst (v := 2) hx hb dX0_wrappedLength_22 (by decide) ?_
          refine lv_goto (tgt := 27) hx hb dX0_wrappedLength_23 (by decide) ?_
          refine lv_iadd hx hb dX0_wrappedLength_27 ?_
          refine lv_topi (fun x_4 ex_4 => ?_)
          refine lv_istore_n (lv' := [(2, .int x_4), (3, .int (nI j)), (1, .int (nI t)), (0, .ref h0)]) hx hb dX0_wrappedLength_28 rfl hl (by decide) rfl (fun ls hl => ?_)
          refine lv_iinc (v := (nI (j + 1))) (lv' := [(3, .int (nI (j + 1))), (2, .int x_4), (1, .int (nI t)), (0, .ref h0)]) hx hb dX0_wrappedLength_29 hl (k := 1) rfl (nI_1 j) (by decide) rfl (fun ls hl => ?_)
          refine lv_goto (tgt := 4) hx hb dX0_wrappedLength_32 (by decide) ?_
          exact ih_4 (j + 1) x_4 (by omega) (by omega) _ _ _ hP hD hS (lv_sub hl [0, 1, 2, 3] rfl)
  exact key_4 (t + 1) 0 2 (by omega) (by omega) _ _ _ hP hD hS (lv_sub hl [0, 1, 3, 2] rfl)
def w_c_puts : List Cond := .code yX0_puts cX0_puts 2 none :: (([.fieldLink RX0 30 "BeamHouse$Air" "length" "I", .fieldLink RX0 9 "BeamHouse$Air" "bytes" "[I"] : List Cond) ++ wsX00)
set_option maxHeartbeats 4000000 in
set_option maxRecDepth 100000 in
theorem c_puts (l : Launch) (D : va_G) (ca : Nat → ClassId) (sz : Nat) (h0 : Nat) (ab : Nat) (af : Nat) (u : Nat) (fr : Int32) (f : Nat → Int32) (v : Int32) (hu : u ≤ 4000) : Met l yX0_puts w_c_puts ({ frames := 0, cells := 0, slots := 0, locals := 0 }) (Pre D ca [.ref h0, .int v] [(h0, .inr (0, [.ref ab, .int (nI u), .ref af, .int fr])), (ab, .inl (ca 0, 4000, .inl f))] sz) (va_Qv (fun _ : Unit => True) (fun (_ : Unit) (tt : State) => ∃ (u1 : Nat) (f1 : Nat → Int32), u1 ≤ 4000 ∧ Wd D (va_A [(h0, .inr (0, [.ref ab, .int (nI u), .ref af, .int fr])), (ab, .inl (ca 0, 4000, .inl f))] sz) [(h0, .inr (0, [.ref ab, .int (nI u1), .ref af, .int fr])), (ab, .inl (ca 0, 4000, .inl f1))] tt) (va_A [(h0, .inr (0, [.ref ab, .int (nI u), .ref af, .int fr])), (ab, .inl (ca 0, 4000, .inl f))] sz)) 0 0 (va_A [(h0, .inr (0, [.ref ab, .int (nI u), .ref af, .int fr])), (ab, .inl (ca 0, 4000, .inl f))] sz) := by
  refine Met.ofW (cc := cX0_puts) (maxL := 2) (ret := none) (by decide) rfl ?_
  intro p e s m args below meth c s₁ B hml hv
  obtain ⟨rfl, hsz, hP, hK, hD0, hN⟩ := hv
  have hx := B.exec
  have hb := B.bytes
  have hr := B.returns
  have hts := atoms_spec (ws := w_c_puts) B.pre
  have hown : s.vm.findClass RX0 = some m.cls := findClass_of_methodNamed B.named
  have hlocks := B.notSynchronized
  have hi_X0 : ∀ w ∈ wsX00, w ∈ w_c_puts := fun _ h => List.mem_cons_of_mem _ (List.mem_append_right _ h)
  subst hsz
  have hD := hD0.self (sz := s.heap.size)
  generalize hAe : va_A [(h0, .inr (0, [.ref ab, .int (nI u), .ref af, .int fr])), (ab, .inl (ca 0, 4000, .inl f))] s.heap.size = A at hD ⊢
  have hA : ∀ q : Nat, s.heap.size ≤ q → A q := fun q h => by rw [← hAe]; exact Or.inr h
  have hS : va_S A s.heap s.heap [] := va_S.rf
  have hP : va_P D vwCl [(h0, .inr (0, [.ref ab, .int (nI u), .ref af, .int fr])), (ab, .inl (ca 0, 4000, .inl f))] s.heap := hP
  have hl := lv_entry ([.ref h0, .int v]) (n := 2) (Nat.le_of_ble_eq_true rfl)
  rw [lg_entry_eq]
  generalize (lg_sl ([.ref h0, .int v]) ++ List.replicate (2 - (lg_sl ([.ref h0, .int v])).length) Slot.unset).toArray = ls at hl ⊢
  have hl : lv_has ls 2 [(0, .ref h0), (1, .int v)] := hl
  refine lv_aload_n hx hb dX0_puts_0 rfl (lv_at hl 0 rfl) ?_
  refine va_get (D := D) (ci := 0) (v := .int (nI u)) (C := RX0) (T := TX0) (N := 4) hx hb hts hi_X0 hown hK hP 0 rfl rfl 1 (by decide) (hts (.fieldLink RX0 30 "BeamHouse$Air" "length" "I") (List.mem_of_getElem? (i := 1) rfl)) (fun _ h9 => h9) rfl dX0_puts_1 ?_
  refine lv_sipush (v := 4000) hx hb dX0_puts_4 (by decide) ?_
  refine lv_icmp_ge (tgt := 30) hx hb dX0_puts_7 (by decide) (fun c_7 => ?_) (fun c_7 => ?_)
  · exact W.vret hx hb hr (fun tt ht hW => ⟨⟨(), rfl, trivial, ⟨u, f, (by omega), ⟨by rw [ht]; exact hP.sub [0, 1] rfl, hD.sub [0, 1] rfl rfl⟩⟩⟩, hS.F ht⟩) hS.2.2 dX0_puts_30
  · have hu4 : u < 4000 := k_ltI (by omega) (by decide) c_7
    refine lv_aload_n hx hb dX0_puts_10 rfl (lv_at hl 0 rfl) ?_
    refine va_get (D := D) (ci := 0) (v := .ref ab) (C := RX0) (T := TX0) (N := 4) hx hb hts hi_X0 hown hK hP 0 rfl rfl 0 (by decide) (hts (.fieldLink RX0 9 "BeamHouse$Air" "bytes" "[I") (List.mem_of_getElem? (i := 2) rfl)) (fun _ h9 => h9) rfl dX0_puts_11 ?_
    refine lv_aload_n hx hb dX0_puts_14 rfl (lv_at hl 0 rfl) ?_
    refine va_get (D := D) (ci := 0) (v := .int (nI u)) (C := RX0) (T := TX0) (N := 4) hx hb hts hi_X0 hown hK hP 0 rfl rfl 1 (by decide) (hts (.fieldLink RX0 30 "BeamHouse$Air" "length" "I") (List.mem_of_getElem? (i := 1) rfl)) (fun _ h9 => h9) rfl dX0_puts_15 ?_
    refine lv_iload_n hx hb dX0_puts_18 rfl (lv_at hl 1 rfl) ?_
    refine va_iast hx hb hK hP hD hS 1 0 rfl rfl (vp_in_nI (by omega) (by decide)) dX0_puts_19 (fun H locs hP hD hS => ?_)
    have hP : va_P D vwCl [(h0, .inr (0, [.ref ab, .int (nI u), .ref af, .int fr])), (ab, .inl (ca 0, 4000, .inl (upd f ((nI u)).toNatClampNeg v)))] H := hP
    have hD : va_D A [(h0, .inr (0, [.ref ab, .int (nI u), .ref af, .int fr])), (ab, .inl (ca 0, 4000, .inl (upd f ((nI u)).toNatClampNeg v)))] := hD
    generalize (upd f ((nI u)).toNatClampNeg v) = f_1 at hP hD
    refine lv_aload_n hx hb dX0_puts_20 rfl (lv_at hl 0 rfl) ?_
    refine lv_dup hx hb dX0_puts_21 rfl ?_
    refine va_get (D := D) (ci := 0) (v := .int (nI u)) (C := RX0) (T := TX0) (N := 4) hx hb hts hi_X0 hown hK hP 0 rfl rfl 1 (by decide) (hts (.fieldLink RX0 30 "BeamHouse$Air" "length" "I") (List.mem_of_getElem? (i := 1) rfl)) (fun _ h9 => h9) rfl dX0_puts_22 ?_
    refine lv_iconst (v := 1) hx hb dX0_puts_25 (by decide) ?_
    refine lv_iadd hx hb dX0_puts_26 ?_
    refine lv_topn (nI (u + 1)) (nI_add u 1) ?_
    refine va_put (D := D) (ci := 0) (v := .int (nI (u + 1))) (ty := .int) (C := RX0) (T := TX0) (N := 4) hx hb hts hi_X0 tyX0 tyX0_ok nmX0 hown hK hP hD hS 0 rfl rfl 1 (by decide) (hts (.fieldLink RX0 30 "BeamHouse$Air" "length" "I") (List.mem_of_getElem? (i := 1) rfl)) (fun _ h9 => h9) rfl (by decide +kernel) rfl rfl (Nat.le_of_ble_eq_true rfl) dX0_puts_27 (fun H locs hP hD hS => ?_)
    have hP : va_P D vwCl [(h0, .inr (0, [.ref ab, .int (nI (u + 1)), .ref af, .int fr])), (ab, .inl (ca 0, 4000, .inl f_1))] H := hP
    have hD : va_D A [(h0, .inr (0, [.ref ab, .int (nI (u + 1)), .ref af, .int fr])), (ab, .inl (ca 0, 4000, .inl f_1))] := hD
    exact W.vret hx hb hr (fun tt ht hW => ⟨⟨(), rfl, trivial, ⟨(u + 1), f_1, (by omega), ⟨by rw [ht]; exact hP.sub [0, 1] rfl, hD.sub [0, 1] rfl rfl⟩⟩⟩, hS.F ht⟩) hS.2.2 dX0_puts_30
def w_c_closes : List Cond := .code yX0_closes cX0_closes 4 none :: (([.fieldLink RX0 15 "BeamHouse$Air" "frame" "[I", .fieldLink RX0 18 "BeamHouse$Air" "framed" "I", .code yX11_check cX11_check 5 (some .int), .constant RX11 234 (65535), .constant RX11 235 (33800), .initialized RX11, .static yX11_check, .fieldLink RX0 30 "BeamHouse$Air" "length" "I", .code yX0_wrappedLength cX0_wrappedLength 4 (some .int), .code yX0_isSpecial cX0_isSpecial 1 (some .boolean), .methodLink RX0 40 yX0_isSpecial, .static yX0_isSpecial, .initialized RX0, .methodLink RX0 33 yX0_wrappedLength, .instanceMethod yX0_wrappedLength, .selects RX0 yX0_wrappedLength yX0_wrappedLength, .code yX0_puts cX0_puts 2 none, .fieldLink RX0 9 "BeamHouse$Air" "bytes" "[I", .methodLink RX0 37 yX0_puts, .instanceMethod yX0_puts, .selects RX0 yX0_puts yX0_puts] : List Cond) ++ wsX00)
theorem g_c_closes_c_check_26 : GoodIn w_c_closes w_c_check := (goodIn_r _ [3, 4, 5] rfl rfl)
theorem g_c_closes_c_wrappedLength_33 : GoodIn w_c_closes (wsV RX0 33 RX0 yX0_wrappedLength w_c_wrappedLength) := (goodIn_app (goodIn_r _ [14, 15, 16, 13] rfl rfl) (goodIn_ca (goodIn_r _ [9, 1, 10, 11, 12, 13] rfl rfl) (goodIn_sub (fun _ h => List.mem_cons_of_mem _ (List.mem_append_right _ h)) gw_X0)))
theorem g_c_closes_c_puts_37 : GoodIn w_c_closes (wsV RX0 37 RX0 yX0_puts w_c_puts) := (goodIn_app (goodIn_r _ [19, 20, 21, 13] rfl rfl) (goodIn_ca (goodIn_r _ [17, 8, 18] rfl rfl) (goodIn_sub (fun _ h => List.mem_cons_of_mem _ (List.mem_append_right _ h)) gw_X0)))
theorem g_c_closes_c_isSpecial_40 : GoodIn w_c_closes (va_wsS RX0 40 yX0_isSpecial w_c_isSpecial) := (goodIn_app (goodIn_r _ [11, 12, 13] rfl rfl) (goodIn_r _ [10] rfl rfl))
set_option maxHeartbeats 4000000 in
set_option maxRecDepth 100000 in
theorem c_closes (l : Launch) (D : va_G) (ca : Nat → ClassId) (sz : Nat) (h0 : Nat) (ab : Nat) (af : Nat) (t : Nat) (f : Nat → Int32) (g : Nat → Int32) (ht : t ≤ 72) : Met l yX0_closes w_c_closes ({ frames := 2, cells := 0, slots := 0, locals := 43 }) (Pre D ca [.ref h0] [(h0, .inr (0, [.ref ab, .int 0, .ref af, .int (nI t)])), (ab, .inl (ca 0, 4000, .inl g)), (af, .inl (ca 0, 74, .inl f))] sz) (va_Qv (fun _ : Unit => True) (fun (_ : Unit) (tt : State) => Wd D (va_A [(h0, .inr (0, [.ref ab, .int 0, .ref af, .int (nI t)])), (ab, .inl (ca 0, 4000, .inl g)), (af, .inl (ca 0, 74, .inl f))] sz) [] tt) (va_A [(h0, .inr (0, [.ref ab, .int 0, .ref af, .int (nI t)])), (ab, .inl (ca 0, 4000, .inl g)), (af, .inl (ca 0, 74, .inl f))] sz)) 0 0 (va_A [(h0, .inr (0, [.ref ab, .int 0, .ref af, .int (nI t)])), (ab, .inl (ca 0, 4000, .inl g)), (af, .inl (ca 0, 74, .inl f))] sz) := by
  refine Met.ofW (cc := cX0_closes) (maxL := 4) (ret := none) (by decide) rfl ?_
  intro p e s m args below meth c s₁ B hml hv
  obtain ⟨rfl, hsz, hP, hK, hD0, hN⟩ := hv
  have hx := B.exec
  have hb := B.bytes
  have hr := B.returns
  have hts := atoms_spec (ws := w_c_closes) B.pre
  have hown : s.vm.findClass RX0 = some m.cls := findClass_of_methodNamed B.named
  have hlocks := B.notSynchronized
  have hi_X0 : ∀ w ∈ wsX00, w ∈ w_c_closes := fun _ h => List.mem_cons_of_mem _ (List.mem_append_right _ h)
  subst hsz
  have hD := hD0.self (sz := s.heap.size)
  generalize hAe : va_A [(h0, .inr (0, [.ref ab, .int 0, .ref af, .int (nI t)])), (ab, .inl (ca 0, 4000, .inl g)), (af, .inl (ca 0, 74, .inl f))] s.heap.size = A at hD ⊢
  have hA : ∀ q : Nat, s.heap.size ≤ q → A q := fun q h => by rw [← hAe]; exact Or.inr h
  have hS : va_S A s.heap s.heap [] := va_S.rf
  have hP : va_P D vwCl [(h0, .inr (0, [.ref ab, .int 0, .ref af, .int (nI t)])), (ab, .inl (ca 0, 4000, .inl g)), (af, .inl (ca 0, 74, .inl f))] s.heap := hP
  have hl := lv_entry ([.ref h0]) (n := 4) (Nat.le_of_ble_eq_true rfl)
  rw [lg_entry_eq]
  generalize (lg_sl ([.ref h0]) ++ List.replicate (4 - (lg_sl ([.ref h0])).length) Slot.unset).toArray = ls at hl ⊢
  have hl : lv_has ls 4 [(0, .ref h0)] := hl
  refine lv_aload_n hx hb dX0_closes_0 rfl (lv_at hl 0 rfl) ?_
  refine va_get (D := D) (ci := 0) (v := .ref af) (C := RX0) (T := TX0) (N := 4) hx hb hts hi_X0 hown hK hP 0 rfl rfl 2 (by decide) (hts (.fieldLink RX0 15 "BeamHouse$Air" "frame" "[I") (List.mem_of_getElem? (i := 1) rfl)) (fun _ h9 => h9) rfl dX0_closes_1 ?_
  refine lv_aload_n hx hb dX0_closes_4 rfl (lv_at hl 0 rfl) ?_
  refine va_get (D := D) (ci := 0) (v := .int (nI t)) (C := RX0) (T := TX0) (N := 4) hx hb hts hi_X0 hown hK hP 0 rfl rfl 3 (by decide) (hts (.fieldLink RX0 18 "BeamHouse$Air" "framed" "I") (List.mem_of_getElem? (i := 2) rfl)) (fun _ h9 => h9) rfl dX0_closes_5 ?_
  refine kGo_i (wr := [(h0, .inr (0, [.ref ab, .int 0, .ref af, .int (nI t)])), (ab, .inl (ca 0, 4000, .inl g))]) (kRunSN (As := [.ref af, .int (nI t)]) (rest := []) ⟨hx, hb, hml, hown, hts⟩ (c_check l D ca _ af f t 74 (by omega) (by decide)) ⟨va_cnB 2 hts g_c_closes_c_check_26 rfl rfl rfl (hN.1 (RX0, 26, yX11_check) (List.mem_of_getElem? (i := 0) rfl)) (hts (.initialized RX11) (List.mem_of_getElem? (i := 6) rfl)) (by decide +kernel) ⟨Nat.le_of_ble_eq_true rfl, Nat.le_of_ble_eq_true rfl⟩, (hts (.static yX11_check) (List.mem_of_getElem? (i := 7) rfl)), trivial⟩ hK hN hP hD [2] rfl rfl rfl hl.1 rfl (Nat.le_of_ble_eq_true rfl) dX0_closes_8 ⟨Nat.le_of_ble_eq_true rfl, Nat.le_of_ble_eq_true rfl⟩) hP hD hS hA [2] [0, 1] rfl rfl rfl (by decide) (fun r_1 uu_ tt H locs hr_1 hB hj hS => ?_)
  have hWd := hB
  obtain ⟨hP, hD⟩ := hj _ hWd
  have hP : va_P D vwCl [(h0, .inr (0, [.ref ab, .int 0, .ref af, .int (nI t)])), (ab, .inl (ca 0, 4000, .inl g)), (af, .inl (ca 0, 74, .inl f))] H := hP
  have hD : va_D A [(h0, .inr (0, [.ref ab, .int 0, .ref af, .int (nI t)])), (ab, .inl (ca 0, 4000, .inl g)), (af, .inl (ca 0, 74, .inl f))] := hD
  refine lv_istore_n (lv' := [(1, .int r_1), (0, .ref h0)]) hx hb dX0_closes_11 rfl hl (by decide) rfl (fun ls hl => ?_)
  refine lv_aload_n hx hb dX0_closes_12 rfl (lv_at hl 1 rfl) ?_
  refine va_get (D := D) (ci := 0) (v := .int (nI t)) (C := RX0) (T := TX0) (N := 4) hx hb hts hi_X0 hown hK hP 0 rfl rfl 3 (by decide) (hts (.fieldLink RX0 18 "BeamHouse$Air" "framed" "I") (List.mem_of_getElem? (i := 2) rfl)) (fun _ h9 => h9) rfl dX0_closes_13 ?_
  refine lv_iconst (v := 2) hx hb dX0_closes_16 (by decide) ?_
  refine lv_iadd hx hb dX0_closes_17 ?_
  refine lv_topn (nI (t + 2)) (nI_add t 2) ?_
  refine lv_istore_n (lv' := [(2, .int (nI (t + 2))), (1, .int r_1), (0, .ref h0)]) hx hb dX0_closes_18 rfl hl (by decide) rfl (fun ls hl => ?_)
  refine lv_iload_n hx hb dX0_closes_19 rfl (lv_at hl 0 rfl) ?_
  refine lv_bipush (v := 74) hx hb dX0_closes_20 (by decide) ?_
  refine lv_icmp_le (tgt := 26) hx hb dX0_closes_22 (by decide) (fun _ => ?_) (fun h => absurd (nI_le (a := t + 2) (b := 74) (by omega) (by decide)) h)
  refine lv_aload_n hx hb dX0_closes_26 rfl (lv_at hl 2 rfl) ?_
  refine va_get (D := D) (ci := 0) (v := .ref af) (C := RX0) (T := TX0) (N := 4) hx hb hts hi_X0 hown hK hP 0 rfl rfl 2 (by decide) (hts (.fieldLink RX0 15 "BeamHouse$Air" "frame" "[I") (List.mem_of_getElem? (i := 1) rfl)) (fun _ h9 => h9) rfl dX0_closes_27 ?_
  refine lv_aload_n hx hb dX0_closes_30 rfl (lv_at hl 2 rfl) ?_
  refine va_get (D := D) (ci := 0) (v := .int (nI t)) (C := RX0) (T := TX0) (N := 4) hx hb hts hi_X0 hown hK hP 0 rfl rfl 3 (by decide) (hts (.fieldLink RX0 18 "BeamHouse$Air" "framed" "I") (List.mem_of_getElem? (i := 2) rfl)) (fun _ h9 => h9) rfl dX0_closes_31 ?_
  refine lv_iload_n hx hb dX0_closes_34 rfl (lv_at hl 1 rfl) ?_
  refine lv_sipush (v := 255) hx hb dX0_closes_35 (by decide) ?_
  refine lv_iand hx hb dX0_closes_38 ?_
  refine lv_topi (fun x_2 ex_2 => ?_)
  refine va_iast hx hb hK hP hD hS 2 0 rfl rfl (vp_in_nI (by omega) (by decide)) dX0_closes_39 (fun H locs hP hD hS => ?_)
  have hP : va_P D vwCl [(h0, .inr (0, [.ref ab, .int 0, .ref af, .int (nI t)])), (ab, .inl (ca 0, 4000, .inl g)), (af, .inl (ca 0, 74, .inl (upd f ((nI t)).toNatClampNeg x_2)))] H := hP
  have hD : va_D A [(h0, .inr (0, [.ref ab, .int 0, .ref af, .int (nI t)])), (ab, .inl (ca 0, 4000, .inl g)), (af, .inl (ca 0, 74, .inl (upd f ((nI t)).toNatClampNeg x_2)))] := hD
  generalize (upd f ((nI t)).toNatClampNeg x_2) = f_3 at hP hD
  refine lv_aload_n hx hb dX0_closes_40 rfl (lv_at hl 2 rfl) ?_
  refine va_get (D := D) (ci := 0) (v := .ref af) (C := RX0) (T := TX0) (N := 4) hx hb hts hi_X0 hown hK hP 0 rfl rfl 2 (by decide) (hts (.fieldLink RX0 15 "BeamHouse$Air" "frame" "[I") (List.mem_of_getElem? (i := 1) rfl)) (fun _ h9 => h9) rfl dX0_closes_41 ?_
  refine lv_aload_n hx hb dX0_closes_44 rfl (lv_at hl 2 rfl) ?_
  refine va_get (D := D) (ci := 0) (v := .int (nI t)) (C := RX0) (T := TX0) (N := 4) hx hb hts hi_X0 hown hK hP 0 rfl rfl 3 (by decide) (hts (.fieldLink RX0 18 "BeamHouse$Air" "framed" "I") (List.mem_of_getElem? (i := 2) rfl)) (fun _ h9 => h9) rfl dX0_closes_45 ?_
  refine lv_iconst (v := 1) hx hb dX0_closes_48 (by decide) ?_
  refine lv_iadd hx hb dX0_closes_49 ?_
  refine lv_topn (nI (t + 1)) (nI_add t 1) ?_
  refine lv_iload_n hx hb dX0_closes_50 rfl (lv_at hl 1 rfl) ?_
  refine lv_bipush (v := 8) hx hb dX0_closes_51 (by decide) ?_
  refine lv_iushr hx hb dX0_closes_53 rfl ?_
  refine lv_topi (fun x_4 ex_4 => ?_)
  refine va_iast hx hb hK hP hD hS 2 0 rfl rfl (vp_in_nI (by omega) (by decide)) dX0_closes_54 (fun H locs hP hD hS => ?_)
  have hP : va_P D vwCl [(h0, .inr (0, [.ref ab, .int 0, .ref af, .int (nI t)])), (ab, .inl (ca 0, 4000, .inl g)), (af, .inl (ca 0, 74, .inl (upd f_3 ((nI (t + 1))).toNatClampNeg x_4)))] H := hP
  have hD : va_D A [(h0, .inr (0, [.ref ab, .int 0, .ref af, .int (nI t)])), (ab, .inl (ca 0, 4000, .inl g)), (af, .inl (ca 0, 74, .inl (upd f_3 ((nI (t + 1))).toNatClampNeg x_4)))] := hD
  generalize (upd f_3 ((nI (t + 1))).toNatClampNeg x_4) = f_5 at hP hD
  refine lv_aload_n hx hb dX0_closes_55 rfl (lv_at hl 2 rfl) ?_
  refine va_get (D := D) (ci := 0) (v := .int 0) (C := RX0) (T := TX0) (N := 4) hx hb hts hi_X0 hown hK hP 0 rfl rfl 1 (by decide) (hts (.fieldLink RX0 30 "BeamHouse$Air" "length" "I") (List.mem_of_getElem? (i := 8) rfl)) (fun _ h9 => h9) rfl dX0_closes_56 ?_
  refine lv_aload_n hx hb dX0_closes_59 rfl (lv_at hl 2 rfl) ?_
  refine lv_iload_n hx hb dX0_closes_60 rfl (lv_at hl 0 rfl) ?_
  refine kGo_i (wr := [(ab, .inl (ca 0, 4000, .inl g))]) (kRunV (As := [.int (nI (t + 2))]) (rest := [.int 0]) ⟨hx, hb, hml, hown, hts⟩ (c_wrappedLength l D ca _ h0 ab af 0 (nI t) f_5 (t + 2) (by omega)) (cwV 1 hts g_c_closes_c_wrappedLength_33 rfl rfl rfl (by decide +kernel) ⟨Nat.le_of_ble_eq_true rfl, Nat.le_of_ble_eq_true rfl⟩) hK hN hP hD [0, 2] rfl rfl rfl rfl rfl rfl hl.1 rfl (Nat.le_of_ble_eq_true rfl) dX0_closes_61 ⟨Nat.le_of_ble_eq_true rfl, Nat.le_of_ble_eq_true rfl⟩) hP hD hS hA [0, 2] [1] rfl rfl rfl (by decide) (fun r_6 uu_ tt H locs hr_6 hB hj hS => ?_)
  have hWd := hB
  obtain ⟨hP, hD⟩ := hj _ hWd
  have hP : va_P D vwCl [(ab, .inl (ca 0, 4000, .inl g)), (h0, .inr (0, [.ref ab, .int 0, .ref af, .int (nI t)])), (af, .inl (ca 0, 74, .inl f_5))] H := hP
  have hD : va_D A [(ab, .inl (ca 0, 4000, .inl g)), (h0, .inr (0, [.ref ab, .int 0, .ref af, .int (nI t)])), (af, .inl (ca 0, 74, .inl f_5))] := hD
  refine lv_iadd hx hb dX0_closes_64 ?_
  refine lv_topi (fun x_7 ex_7 => ?_)
  refine lv_sipush (v := 4000) hx hb dX0_closes_65 (by decide) ?_
  refine lv_icmp_le (tgt := 72) hx hb dX0_closes_68 (by decide) (fun c_68 => ?_) (fun c_68 => ?_)
  · have hP : va_P D vwCl [(ab, .inl (ca 0, 4000, .inl g)), (h0, .inr (0, [.ref ab, .int (nI 0), .ref af, .int (nI t)])), (af, .inl (ca 0, 74, .inl f_5))] H := hP
    have hD : va_D A [(ab, .inl (ca 0, 4000, .inl g)), (h0, .inr (0, [.ref ab, .int (nI 0), .ref af, .int (nI t)])), (af, .inl (ca 0, 74, .inl f_5))] := hD
    refine lv_aload_n hx hb dX0_closes_72 rfl (lv_at hl 2 rfl) ?_
    refine lv_sipush (v := 192) hx hb dX0_closes_73 (by decide) ?_
    refine kGo_v (wr := [(af, .inl (ca 0, 74, .inl f_5))]) (kRunV (As := [.int 192]) (rest := []) ⟨hx, hb, hml, hown, hts⟩ (c_puts l D ca _ h0 ab af 0 (nI t) g 192 (by omega)) (cwV 1 hts g_c_closes_c_puts_37 rfl rfl rfl (by decide +kernel) ⟨Nat.le_of_ble_eq_true rfl, Nat.le_of_ble_eq_true rfl⟩) hK hN hP hD [1, 0] rfl rfl rfl rfl rfl rfl hl.1 rfl (Nat.le_of_ble_eq_true rfl) dX0_closes_76 ⟨Nat.le_of_ble_eq_true rfl, Nat.le_of_ble_eq_true rfl⟩) hP hD hS hA [1, 0] [2] rfl rfl rfl (by decide) (fun uu_ tt H locs hr_10 hB hj hS => ?_)
    obtain ⟨u_8, f_9, hu_8, hWd⟩ := hB
    obtain ⟨hP, hD⟩ := hj _ hWd
    have hP : va_P D vwCl [(af, .inl (ca 0, 74, .inl f_5)), (h0, .inr (0, [.ref ab, .int (nI u_8), .ref af, .int (nI t)])), (ab, .inl (ca 0, 4000, .inl f_9))] H := hP
    have hD : va_D A [(af, .inl (ca 0, 74, .inl f_5)), (h0, .inr (0, [.ref ab, .int (nI u_8), .ref af, .int (nI t)])), (ab, .inl (ca 0, 4000, .inl f_9))] := hD
    refine lv_iconst (v := 0) hx hb dX0_closes_79 (by decide) ?_
    refine lv_istore_n (lv' := [(3, .int 0), (2, .int (nI (t + 2))), (1, .int r_1), (0, .ref h0)]) hx hb dX0_closes_80 rfl hl (by decide) rfl (fun ls hl => ?_)
    have key_81 : ∀ (fu : Nat) (j : Nat) (u : Nat) (gg : Nat → Int32) (hj : j ≤ (t + 2)) (hu : u ≤ 4000) (hm_81 : (t + 2) + 1 ≤ j + fu) (H : Heap) (locs : List Loc) (ls : Array Slot), va_P D vwCl [(af, .inl (ca 0, 74, .inl f_5)), (h0, .inr (0, [.ref ab, .int (nI u), .ref af, .int (nI t)])), (ab, .inl (ca 0, 4000, .inl gg))] H → va_D A [(af, .inl (ca 0, 74, .inl f_5)), (h0, .inr (0, [.ref ab, .int (nI u), .ref af, .int (nI t)])), (ab, .inl (ca 0, 4000, .inl gg))] → va_S A s.heap H locs → lv_has ls 4 [(3, .int (nI j)), (2, .int (nI (t + 2))), (1, .int r_1), (0, .ref h0)] → W p l e (headSpec w_c_closes ({ frames := 2, cells := 0, slots := 0, locals := 43 })).room s m [.ref h0].toArray below meth c H locs 0 0 (MQ below (va_Qv (fun _ : Unit => True) (fun (_ : Unit) (tt : State) => Wd D (A) [] tt) (A)) [.ref h0].toArray s 0 0 A) (F0 m 81 ls []) := by
      intro fu
      induction fu with
      | zero =>
        intro j u gg hj hu hm_81
        exact absurd hm_81 (by omega)
      | succ fu ih_81 =>
        intro j u gg hj hu hm_81 H locs ls hP hD hS hl
        refine lv_iload_n hx hb dX0_closes_81 rfl (lv_at hl 0 rfl) ?_
        refine lv_iload_n hx hb dX0_closes_82 rfl (lv_at hl 1 rfl) ?_
        refine lv_icmp_ge (tgt := 136) hx hb dX0_closes_83 (by decide) (fun c_83 => ?_) (fun c_83 => ?_)
        · refine lv_aload_n hx hb dX0_closes_136 rfl (lv_at hl 3 rfl) ?_
          refine lv_sipush (v := 193) hx hb dX0_closes_137 (by decide) ?_
          refine kGo_v (wr := [(af, .inl (ca 0, 74, .inl f_5))]) (kRunV (As := [.int 193]) (rest := []) ⟨hx, hb, hml, hown, hts⟩ (c_puts l D ca _ h0 ab af u (nI t) gg 193 (by omega)) (cwV 1 hts g_c_closes_c_puts_37 rfl rfl rfl (by decide +kernel) ⟨Nat.le_of_ble_eq_true rfl, Nat.le_of_ble_eq_true rfl⟩) hK hN hP hD [1, 2] rfl rfl rfl rfl rfl rfl hl.1 rfl (Nat.le_of_ble_eq_true rfl) dX0_closes_140 ⟨Nat.le_of_ble_eq_true rfl, Nat.le_of_ble_eq_true rfl⟩) hP hD hS hA [1, 2] [0] rfl rfl rfl (by decide) (fun uu_ tt H locs hr_13 hB hj hS => ?_)
          obtain ⟨u_11, f_12, hu_11, hWd⟩ := hB
          obtain ⟨hP, hD⟩ := hj _ hWd
          have hP : va_P D vwCl [(af, .inl (ca 0, 74, .inl f_5)), (h0, .inr (0, [.ref ab, .int (nI u_11), .ref af, .int (nI t)])), (ab, .inl (ca 0, 4000, .inl f_12))] H := hP
          have hD : va_D A [(af, .inl (ca 0, 74, .inl f_5)), (h0, .inr (0, [.ref ab, .int (nI u_11), .ref af, .int (nI t)])), (ab, .inl (ca 0, 4000, .inl f_12))] := hD
          exact W.vret hx hb hr (fun tt ht hW => ⟨⟨(), rfl, trivial, ⟨by rw [ht]; exact hP.sub [] rfl, hD.sub [] rfl rfl⟩⟩, hS.F ht⟩) hS.2.2 dX0_closes_143
        · have hjt : j < t + 2 := k_ltI (by omega) (by omega) c_83
          refine lv_aload_n hx hb dX0_closes_86 rfl (lv_at hl 3 rfl) ?_
          refine va_get (D := D) (ci := 0) (v := .ref af) (C := RX0) (T := TX0) (N := 4) hx hb hts hi_X0 hown hK hP 1 rfl rfl 2 (by decide) (hts (.fieldLink RX0 15 "BeamHouse$Air" "frame" "[I") (List.mem_of_getElem? (i := 1) rfl)) (fun _ h9 => h9) rfl dX0_closes_87 ?_
          refine lv_iload_n hx hb dX0_closes_90 rfl (lv_at hl 0 rfl) ?_
          refine va_iald hx hb hK hP 0 0 rfl rfl (vp_in_nI (by omega) (by decide)) dX0_closes_91 ?_
          refine lv_topi (fun x_14 ex_14 => ?_)
          refine kGo_i (wr := [(af, .inl (ca 0, 74, .inl f_5)), (h0, .inr (0, [.ref ab, .int (nI u), .ref af, .int (nI t)])), (ab, .inl (ca 0, 4000, .inl gg))]) (kRunS (As := [.int x_14]) (rest := []) ⟨hx, hb, hml, hown, hts⟩ (c_isSpecial l D ca _ x_14) (va_cwS 1 hts g_c_closes_c_isSpecial_40 rfl rfl rfl (by decide +kernel) ⟨Nat.le_of_ble_eq_true rfl, Nat.le_of_ble_eq_true rfl⟩) hK hN hP hD [] rfl rfl rfl hl.1 rfl (Nat.le_of_ble_eq_true rfl) dX0_closes_92 ⟨Nat.le_of_ble_eq_true rfl, Nat.le_of_ble_eq_true rfl⟩) hP hD hS hA [] [0, 1, 2] rfl rfl rfl (by decide) (fun r_15 uu_ tt H locs hr_15 hB hj hS => ?_)
          have hWd := hB
          obtain ⟨hP, hD⟩ := hj _ hWd
          have hP : va_P D vwCl [(af, .inl (ca 0, 74, .inl f_5)), (h0, .inr (0, [.ref ab, .int (nI u), .ref af, .int (nI t)])), (ab, .inl (ca 0, 4000, .inl gg))] H := hP
          have hD : va_D A [(af, .inl (ca 0, 74, .inl f_5)), (h0, .inr (0, [.ref ab, .int (nI u), .ref af, .int (nI t)])), (ab, .inl (ca 0, 4000, .inl gg))] := hD
          refine lv_if_eq (tgt := 120) hx hb dX0_closes_95 (by decide) (fun c_95 => ?_) (fun c_95 => ?_)
          · refine lv_aload_n hx hb dX0_closes_120 rfl (lv_at hl 3 rfl) ?_
            refine lv_aload_n hx hb dX0_closes_121 rfl (lv_at hl 3 rfl) ?_
            refine va_get (D := D) (ci := 0) (v := .ref af) (C := RX0) (T := TX0) (N := 4) hx hb hts hi_X0 hown hK hP 1 rfl rfl 2 (by decide) (hts (.fieldLink RX0 15 "BeamHouse$Air" "frame" "[I") (List.mem_of_getElem? (i := 1) rfl)) (fun _ h9 => h9) rfl dX0_closes_122 ?_
            refine lv_iload_n hx hb dX0_closes_125 rfl (lv_at hl 0 rfl) ?_
            refine va_iald hx hb hK hP 0 0 rfl rfl (vp_in_nI (by omega) (by decide)) dX0_closes_126 ?_
            refine lv_topi (fun x_16 ex_16 => ?_)
            refine kGo_v (wr := [(af, .inl (ca 0, 74, .inl f_5))]) (kRunV (As := [.int x_16]) (rest := []) ⟨hx, hb, hml, hown, hts⟩ (c_puts l D ca _ h0 ab af u (nI t) gg x_16 (by omega)) (cwV 1 hts g_c_closes_c_puts_37 rfl rfl rfl (by decide +kernel) ⟨Nat.le_of_ble_eq_true rfl, Nat.le_of_ble_eq_true rfl⟩) hK hN hP hD [1, 2] rfl rfl rfl rfl rfl rfl hl.1 rfl (Nat.le_of_ble_eq_true rfl) dX0_closes_127 ⟨Nat.le_of_ble_eq_true rfl, Nat.le_of_ble_eq_true rfl⟩) hP hD hS hA [1, 2] [0] rfl rfl rfl (by decide) (fun uu_ tt H locs hr_19 hB hj hS => ?_)
            obtain ⟨u_17, f_18, hu_17, hWd⟩ := hB
            obtain ⟨hP, hD⟩ := hj _ hWd
            have hP : va_P D vwCl [(af, .inl (ca 0, 74, .inl f_5)), (h0, .inr (0, [.ref ab, .int (nI u_17), .ref af, .int (nI t)])), (ab, .inl (ca 0, 4000, .inl f_18))] H := hP
            have hD : va_D A [(af, .inl (ca 0, 74, .inl f_5)), (h0, .inr (0, [.ref ab, .int (nI u_17), .ref af, .int (nI t)])), (ab, .inl (ca 0, 4000, .inl f_18))] := hD
            refine lv_iinc (v := (nI (j + 1))) (lv' := [(3, .int (nI (j + 1))), (2, .int (nI (t + 2))), (1, .int r_1), (0, .ref h0)]) hx hb dX0_closes_130 hl (k := 0) rfl (nI_1 j) (by decide) rfl (fun ls hl => ?_)
            refine lv_goto (tgt := 81) hx hb dX0_closes_133 (by decide) ?_
            exact ih_81 (j + 1) u_17 f_18 (by omega) (by omega) (by omega) _ _ _ hP hD hS (lv_sub hl [0, 1, 2, 3] rfl)
          · refine lv_aload_n hx hb dX0_closes_98 rfl (lv_at hl 3 rfl) ?_
            refine lv_bipush (v := 125) hx hb dX0_closes_99 (by decide) ?_
            refine kGo_v (wr := [(af, .inl (ca 0, 74, .inl f_5))]) (kRunV (As := [.int 125]) (rest := []) ⟨hx, hb, hml, hown, hts⟩ (c_puts l D ca _ h0 ab af u (nI t) gg 125 (by omega)) (cwV 1 hts g_c_closes_c_puts_37 rfl rfl rfl (by decide +kernel) ⟨Nat.le_of_ble_eq_true rfl, Nat.le_of_ble_eq_true rfl⟩) hK hN hP hD [1, 2] rfl rfl rfl rfl rfl rfl hl.1 rfl (Nat.le_of_ble_eq_true rfl) dX0_closes_101 ⟨Nat.le_of_ble_eq_true rfl, Nat.le_of_ble_eq_true rfl⟩) hP hD hS hA [1, 2] [0] rfl rfl rfl (by decide) (fun uu_ tt H locs hr_22 hB hj hS => ?_)
            obtain ⟨u_20, f_21, hu_20, hWd⟩ := hB
            obtain ⟨hP, hD⟩ := hj _ hWd
            have hP : va_P D vwCl [(af, .inl (ca 0, 74, .inl f_5)), (h0, .inr (0, [.ref ab, .int (nI u_20), .ref af, .int (nI t)])), (ab, .inl (ca 0, 4000, .inl f_21))] H := hP
            have hD : va_D A [(af, .inl (ca 0, 74, .inl f_5)), (h0, .inr (0, [.ref ab, .int (nI u_20), .ref af, .int (nI t)])), (ab, .inl (ca 0, 4000, .inl f_21))] := hD
            refine lv_aload_n hx hb dX0_closes_104 rfl (lv_at hl 3 rfl) ?_
            refine lv_aload_n hx hb dX0_closes_105 rfl (lv_at hl 3 rfl) ?_
            refine va_get (D := D) (ci := 0) (v := .ref af) (C := RX0) (T := TX0) (N := 4) hx hb hts hi_X0 hown hK hP 1 rfl rfl 2 (by decide) (hts (.fieldLink RX0 15 "BeamHouse$Air" "frame" "[I") (List.mem_of_getElem? (i := 1) rfl)) (fun _ h9 => h9) rfl dX0_closes_106 ?_
            refine lv_iload_n hx hb dX0_closes_109 rfl (lv_at hl 0 rfl) ?_
            refine va_iald hx hb hK hP 0 0 rfl rfl (vp_in_nI (by omega) (by decide)) dX0_closes_110 ?_
            refine lv_topi (fun x_23 ex_23 => ?_)
            refine lv_bipush (v := 32) hx hb dX0_closes_111 (by decide) ?_
            refine lv_ixor hx hb dX0_closes_113 ?_
            refine lv_topi (fun x_24 ex_24 => ?_)
            refine kGo_v (wr := [(af, .inl (ca 0, 74, .inl f_5))]) (kRunV (As := [.int x_24]) (rest := []) ⟨hx, hb, hml, hown, hts⟩ (c_puts l D ca _ h0 ab af u_20 (nI t) f_21 x_24 (by omega)) (cwV 1 hts g_c_closes_c_puts_37 rfl rfl rfl (by decide +kernel) ⟨Nat.le_of_ble_eq_true rfl, Nat.le_of_ble_eq_true rfl⟩) hK hN hP hD [1, 2] rfl rfl rfl rfl rfl rfl hl.1 rfl (Nat.le_of_ble_eq_true rfl) dX0_closes_114 ⟨Nat.le_of_ble_eq_true rfl, Nat.le_of_ble_eq_true rfl⟩) hP hD hS hA [1, 2] [0] rfl rfl rfl (by decide) (fun uu_ tt H locs hr_27 hB hj hS => ?_)
            obtain ⟨u_25, f_26, hu_25, hWd⟩ := hB
            obtain ⟨hP, hD⟩ := hj _ hWd
            have hP : va_P D vwCl [(af, .inl (ca 0, 74, .inl f_5)), (h0, .inr (0, [.ref ab, .int (nI u_25), .ref af, .int (nI t)])), (ab, .inl (ca 0, 4000, .inl f_26))] H := hP
            have hD : va_D A [(af, .inl (ca 0, 74, .inl f_5)), (h0, .inr (0, [.ref ab, .int (nI u_25), .ref af, .int (nI t)])), (ab, .inl (ca 0, 4000, .inl f_26))] := hD
            refine lv_goto (tgt := 130) hx hb dX0_closes_117 (by decide) ?_
            refine lv_iinc (v := (nI (j + 1))) (lv' := [(3, .int (nI (j + 1))), (2, .int (nI (t + 2))), (1, .int r_1), (0, .ref h0)]) hx hb dX0_closes_130 hl (k := 0) rfl (nI_1 j) (by decide) rfl (fun ls hl => ?_)
            refine lv_goto (tgt := 81) hx hb dX0_closes_133 (by decide) ?_
            exact ih_81 (j + 1) u_25 f_26 (by omega) (by omega) (by omega) _ _ _ hP hD hS (lv_sub hl [0, 1, 2, 3] rfl)
    exact key_81 ((t + 2) + 1) 0 u_8 f_9 (by omega) (by omega) (by omega) _ _ _ hP hD hS (lv_sub hl [0, 1, 2, 3] rfl)
  · exact W.vret hx hb hr (fun tt ht hW => ⟨⟨(), rfl, trivial, ⟨by rw [ht]; exact hP.sub [] rfl, hD.sub [] rfl rfl⟩⟩, hS.F ht⟩) hS.2.2 dX0_closes_71
def w_c_sendsCall : List Cond := .code yX1_sendsCall cX1_sendsCall 1 none :: (([.fieldLink RX1 12 "BeamHouse$Device" "air" "LBeamHouse$Air;", .code yX0_begins cX0_begins 3 none, .fieldLink RX0 18 "BeamHouse$Air" "framed" "I", .code yX0_adds cX0_adds 2 none, .fieldLink RX0 15 "BeamHouse$Air" "frame" "[I", .methodLink RX0 22 yX0_adds, .instanceMethod yX0_adds, .selects RX0 yX0_adds yX0_adds, .initialized RX0, .methodLink RX1 114 yX0_begins, .instanceMethod yX0_begins, .selects RX0 yX0_begins yX0_begins, .fieldLink RX1 53 "BeamHouse$Device" "address" "I", .code yX0_addsAddress cX0_addsAddress 3 none, .methodLink RX1 117 yX0_addsAddress, .instanceMethod yX0_addsAddress, .selects RX0 yX0_addsAddress yX0_addsAddress, .fieldLink RX1 35 "BeamHouse$Device" "link" "LBeamHouse$Link;", .fieldLink RX1 121 "BeamHouse$Link" "other" "I", .fieldLink RX1 124 "BeamHouse$Link" "number" "I", .methodLink RX1 127 yX0_adds, .fieldLink RX1 130 "BeamHouse$Link" "window" "I", .code yX0_closes cX0_closes 4 none, .code yX11_check cX11_check 5 (some .int), .constant RX11 234 (65535), .constant RX11 235 (33800), .initialized RX11, .static yX11_check, .fieldLink RX0 30 "BeamHouse$Air" "length" "I", .code yX0_wrappedLength cX0_wrappedLength 4 (some .int), .code yX0_isSpecial cX0_isSpecial 1 (some .boolean), .methodLink RX0 40 yX0_isSpecial, .static yX0_isSpecial, .methodLink RX0 33 yX0_wrappedLength, .instanceMethod yX0_wrappedLength, .selects RX0 yX0_wrappedLength yX0_wrappedLength, .code yX0_puts cX0_puts 2 none, .fieldLink RX0 9 "BeamHouse$Air" "bytes" "[I", .methodLink RX0 37 yX0_puts, .instanceMethod yX0_puts, .selects RX0 yX0_puts yX0_puts, .methodLink RX1 133 yX0_closes, .instanceMethod yX0_closes, .selects RX0 yX0_closes yX0_closes] : List Cond) ++ wsX10 ++ wsX00 ++ wsX30)
theorem g_c_sendsCall_c_air_begins_114 : GoodIn w_c_sendsCall (wsV RX1 114 RX0 yX0_begins w_c_air_begins) := (goodIn_app (goodIn_r _ [10, 11, 12, 9] rfl rfl) (goodIn_ca (goodIn_r _ [2, 3, 4, 5, 6, 7, 8, 9] rfl rfl) (goodIn_sub (fun _ h => List.mem_cons_of_mem _ (List.mem_append_left _ (List.mem_append_right _ h))) gw_X0)))
theorem g_c_sendsCall_c_addsAddress_117 : GoodIn w_c_sendsCall (wsV RX1 117 RX0 yX0_addsAddress w_c_addsAddress) := (goodIn_app (goodIn_r _ [15, 16, 17, 9] rfl rfl) (goodIn_ca (goodIn_r _ [14, 4, 3, 5, 6, 7, 8, 9] rfl rfl) (goodIn_sub (fun _ h => List.mem_cons_of_mem _ (List.mem_append_left _ (List.mem_append_right _ h))) gw_X0)))
theorem g_c_sendsCall_c_adds_127 : GoodIn w_c_sendsCall (wsV RX1 127 RX0 yX0_adds w_c_adds) := (goodIn_app (goodIn_r _ [21, 7, 8, 9] rfl rfl) (goodIn_ca (goodIn_r _ [4, 3, 5] rfl rfl) (goodIn_sub (fun _ h => List.mem_cons_of_mem _ (List.mem_append_left _ (List.mem_append_right _ h))) gw_X0)))
theorem g_c_sendsCall_c_closes_133 : GoodIn w_c_sendsCall (wsV RX1 133 RX0 yX0_closes w_c_closes) := (goodIn_app (goodIn_r _ [42, 43, 44, 9] rfl rfl) (goodIn_ca (goodIn_r _ [23, 5, 3, 24, 25, 26, 27, 28, 29, 30, 31, 32, 33, 9, 34, 35, 36, 37, 38, 39, 40, 41] rfl rfl) (goodIn_sub (fun _ h => List.mem_cons_of_mem _ (List.mem_append_left _ (List.mem_append_right _ h))) gw_X0)))
set_option maxHeartbeats 4000000 in
set_option maxRecDepth 100000 in
theorem c_sendsCall (l : Launch) (D : va_G) (ca : Nat → ClassId) (sz : Nat) (a : Nat → Nat) (sv : Int32) (ad : Int32) (se : Int32) (nb : Int32) (wd : Int32) (ot : Int32)  : Met l yX1_sendsCall w_c_sendsCall ({ frames := 3, cells := 0, slots := 0, locals := 66 }) (Pre D ca [.ref (a 0)] [((a 0), .inr (1, [.ref (a 1), .ref (a 4), .ref (a 5), .ref (a 6), .ref (a 8), .ref (a 10), .int sv, .int ad, .int se])), ((a 1), .inr (0, [.ref (a 2), .int 0, .ref (a 3), .int 0])), ((a 2), .inl (ca 0, 4000, .inl (fun _ => 0))), ((a 3), .inl (ca 0, 74, .inl (fun _ => 0))), ((a 6), .inr (3, [.ref (a 7), .int nb, .int wd, .int ot, .int 0, .int 0, .int 0, .int 0, .int 0, .int 0, .int 0, .int 0, .int 0, .int 0]))] sz) (va_Qv (fun _ : Unit => True) (fun (_ : Unit) (tt : State) => Wd D (va_A [((a 0), .inr (1, [.ref (a 1), .ref (a 4), .ref (a 5), .ref (a 6), .ref (a 8), .ref (a 10), .int sv, .int ad, .int se])), ((a 1), .inr (0, [.ref (a 2), .int 0, .ref (a 3), .int 0])), ((a 2), .inl (ca 0, 4000, .inl (fun _ => 0))), ((a 3), .inl (ca 0, 74, .inl (fun _ => 0))), ((a 6), .inr (3, [.ref (a 7), .int nb, .int wd, .int ot, .int 0, .int 0, .int 0, .int 0, .int 0, .int 0, .int 0, .int 0, .int 0, .int 0]))] sz) [((a 0), .inr (1, [.ref (a 1), .ref (a 4), .ref (a 5), .ref (a 6), .ref (a 8), .ref (a 10), .int sv, .int ad, .int se])), ((a 6), .inr (3, [.ref (a 7), .int nb, .int wd, .int ot, .int 0, .int 0, .int 0, .int 0, .int 0, .int 0, .int 0, .int 0, .int 0, .int 0]))] tt) (va_A [((a 0), .inr (1, [.ref (a 1), .ref (a 4), .ref (a 5), .ref (a 6), .ref (a 8), .ref (a 10), .int sv, .int ad, .int se])), ((a 1), .inr (0, [.ref (a 2), .int 0, .ref (a 3), .int 0])), ((a 2), .inl (ca 0, 4000, .inl (fun _ => 0))), ((a 3), .inl (ca 0, 74, .inl (fun _ => 0))), ((a 6), .inr (3, [.ref (a 7), .int nb, .int wd, .int ot, .int 0, .int 0, .int 0, .int 0, .int 0, .int 0, .int 0, .int 0, .int 0, .int 0]))] sz)) 0 0 (va_A [((a 0), .inr (1, [.ref (a 1), .ref (a 4), .ref (a 5), .ref (a 6), .ref (a 8), .ref (a 10), .int sv, .int ad, .int se])), ((a 1), .inr (0, [.ref (a 2), .int 0, .ref (a 3), .int 0])), ((a 2), .inl (ca 0, 4000, .inl (fun _ => 0))), ((a 3), .inl (ca 0, 74, .inl (fun _ => 0))), ((a 6), .inr (3, [.ref (a 7), .int nb, .int wd, .int ot, .int 0, .int 0, .int 0, .int 0, .int 0, .int 0, .int 0, .int 0, .int 0, .int 0]))] sz) := by
  refine Met.ofW (cc := cX1_sendsCall) (maxL := 1) (ret := none) (by decide) rfl ?_
  intro p e s m args below meth c s₁ B hml hv
  obtain ⟨rfl, hsz, hP, hK, hD0, hN⟩ := hv
  have hx := B.exec
  have hb := B.bytes
  have hr := B.returns
  have hts := atoms_spec (ws := w_c_sendsCall) B.pre
  have hown : s.vm.findClass RX1 = some m.cls := findClass_of_methodNamed B.named
  have hlocks := B.notSynchronized
  have hi_X1 : ∀ w ∈ wsX10, w ∈ w_c_sendsCall := fun _ h => List.mem_cons_of_mem _ (List.mem_append_left _ (List.mem_append_left _ (List.mem_append_right _ h)))
  have hi_X0 : ∀ w ∈ wsX00, w ∈ w_c_sendsCall := fun _ h => List.mem_cons_of_mem _ (List.mem_append_left _ (List.mem_append_right _ h))
  have hi_X3 : ∀ w ∈ wsX30, w ∈ w_c_sendsCall := fun _ h => List.mem_cons_of_mem _ (List.mem_append_right _ h)
  subst hsz
  have hD := hD0.self (sz := s.heap.size)
  generalize hAe : va_A [((a 0), .inr (1, [.ref (a 1), .ref (a 4), .ref (a 5), .ref (a 6), .ref (a 8), .ref (a 10), .int sv, .int ad, .int se])), ((a 1), .inr (0, [.ref (a 2), .int 0, .ref (a 3), .int 0])), ((a 2), .inl (ca 0, 4000, .inl (fun _ => 0))), ((a 3), .inl (ca 0, 74, .inl (fun _ => 0))), ((a 6), .inr (3, [.ref (a 7), .int nb, .int wd, .int ot, .int 0, .int 0, .int 0, .int 0, .int 0, .int 0, .int 0, .int 0, .int 0, .int 0]))] s.heap.size = A at hD ⊢
  have hA : ∀ q : Nat, s.heap.size ≤ q → A q := fun q h => by rw [← hAe]; exact Or.inr h
  have hS : va_S A s.heap s.heap [] := va_S.rf
  have hP : va_P D vwCl [((a 0), .inr (1, [.ref (a 1), .ref (a 4), .ref (a 5), .ref (a 6), .ref (a 8), .ref (a 10), .int sv, .int ad, .int se])), ((a 1), .inr (0, [.ref (a 2), .int 0, .ref (a 3), .int 0])), ((a 2), .inl (ca 0, 4000, .inl (fun _ => 0))), ((a 3), .inl (ca 0, 74, .inl (fun _ => 0))), ((a 6), .inr (3, [.ref (a 7), .int nb, .int wd, .int ot, .int 0, .int 0, .int 0, .int 0, .int 0, .int 0, .int 0, .int 0, .int 0, .int 0]))] s.heap := hP
  have hl := lv_entry ([.ref (a 0)]) (n := 1) (Nat.le_of_ble_eq_true rfl)
  rw [lg_entry_eq]
  generalize (lg_sl ([.ref (a 0)]) ++ List.replicate (1 - (lg_sl ([.ref (a 0)])).length) Slot.unset).toArray = ls at hl ⊢
  have hl : lv_has ls 1 [(0, .ref (a 0))] := hl
  refine lv_aload_n hx hb dX1_sendsCall_0 rfl (lv_at hl 0 rfl) ?_
  refine va_get (D := D) (ci := 1) (v := .ref (a 1)) (C := RX1) (T := TX1) (N := 9) hx hb hts hi_X1 hown hK hP 0 rfl rfl 0 (by decide) (hts (.fieldLink RX1 12 "BeamHouse$Device" "air" "LBeamHouse$Air;") (List.mem_of_getElem? (i := 1) rfl)) (fun _ h9 => h9) rfl dX1_sendsCall_1 ?_
  refine lv_sipush (v := 255) hx hb dX1_sendsCall_4 (by decide) ?_
  refine lv_sipush (v := 147) hx hb dX1_sendsCall_7 (by decide) ?_
  refine kGo_v (wr := [((a 0), .inr (1, [.ref (a 1), .ref (a 4), .ref (a 5), .ref (a 6), .ref (a 8), .ref (a 10), .int sv, .int ad, .int se])), ((a 2), .inl (ca 0, 4000, .inl (fun _ => 0))), ((a 6), .inr (3, [.ref (a 7), .int nb, .int wd, .int ot, .int 0, .int 0, .int 0, .int 0, .int 0, .int 0, .int 0, .int 0, .int 0, .int 0]))]) (kRunV (As := [.int 255, .int 147]) (rest := []) ⟨hx, hb, hml, hown, hts⟩ (c_air_begins l D ca _ (a 1) (a 2) (a 3) 0 0 (fun _ => 0) 255 147) (cwV 2 hts g_c_sendsCall_c_air_begins_114 rfl rfl rfl (by decide +kernel) ⟨Nat.le_of_ble_eq_true rfl, Nat.le_of_ble_eq_true rfl⟩) hK hN hP hD [1, 3] rfl rfl rfl rfl rfl rfl hl.1 rfl (Nat.le_of_ble_eq_true rfl) dX1_sendsCall_10 ⟨Nat.le_of_ble_eq_true rfl, Nat.le_of_ble_eq_true rfl⟩) hP hD hS hA [1, 3] [0, 2, 4] rfl rfl rfl (by decide) (fun uu_ tt H locs hr_2 hB hj hS => ?_)
  obtain ⟨f_1, hWd⟩ := hB
  obtain ⟨hP, hD⟩ := hj _ hWd
  have hP : va_P D vwCl [((a 0), .inr (1, [.ref (a 1), .ref (a 4), .ref (a 5), .ref (a 6), .ref (a 8), .ref (a 10), .int sv, .int ad, .int se])), ((a 2), .inl (ca 0, 4000, .inl (fun _ => 0))), ((a 6), .inr (3, [.ref (a 7), .int nb, .int wd, .int ot, .int 0, .int 0, .int 0, .int 0, .int 0, .int 0, .int 0, .int 0, .int 0, .int 0])), ((a 1), .inr (0, [.ref (a 2), .int 0, .ref (a 3), .int (nI 2)])), ((a 3), .inl (ca 0, 74, .inl f_1))] H := hP
  have hD : va_D A [((a 0), .inr (1, [.ref (a 1), .ref (a 4), .ref (a 5), .ref (a 6), .ref (a 8), .ref (a 10), .int sv, .int ad, .int se])), ((a 2), .inl (ca 0, 4000, .inl (fun _ => 0))), ((a 6), .inr (3, [.ref (a 7), .int nb, .int wd, .int ot, .int 0, .int 0, .int 0, .int 0, .int 0, .int 0, .int 0, .int 0, .int 0, .int 0])), ((a 1), .inr (0, [.ref (a 2), .int 0, .ref (a 3), .int (nI 2)])), ((a 3), .inl (ca 0, 74, .inl f_1))] := hD
  refine lv_aload_n hx hb dX1_sendsCall_13 rfl (lv_at hl 0 rfl) ?_
  refine va_get (D := D) (ci := 1) (v := .ref (a 1)) (C := RX1) (T := TX1) (N := 9) hx hb hts hi_X1 hown hK hP 0 rfl rfl 0 (by decide) (hts (.fieldLink RX1 12 "BeamHouse$Device" "air" "LBeamHouse$Air;") (List.mem_of_getElem? (i := 1) rfl)) (fun _ h9 => h9) rfl dX1_sendsCall_14 ?_
  refine lv_aload_n hx hb dX1_sendsCall_17 rfl (lv_at hl 0 rfl) ?_
  refine va_get (D := D) (ci := 1) (v := .int ad) (C := RX1) (T := TX1) (N := 9) hx hb hts hi_X1 hown hK hP 0 rfl rfl 7 (by decide) (hts (.fieldLink RX1 53 "BeamHouse$Device" "address" "I") (List.mem_of_getElem? (i := 13) rfl)) (fun _ h9 => h9) rfl dX1_sendsCall_18 ?_
  refine kGo_v (wr := [((a 0), .inr (1, [.ref (a 1), .ref (a 4), .ref (a 5), .ref (a 6), .ref (a 8), .ref (a 10), .int sv, .int ad, .int se])), ((a 2), .inl (ca 0, 4000, .inl (fun _ => 0))), ((a 6), .inr (3, [.ref (a 7), .int nb, .int wd, .int ot, .int 0, .int 0, .int 0, .int 0, .int 0, .int 0, .int 0, .int 0, .int 0, .int 0]))]) (kRunV (As := [.int ad]) (rest := []) ⟨hx, hb, hml, hown, hts⟩ (c_addsAddress l D ca _ (a 1) (a 2) (a 3) 0 2 f_1 ad (by decide)) (cwV 1 hts g_c_sendsCall_c_addsAddress_117 rfl rfl rfl (by decide +kernel) ⟨Nat.le_of_ble_eq_true rfl, Nat.le_of_ble_eq_true rfl⟩) hK hN hP hD [3, 4] rfl rfl rfl rfl rfl rfl hl.1 rfl (Nat.le_of_ble_eq_true rfl) dX1_sendsCall_21 ⟨Nat.le_of_ble_eq_true rfl, Nat.le_of_ble_eq_true rfl⟩) hP hD hS hA [3, 4] [0, 1, 2] rfl rfl rfl (by decide) (fun uu_ tt H locs hr_4 hB hj hS => ?_)
  obtain ⟨f_3, hWd⟩ := hB
  obtain ⟨hP, hD⟩ := hj _ hWd
  have hP : va_P D vwCl [((a 0), .inr (1, [.ref (a 1), .ref (a 4), .ref (a 5), .ref (a 6), .ref (a 8), .ref (a 10), .int sv, .int ad, .int se])), ((a 2), .inl (ca 0, 4000, .inl (fun _ => 0))), ((a 6), .inr (3, [.ref (a 7), .int nb, .int wd, .int ot, .int 0, .int 0, .int 0, .int 0, .int 0, .int 0, .int 0, .int 0, .int 0, .int 0])), ((a 1), .inr (0, [.ref (a 2), .int 0, .ref (a 3), .int (nI (2 + 4))])), ((a 3), .inl (ca 0, 74, .inl f_3))] H := hP
  have hD : va_D A [((a 0), .inr (1, [.ref (a 1), .ref (a 4), .ref (a 5), .ref (a 6), .ref (a 8), .ref (a 10), .int sv, .int ad, .int se])), ((a 2), .inl (ca 0, 4000, .inl (fun _ => 0))), ((a 6), .inr (3, [.ref (a 7), .int nb, .int wd, .int ot, .int 0, .int 0, .int 0, .int 0, .int 0, .int 0, .int 0, .int 0, .int 0, .int 0])), ((a 1), .inr (0, [.ref (a 2), .int 0, .ref (a 3), .int (nI (2 + 4))])), ((a 3), .inl (ca 0, 74, .inl f_3))] := hD
  have hP : va_P D vwCl [((a 0), .inr (1, [.ref (a 1), .ref (a 4), .ref (a 5), .ref (a 6), .ref (a 8), .ref (a 10), .int sv, .int ad, .int se])), ((a 2), .inl (ca 0, 4000, .inl (fun _ => 0))), ((a 6), .inr (3, [.ref (a 7), .int nb, .int wd, .int ot, .int 0, .int 0, .int 0, .int 0, .int 0, .int 0, .int 0, .int 0, .int 0, .int 0])), ((a 1), .inr (0, [.ref (a 2), .int 0, .ref (a 3), .int (nI 6)])), ((a 3), .inl (ca 0, 74, .inl f_3))] H := hP
  have hD : va_D A [((a 0), .inr (1, [.ref (a 1), .ref (a 4), .ref (a 5), .ref (a 6), .ref (a 8), .ref (a 10), .int sv, .int ad, .int se])), ((a 2), .inl (ca 0, 4000, .inl (fun _ => 0))), ((a 6), .inr (3, [.ref (a 7), .int nb, .int wd, .int ot, .int 0, .int 0, .int 0, .int 0, .int 0, .int 0, .int 0, .int 0, .int 0, .int 0])), ((a 1), .inr (0, [.ref (a 2), .int 0, .ref (a 3), .int (nI 6)])), ((a 3), .inl (ca 0, 74, .inl f_3))] := hD
  refine lv_aload_n hx hb dX1_sendsCall_24 rfl (lv_at hl 0 rfl) ?_
  refine va_get (D := D) (ci := 1) (v := .ref (a 1)) (C := RX1) (T := TX1) (N := 9) hx hb hts hi_X1 hown hK hP 0 rfl rfl 0 (by decide) (hts (.fieldLink RX1 12 "BeamHouse$Device" "air" "LBeamHouse$Air;") (List.mem_of_getElem? (i := 1) rfl)) (fun _ h9 => h9) rfl dX1_sendsCall_25 ?_
  refine lv_aload_n hx hb dX1_sendsCall_28 rfl (lv_at hl 0 rfl) ?_
  refine va_get (D := D) (ci := 1) (v := .ref (a 6)) (C := RX1) (T := TX1) (N := 9) hx hb hts hi_X1 hown hK hP 0 rfl rfl 3 (by decide) (hts (.fieldLink RX1 35 "BeamHouse$Device" "link" "LBeamHouse$Link;") (List.mem_of_getElem? (i := 18) rfl)) (fun _ h9 => h9) rfl dX1_sendsCall_29 ?_
  refine va_get (D := D) (ci := 3) (v := .int ot) (C := RX3) (T := TX3) (N := 14) hx hb hts hi_X3 hown hK hP 2 rfl rfl 3 (by decide) (hts (.fieldLink RX1 121 "BeamHouse$Link" "other" "I") (List.mem_of_getElem? (i := 19) rfl)) (fun _ h9 => h9) rfl dX1_sendsCall_32 ?_
  refine kGo_v (wr := [((a 0), .inr (1, [.ref (a 1), .ref (a 4), .ref (a 5), .ref (a 6), .ref (a 8), .ref (a 10), .int sv, .int ad, .int se])), ((a 2), .inl (ca 0, 4000, .inl (fun _ => 0))), ((a 6), .inr (3, [.ref (a 7), .int nb, .int wd, .int ot, .int 0, .int 0, .int 0, .int 0, .int 0, .int 0, .int 0, .int 0, .int 0, .int 0]))]) (kRunV (As := [.int ot]) (rest := []) ⟨hx, hb, hml, hown, hts⟩ (c_addsAddress l D ca _ (a 1) (a 2) (a 3) 0 6 f_3 ot (by decide)) (cwV 1 hts g_c_sendsCall_c_addsAddress_117 rfl rfl rfl (by decide +kernel) ⟨Nat.le_of_ble_eq_true rfl, Nat.le_of_ble_eq_true rfl⟩) hK hN hP hD [3, 4] rfl rfl rfl rfl rfl rfl hl.1 rfl (Nat.le_of_ble_eq_true rfl) dX1_sendsCall_35 ⟨Nat.le_of_ble_eq_true rfl, Nat.le_of_ble_eq_true rfl⟩) hP hD hS hA [3, 4] [0, 1, 2] rfl rfl rfl (by decide) (fun uu_ tt H locs hr_6 hB hj hS => ?_)
  obtain ⟨f_5, hWd⟩ := hB
  obtain ⟨hP, hD⟩ := hj _ hWd
  have hP : va_P D vwCl [((a 0), .inr (1, [.ref (a 1), .ref (a 4), .ref (a 5), .ref (a 6), .ref (a 8), .ref (a 10), .int sv, .int ad, .int se])), ((a 2), .inl (ca 0, 4000, .inl (fun _ => 0))), ((a 6), .inr (3, [.ref (a 7), .int nb, .int wd, .int ot, .int 0, .int 0, .int 0, .int 0, .int 0, .int 0, .int 0, .int 0, .int 0, .int 0])), ((a 1), .inr (0, [.ref (a 2), .int 0, .ref (a 3), .int (nI (6 + 4))])), ((a 3), .inl (ca 0, 74, .inl f_5))] H := hP
  have hD : va_D A [((a 0), .inr (1, [.ref (a 1), .ref (a 4), .ref (a 5), .ref (a 6), .ref (a 8), .ref (a 10), .int sv, .int ad, .int se])), ((a 2), .inl (ca 0, 4000, .inl (fun _ => 0))), ((a 6), .inr (3, [.ref (a 7), .int nb, .int wd, .int ot, .int 0, .int 0, .int 0, .int 0, .int 0, .int 0, .int 0, .int 0, .int 0, .int 0])), ((a 1), .inr (0, [.ref (a 2), .int 0, .ref (a 3), .int (nI (6 + 4))])), ((a 3), .inl (ca 0, 74, .inl f_5))] := hD
  have hP : va_P D vwCl [((a 0), .inr (1, [.ref (a 1), .ref (a 4), .ref (a 5), .ref (a 6), .ref (a 8), .ref (a 10), .int sv, .int ad, .int se])), ((a 2), .inl (ca 0, 4000, .inl (fun _ => 0))), ((a 6), .inr (3, [.ref (a 7), .int nb, .int wd, .int ot, .int 0, .int 0, .int 0, .int 0, .int 0, .int 0, .int 0, .int 0, .int 0, .int 0])), ((a 1), .inr (0, [.ref (a 2), .int 0, .ref (a 3), .int (nI 10)])), ((a 3), .inl (ca 0, 74, .inl f_5))] H := hP
  have hD : va_D A [((a 0), .inr (1, [.ref (a 1), .ref (a 4), .ref (a 5), .ref (a 6), .ref (a 8), .ref (a 10), .int sv, .int ad, .int se])), ((a 2), .inl (ca 0, 4000, .inl (fun _ => 0))), ((a 6), .inr (3, [.ref (a 7), .int nb, .int wd, .int ot, .int 0, .int 0, .int 0, .int 0, .int 0, .int 0, .int 0, .int 0, .int 0, .int 0])), ((a 1), .inr (0, [.ref (a 2), .int 0, .ref (a 3), .int (nI 10)])), ((a 3), .inl (ca 0, 74, .inl f_5))] := hD
  refine lv_aload_n hx hb dX1_sendsCall_38 rfl (lv_at hl 0 rfl) ?_
  refine va_get (D := D) (ci := 1) (v := .ref (a 1)) (C := RX1) (T := TX1) (N := 9) hx hb hts hi_X1 hown hK hP 0 rfl rfl 0 (by decide) (hts (.fieldLink RX1 12 "BeamHouse$Device" "air" "LBeamHouse$Air;") (List.mem_of_getElem? (i := 1) rfl)) (fun _ h9 => h9) rfl dX1_sendsCall_39 ?_
  refine lv_aload_n hx hb dX1_sendsCall_42 rfl (lv_at hl 0 rfl) ?_
  refine va_get (D := D) (ci := 1) (v := .ref (a 6)) (C := RX1) (T := TX1) (N := 9) hx hb hts hi_X1 hown hK hP 0 rfl rfl 3 (by decide) (hts (.fieldLink RX1 35 "BeamHouse$Device" "link" "LBeamHouse$Link;") (List.mem_of_getElem? (i := 18) rfl)) (fun _ h9 => h9) rfl dX1_sendsCall_43 ?_
  refine va_get (D := D) (ci := 3) (v := .int nb) (C := RX3) (T := TX3) (N := 14) hx hb hts hi_X3 hown hK hP 2 rfl rfl 1 (by decide) (hts (.fieldLink RX1 124 "BeamHouse$Link" "number" "I") (List.mem_of_getElem? (i := 20) rfl)) (fun _ h9 => h9) rfl dX1_sendsCall_46 ?_
  refine kGo_v (wr := [((a 0), .inr (1, [.ref (a 1), .ref (a 4), .ref (a 5), .ref (a 6), .ref (a 8), .ref (a 10), .int sv, .int ad, .int se])), ((a 2), .inl (ca 0, 4000, .inl (fun _ => 0))), ((a 6), .inr (3, [.ref (a 7), .int nb, .int wd, .int ot, .int 0, .int 0, .int 0, .int 0, .int 0, .int 0, .int 0, .int 0, .int 0, .int 0]))]) (kRunV (As := [.int nb]) (rest := []) ⟨hx, hb, hml, hown, hts⟩ (c_adds l D ca _ (a 1) (a 2) (a 3) 0 10 f_5 nb (by decide)) (cwV 1 hts g_c_sendsCall_c_adds_127 rfl rfl rfl (by decide +kernel) ⟨Nat.le_of_ble_eq_true rfl, Nat.le_of_ble_eq_true rfl⟩) hK hN hP hD [3, 4] rfl rfl rfl rfl rfl rfl hl.1 rfl (Nat.le_of_ble_eq_true rfl) dX1_sendsCall_49 ⟨Nat.le_of_ble_eq_true rfl, Nat.le_of_ble_eq_true rfl⟩) hP hD hS hA [3, 4] [0, 1, 2] rfl rfl rfl (by decide) (fun uu_ tt H locs hr_8 hB hj hS => ?_)
  obtain ⟨f_7, hWd⟩ := hB
  obtain ⟨hP, hD⟩ := hj _ hWd
  have hP : va_P D vwCl [((a 0), .inr (1, [.ref (a 1), .ref (a 4), .ref (a 5), .ref (a 6), .ref (a 8), .ref (a 10), .int sv, .int ad, .int se])), ((a 2), .inl (ca 0, 4000, .inl (fun _ => 0))), ((a 6), .inr (3, [.ref (a 7), .int nb, .int wd, .int ot, .int 0, .int 0, .int 0, .int 0, .int 0, .int 0, .int 0, .int 0, .int 0, .int 0])), ((a 1), .inr (0, [.ref (a 2), .int 0, .ref (a 3), .int (nI (10 + 1))])), ((a 3), .inl (ca 0, 74, .inl f_7))] H := hP
  have hD : va_D A [((a 0), .inr (1, [.ref (a 1), .ref (a 4), .ref (a 5), .ref (a 6), .ref (a 8), .ref (a 10), .int sv, .int ad, .int se])), ((a 2), .inl (ca 0, 4000, .inl (fun _ => 0))), ((a 6), .inr (3, [.ref (a 7), .int nb, .int wd, .int ot, .int 0, .int 0, .int 0, .int 0, .int 0, .int 0, .int 0, .int 0, .int 0, .int 0])), ((a 1), .inr (0, [.ref (a 2), .int 0, .ref (a 3), .int (nI (10 + 1))])), ((a 3), .inl (ca 0, 74, .inl f_7))] := hD
  have hP : va_P D vwCl [((a 0), .inr (1, [.ref (a 1), .ref (a 4), .ref (a 5), .ref (a 6), .ref (a 8), .ref (a 10), .int sv, .int ad, .int se])), ((a 2), .inl (ca 0, 4000, .inl (fun _ => 0))), ((a 6), .inr (3, [.ref (a 7), .int nb, .int wd, .int ot, .int 0, .int 0, .int 0, .int 0, .int 0, .int 0, .int 0, .int 0, .int 0, .int 0])), ((a 1), .inr (0, [.ref (a 2), .int 0, .ref (a 3), .int (nI 11)])), ((a 3), .inl (ca 0, 74, .inl f_7))] H := hP
  have hD : va_D A [((a 0), .inr (1, [.ref (a 1), .ref (a 4), .ref (a 5), .ref (a 6), .ref (a 8), .ref (a 10), .int sv, .int ad, .int se])), ((a 2), .inl (ca 0, 4000, .inl (fun _ => 0))), ((a 6), .inr (3, [.ref (a 7), .int nb, .int wd, .int ot, .int 0, .int 0, .int 0, .int 0, .int 0, .int 0, .int 0, .int 0, .int 0, .int 0])), ((a 1), .inr (0, [.ref (a 2), .int 0, .ref (a 3), .int (nI 11)])), ((a 3), .inl (ca 0, 74, .inl f_7))] := hD
  refine lv_aload_n hx hb dX1_sendsCall_52 rfl (lv_at hl 0 rfl) ?_
  refine va_get (D := D) (ci := 1) (v := .ref (a 1)) (C := RX1) (T := TX1) (N := 9) hx hb hts hi_X1 hown hK hP 0 rfl rfl 0 (by decide) (hts (.fieldLink RX1 12 "BeamHouse$Device" "air" "LBeamHouse$Air;") (List.mem_of_getElem? (i := 1) rfl)) (fun _ h9 => h9) rfl dX1_sendsCall_53 ?_
  refine lv_aload_n hx hb dX1_sendsCall_56 rfl (lv_at hl 0 rfl) ?_
  refine va_get (D := D) (ci := 1) (v := .ref (a 6)) (C := RX1) (T := TX1) (N := 9) hx hb hts hi_X1 hown hK hP 0 rfl rfl 3 (by decide) (hts (.fieldLink RX1 35 "BeamHouse$Device" "link" "LBeamHouse$Link;") (List.mem_of_getElem? (i := 18) rfl)) (fun _ h9 => h9) rfl dX1_sendsCall_57 ?_
  refine va_get (D := D) (ci := 3) (v := .int wd) (C := RX3) (T := TX3) (N := 14) hx hb hts hi_X3 hown hK hP 2 rfl rfl 2 (by decide) (hts (.fieldLink RX1 130 "BeamHouse$Link" "window" "I") (List.mem_of_getElem? (i := 22) rfl)) (fun _ h9 => h9) rfl dX1_sendsCall_60 ?_
  refine kGo_v (wr := [((a 0), .inr (1, [.ref (a 1), .ref (a 4), .ref (a 5), .ref (a 6), .ref (a 8), .ref (a 10), .int sv, .int ad, .int se])), ((a 2), .inl (ca 0, 4000, .inl (fun _ => 0))), ((a 6), .inr (3, [.ref (a 7), .int nb, .int wd, .int ot, .int 0, .int 0, .int 0, .int 0, .int 0, .int 0, .int 0, .int 0, .int 0, .int 0]))]) (kRunV (As := [.int wd]) (rest := []) ⟨hx, hb, hml, hown, hts⟩ (c_adds l D ca _ (a 1) (a 2) (a 3) 0 11 f_7 wd (by decide)) (cwV 1 hts g_c_sendsCall_c_adds_127 rfl rfl rfl (by decide +kernel) ⟨Nat.le_of_ble_eq_true rfl, Nat.le_of_ble_eq_true rfl⟩) hK hN hP hD [3, 4] rfl rfl rfl rfl rfl rfl hl.1 rfl (Nat.le_of_ble_eq_true rfl) dX1_sendsCall_63 ⟨Nat.le_of_ble_eq_true rfl, Nat.le_of_ble_eq_true rfl⟩) hP hD hS hA [3, 4] [0, 1, 2] rfl rfl rfl (by decide) (fun uu_ tt H locs hr_10 hB hj hS => ?_)
  obtain ⟨f_9, hWd⟩ := hB
  obtain ⟨hP, hD⟩ := hj _ hWd
  have hP : va_P D vwCl [((a 0), .inr (1, [.ref (a 1), .ref (a 4), .ref (a 5), .ref (a 6), .ref (a 8), .ref (a 10), .int sv, .int ad, .int se])), ((a 2), .inl (ca 0, 4000, .inl (fun _ => 0))), ((a 6), .inr (3, [.ref (a 7), .int nb, .int wd, .int ot, .int 0, .int 0, .int 0, .int 0, .int 0, .int 0, .int 0, .int 0, .int 0, .int 0])), ((a 1), .inr (0, [.ref (a 2), .int 0, .ref (a 3), .int (nI (11 + 1))])), ((a 3), .inl (ca 0, 74, .inl f_9))] H := hP
  have hD : va_D A [((a 0), .inr (1, [.ref (a 1), .ref (a 4), .ref (a 5), .ref (a 6), .ref (a 8), .ref (a 10), .int sv, .int ad, .int se])), ((a 2), .inl (ca 0, 4000, .inl (fun _ => 0))), ((a 6), .inr (3, [.ref (a 7), .int nb, .int wd, .int ot, .int 0, .int 0, .int 0, .int 0, .int 0, .int 0, .int 0, .int 0, .int 0, .int 0])), ((a 1), .inr (0, [.ref (a 2), .int 0, .ref (a 3), .int (nI (11 + 1))])), ((a 3), .inl (ca 0, 74, .inl f_9))] := hD
  have hP : va_P D vwCl [((a 0), .inr (1, [.ref (a 1), .ref (a 4), .ref (a 5), .ref (a 6), .ref (a 8), .ref (a 10), .int sv, .int ad, .int se])), ((a 2), .inl (ca 0, 4000, .inl (fun _ => 0))), ((a 6), .inr (3, [.ref (a 7), .int nb, .int wd, .int ot, .int 0, .int 0, .int 0, .int 0, .int 0, .int 0, .int 0, .int 0, .int 0, .int 0])), ((a 1), .inr (0, [.ref (a 2), .int 0, .ref (a 3), .int (nI 12)])), ((a 3), .inl (ca 0, 74, .inl f_9))] H := hP
  have hD : va_D A [((a 0), .inr (1, [.ref (a 1), .ref (a 4), .ref (a 5), .ref (a 6), .ref (a 8), .ref (a 10), .int sv, .int ad, .int se])), ((a 2), .inl (ca 0, 4000, .inl (fun _ => 0))), ((a 6), .inr (3, [.ref (a 7), .int nb, .int wd, .int ot, .int 0, .int 0, .int 0, .int 0, .int 0, .int 0, .int 0, .int 0, .int 0, .int 0])), ((a 1), .inr (0, [.ref (a 2), .int 0, .ref (a 3), .int (nI 12)])), ((a 3), .inl (ca 0, 74, .inl f_9))] := hD
  refine lv_aload_n hx hb dX1_sendsCall_66 rfl (lv_at hl 0 rfl) ?_
  refine va_get (D := D) (ci := 1) (v := .ref (a 1)) (C := RX1) (T := TX1) (N := 9) hx hb hts hi_X1 hown hK hP 0 rfl rfl 0 (by decide) (hts (.fieldLink RX1 12 "BeamHouse$Device" "air" "LBeamHouse$Air;") (List.mem_of_getElem? (i := 1) rfl)) (fun _ h9 => h9) rfl dX1_sendsCall_67 ?_
  refine kGo_v (wr := [((a 0), .inr (1, [.ref (a 1), .ref (a 4), .ref (a 5), .ref (a 6), .ref (a 8), .ref (a 10), .int sv, .int ad, .int se])), ((a 6), .inr (3, [.ref (a 7), .int nb, .int wd, .int ot, .int 0, .int 0, .int 0, .int 0, .int 0, .int 0, .int 0, .int 0, .int 0, .int 0]))]) (kRunV (As := []) (rest := []) ⟨hx, hb, hml, hown, hts⟩ (c_closes l D ca _ (a 1) (a 2) (a 3) 12 f_9 (fun _ => 0) (by decide)) (cwV 0 hts g_c_sendsCall_c_closes_133 rfl rfl rfl (by decide +kernel) ⟨Nat.le_of_ble_eq_true rfl, Nat.le_of_ble_eq_true rfl⟩) hK hN hP hD [3, 1, 4] rfl rfl rfl rfl rfl rfl hl.1 rfl (Nat.le_of_ble_eq_true rfl) dX1_sendsCall_70 ⟨Nat.le_of_ble_eq_true rfl, Nat.le_of_ble_eq_true rfl⟩) hP hD hS hA [3, 1, 4] [0, 2] rfl rfl rfl (by decide) (fun uu_ tt H locs hr_11 hB hj hS => ?_)
  have hWd := hB
  obtain ⟨hP, hD⟩ := hj _ hWd
  have hP : va_P D vwCl [((a 0), .inr (1, [.ref (a 1), .ref (a 4), .ref (a 5), .ref (a 6), .ref (a 8), .ref (a 10), .int sv, .int ad, .int se])), ((a 6), .inr (3, [.ref (a 7), .int nb, .int wd, .int ot, .int 0, .int 0, .int 0, .int 0, .int 0, .int 0, .int 0, .int 0, .int 0, .int 0]))] H := hP
  have hD : va_D A [((a 0), .inr (1, [.ref (a 1), .ref (a 4), .ref (a 5), .ref (a 6), .ref (a 8), .ref (a 10), .int sv, .int ad, .int se])), ((a 6), .inr (3, [.ref (a 7), .int nb, .int wd, .int ot, .int 0, .int 0, .int 0, .int 0, .int 0, .int 0, .int 0, .int 0, .int 0, .int 0]))] := hD
  exact W.vret hx hb hr (fun tt ht hW => ⟨⟨(), rfl, trivial, ⟨by rw [ht]; exact hP.sub [0, 1] rfl, hD.sub [0, 1] rfl rfl⟩⟩, hS.F ht⟩) hS.2.2 dX1_sendsCall_73
def w_c_mayBeWindow : List Cond := .code yX11_mayBeWindow cX11_mayBeWindow 1 (some .boolean) :: (([] : List Cond))
set_option maxHeartbeats 4000000 in
set_option maxRecDepth 100000 in
theorem c_mayBeWindow (l : Launch) (D : va_G) (ca : Nat → ClassId) (sz : Nat) (n : Int32)  : Met l yX11_mayBeWindow w_c_mayBeWindow ({ frames := 0, cells := 0, slots := 0, locals := 0 }) (Pre D ca [.int n] [] sz) (va_Qi (fun (r : Int32) (_ : Unit) => r = if 1 ≤ n ∧ n ≤ 7 then 1 else 0) (fun (_ : Unit) (tt : State) => Wd D (va_A [] sz) [] tt) (va_A [] sz)) 0 0 (va_A [] sz) := by
  refine Met.ofW (cc := cX11_mayBeWindow) (maxL := 1) (ret := (some .boolean)) (by decide) rfl ?_
  intro p e s m args below meth c s₁ B hml hv
  obtain ⟨rfl, hsz, hP, hK, hD0, hN⟩ := hv
  have hx := B.exec
  have hb := B.bytes
  have hr := B.returns
  have hts := atoms_spec (ws := w_c_mayBeWindow) B.pre
  have hown : s.vm.findClass RX11 = some m.cls := findClass_of_methodNamed B.named
  have hlocks := B.notSynchronized
  subst hsz
  have hD := hD0.self (sz := s.heap.size)
  generalize hAe : va_A [] s.heap.size = A at hD ⊢
  have hA : ∀ q : Nat, s.heap.size ≤ q → A q := fun q h => by rw [← hAe]; exact Or.inr h
  have hS : va_S A s.heap s.heap [] := va_S.rf
  have hP : va_P D vwCl [] s.heap := hP
  have hl := lv_entry ([.int n]) (n := 1) (Nat.le_of_ble_eq_true rfl)
  rw [lg_entry_eq]
  generalize (lg_sl ([.int n]) ++ List.replicate (1 - (lg_sl ([.int n])).length) Slot.unset).toArray = ls at hl ⊢
  have hl : lv_has ls 1 [(0, .int n)] := hl
  refine lv_iload_n hx hb dX11_mayBeWindow_0 rfl (lv_at hl 0 rfl) ?_
  refine lv_iconst (v := 1) hx hb dX11_mayBeWindow_1 (by decide) ?_
  refine lv_icmp_lt (tgt := 15) hx hb dX11_mayBeWindow_2 (by decide) (fun c_2 => ?_) (fun c_2 => ?_)
  · refine lv_iconst (v := 0) hx hb dX11_mayBeWindow_15 (by decide) ?_
    exact W.zret (v := 0) (ty := .boolean) hx hb hr rfl (fun tt ht hW => ⟨⟨0, (), rfl, (if_neg (fun h => absurd c_2 (Int32.not_lt.mpr h.1))).symm, ⟨by rw [ht]; exact hP.sub [] rfl, hD.sub [] rfl rfl⟩⟩, hS.F ht⟩) hS.2.2 dX11_mayBeWindow_16
  · refine lv_iload_n hx hb dX11_mayBeWindow_5 rfl (lv_at hl 0 rfl) ?_
    refine lv_bipush (v := 7) hx hb dX11_mayBeWindow_6 (by decide) ?_
    refine lv_icmp_gt (tgt := 15) hx hb dX11_mayBeWindow_8 (by decide) (fun c_8 => ?_) (fun c_8 => ?_)
    · refine lv_iconst (v := 0) hx hb dX11_mayBeWindow_15 (by decide) ?_
      exact W.zret (v := 0) (ty := .boolean) hx hb hr rfl (fun tt ht hW => ⟨⟨0, (), rfl, (if_neg (fun h => absurd c_8 (Int32.not_lt.mpr h.2))).symm, ⟨by rw [ht]; exact hP.sub [] rfl, hD.sub [] rfl rfl⟩⟩, hS.F ht⟩) hS.2.2 dX11_mayBeWindow_16
    · refine lv_iconst (v := 1) hx hb dX11_mayBeWindow_11 (by decide) ?_
      refine lv_goto (tgt := 16) hx hb dX11_mayBeWindow_12 (by decide) ?_
      exact W.zret (v := 1) (ty := .boolean) hx hb hr rfl (fun tt ht hW => ⟨⟨1, (), rfl, (if_pos ⟨Int32.not_lt.mp c_2, Int32.not_lt.mp c_8⟩).symm, ⟨by rw [ht]; exact hP.sub [] rfl, hD.sub [] rfl rfl⟩⟩, hS.F ht⟩) hS.2.2 dX11_mayBeWindow_16
def w_c_call_no : List Cond := .code yX11_call cX11_call 5 (some .int) :: (([.code yX11_deviceAt cX11_deviceAt 2 (some (.object "BeamHouse$Device")), .methodLink RX11 22 yX11_deviceAt, .instanceMethod yX11_deviceAt, .selects RX11 yX11_deviceAt yX11_deviceAt, .initialized RX11] : List Cond))
theorem g_c_call_no_c_deviceAt_no_22 : GoodIn w_c_call_no (wsV RX11 22 RX11 yX11_deviceAt w_c_deviceAt_no) := (goodIn_app (goodIn_r _ [2, 3, 4, 5] rfl rfl) (goodIn_r _ [1] rfl rfl))
set_option maxHeartbeats 4000000 in
set_option maxRecDepth 100000 in
theorem c_call_no (l : Launch) (D : va_G) (ca : Nat → ClassId) (sz : Nat) (h0 : Nat) (dv : Nat) (tp : Nat) (d : Int32) (ot : Int32) (wd : Int32) (hd : d < 0 ∨ 4 ≤ d) : Met l yX11_call w_c_call_no ({ frames := 1, cells := 0, slots := 0, locals := 21 }) (Pre D ca [.ref h0, .int d, .int ot, .int wd] [(h0, .inr (11, [.ref dv, .ref tp, .int 0]))] sz) (va_Qi (fun (r : Int32) (_ : Unit) => r = -1) (fun (_ : Unit) (tt : State) => Wd D (va_A [(h0, .inr (11, [.ref dv, .ref tp, .int 0]))] sz) [] tt) (va_A [(h0, .inr (11, [.ref dv, .ref tp, .int 0]))] sz)) 0 0 (va_A [(h0, .inr (11, [.ref dv, .ref tp, .int 0]))] sz) := by
  refine Met.ofW (cc := cX11_call) (maxL := 5) (ret := (some .int)) (by decide) rfl ?_
  intro p e s m args below meth c s₁ B hml hv
  obtain ⟨rfl, hsz, hP, hK, hD0, hN⟩ := hv
  have hx := B.exec
  have hb := B.bytes
  have hr := B.returns
  have hts := atoms_spec (ws := w_c_call_no) B.pre
  have hown : s.vm.findClass RX11 = some m.cls := findClass_of_methodNamed B.named
  have hlocks := B.notSynchronized
  subst hsz
  have hD := hD0.self (sz := s.heap.size)
  generalize hAe : va_A [(h0, .inr (11, [.ref dv, .ref tp, .int 0]))] s.heap.size = A at hD ⊢
  have hA : ∀ q : Nat, s.heap.size ≤ q → A q := fun q h => by rw [← hAe]; exact Or.inr h
  have hS : va_S A s.heap s.heap [] := va_S.rf
  have hP : va_P D vwCl [(h0, .inr (11, [.ref dv, .ref tp, .int 0]))] s.heap := hP
  have hl := lv_entry ([.ref h0, .int d, .int ot, .int wd]) (n := 5) (Nat.le_of_ble_eq_true rfl)
  rw [lg_entry_eq]
  generalize (lg_sl ([.ref h0, .int d, .int ot, .int wd]) ++ List.replicate (5 - (lg_sl ([.ref h0, .int d, .int ot, .int wd])).length) Slot.unset).toArray = ls at hl ⊢
  have hl : lv_has ls 5 [(0, .ref h0), (1, .int d), (2, .int ot), (3, .int wd)] := hl
  refine lv_aload_n hx hb dX11_call_0 rfl (lv_at hl 0 rfl) ?_
  refine lv_iload_n hx hb dX11_call_1 rfl (lv_at hl 1 rfl) ?_
  refine kGo_q (wr := []) (kRunV (As := [.int d]) (rest := []) ⟨hx, hb, hml, hown, hts⟩ (c_deviceAt_no l D ca _ h0 dv tp d hd) (cwV 1 hts g_c_call_no_c_deviceAt_no_22 rfl rfl rfl (by decide +kernel) ⟨Nat.le_of_ble_eq_true rfl, Nat.le_of_ble_eq_true rfl⟩) hK hN hP hD [0] rfl rfl rfl rfl rfl rfl hl.1 rfl (Nat.le_of_ble_eq_true rfl) dX11_call_2 ⟨Nat.le_of_ble_eq_true rfl, Nat.le_of_ble_eq_true rfl⟩) hP hD hS hA [0] [] rfl rfl rfl (by decide) (fun r_1 uu_ tt H locs hr_1 hB hj hS => ?_)
  have hWd := hB
  obtain ⟨hP, hD⟩ := hj _ hWd
  have hP : va_P D vwCl [(h0, .inr (11, [.ref dv, .ref tp, .int 0]))] H := hP
  have hD : va_D A [(h0, .inr (11, [.ref dv, .ref tp, .int 0]))] := hD
  subst hr_1
  refine W.eq (g2 := F0 m 5 ls [.null]) rfl ?_
  refine lv_astoreN (lv' := [(4, .null), (0, .ref h0), (1, .int d), (2, .int ot), (3, .int wd)]) hx hb dX11_call_5 hl (by decide) rfl (fun ls hl => ?_)
  refine lv_aloadN hx hb dX11_call_7 (lv_at hl 0 rfl) ?_
  refine lv_ifnonnullN hx hb dX11_call_9 ?_
  refine lv_iconst (v := (-1)) hx hb dX11_call_12 (by decide) ?_
  exact W.iret (v := (-1)) hx hb hr (fun tt ht hW => ⟨⟨(-1), (), rfl, rfl, ⟨by rw [ht]; exact hP.sub [] rfl, hD.sub [] rfl rfl⟩⟩, hS.F ht⟩) hS.2.2 dX11_call_13
def w_c_call_yes : List Cond := .code yX11_call cX11_call 5 (some .int) :: (([.code yX11_deviceAt cX11_deviceAt 2 (some (.object "BeamHouse$Device")), .fieldLink RX11 11 "BeamHouse" "devices" "[LBeamHouse$Device;", .methodLink RX11 22 yX11_deviceAt, .instanceMethod yX11_deviceAt, .selects RX11 yX11_deviceAt yX11_deviceAt, .initialized RX11, .fieldLink RX11 26 "BeamHouse$Device" "state" "I", .code yX11_mayBeWindow cX11_mayBeWindow 1 (some .boolean), .methodLink RX11 89 yX11_mayBeWindow, .static yX11_mayBeWindow, .fieldLink RX11 92 "BeamHouse$Device" "link" "LBeamHouse$Link;", .code yX1_draws cX1_draws 2 (some .int), .fieldLink RX1 57 "BeamHouse$Device" "seed" "I", .constant RX1 70 (1103515245), .methodLink RX11 96 yX1_draws, .instanceMethod yX1_draws, .selects RX1 yX1_draws yX1_draws, .initialized RX1, .code yX3_begins cX3_begins 4 none, .code yX3_clears cX3_clears 1 none, .fieldLink RX3 14 "BeamHouse$Link" "parts" "LBeamHouse$Queue;", .code yX5_empties cX5_empties 1 none, .fieldLink RX5 46 "BeamHouse$Queue" "head" "I", .fieldLink RX5 29 "BeamHouse$Queue" "count" "I", .methodLink RX3 33 yX5_empties, .instanceMethod yX5_empties, .selects RX5 yX5_empties yX5_empties, .initialized RX5, .fieldLink RX3 23 "BeamHouse$Link" "number" "I", .fieldLink RX3 27 "BeamHouse$Link" "window" "I", .fieldLink RX3 30 "BeamHouse$Link" "other" "I", .fieldLink RX3 36 "BeamHouse$Link" "sentFrom" "I", .fieldLink RX3 39 "BeamHouse$Link" "taken" "I", .fieldLink RX3 42 "BeamHouse$Link" "sent" "I", .fieldLink RX3 45 "BeamHouse$Link" "ticks" "I", .fieldLink RX3 48 "BeamHouse$Link" "hasTurn" "Z", .fieldLink RX3 52 "BeamHouse$Link" "hasTakenData" "Z", .fieldLink RX3 55 "BeamHouse$Link" "hasMissed" "Z", .fieldLink RX3 58 "BeamHouse$Link" "endWished" "Z", .fieldLink RX3 61 "BeamHouse$Link" "endSent" "Z", .fieldLink RX3 64 "BeamHouse$Link" "endIsLatest" "Z", .methodLink RX3 20 yX3_clears, .instanceMethod yX3_clears, .selects RX3 yX3_clears yX3_clears, .initialized RX3, .methodLink RX11 100 yX3_begins, .instanceMethod yX3_begins, .selects RX3 yX3_begins yX3_begins, .code yX1_sendsCall cX1_sendsCall 1 none, .fieldLink RX1 12 "BeamHouse$Device" "air" "LBeamHouse$Air;", .code yX0_begins cX0_begins 3 none, .fieldLink RX0 18 "BeamHouse$Air" "framed" "I", .code yX0_adds cX0_adds 2 none, .fieldLink RX0 15 "BeamHouse$Air" "frame" "[I", .methodLink RX0 22 yX0_adds, .instanceMethod yX0_adds, .selects RX0 yX0_adds yX0_adds, .initialized RX0, .methodLink RX1 114 yX0_begins, .instanceMethod yX0_begins, .selects RX0 yX0_begins yX0_begins, .fieldLink RX1 53 "BeamHouse$Device" "address" "I", .code yX0_addsAddress cX0_addsAddress 3 none, .methodLink RX1 117 yX0_addsAddress, .instanceMethod yX0_addsAddress, .selects RX0 yX0_addsAddress yX0_addsAddress, .fieldLink RX1 35 "BeamHouse$Device" "link" "LBeamHouse$Link;", .fieldLink RX1 121 "BeamHouse$Link" "other" "I", .fieldLink RX1 124 "BeamHouse$Link" "number" "I", .methodLink RX1 127 yX0_adds, .fieldLink RX1 130 "BeamHouse$Link" "window" "I", .code yX0_closes cX0_closes 4 none, .code yX11_check cX11_check 5 (some .int), .constant RX11 234 (65535), .constant RX11 235 (33800), .static yX11_check, .fieldLink RX0 30 "BeamHouse$Air" "length" "I", .code yX0_wrappedLength cX0_wrappedLength 4 (some .int), .code yX0_isSpecial cX0_isSpecial 1 (some .boolean), .methodLink RX0 40 yX0_isSpecial, .static yX0_isSpecial, .methodLink RX0 33 yX0_wrappedLength, .instanceMethod yX0_wrappedLength, .selects RX0 yX0_wrappedLength yX0_wrappedLength, .code yX0_puts cX0_puts 2 none, .fieldLink RX0 9 "BeamHouse$Air" "bytes" "[I", .methodLink RX0 37 yX0_puts, .instanceMethod yX0_puts, .selects RX0 yX0_puts yX0_puts, .methodLink RX1 133 yX0_closes, .instanceMethod yX0_closes, .selects RX0 yX0_closes yX0_closes, .methodLink RX11 105 yX1_sendsCall, .instanceMethod yX1_sendsCall, .selects RX1 yX1_sendsCall yX1_sendsCall, .fieldLink RX11 108 "BeamHouse$Link" "number" "I"] : List Cond) ++ wsX110 ++ wsX10 ++ wsX30 ++ wsX50 ++ wsX00)
theorem g_c_call_yes_c_deviceAt_yes_22 : GoodIn w_c_call_yes (wsV RX11 22 RX11 yX11_deviceAt w_c_deviceAt_yes) := (goodIn_app (goodIn_r _ [3, 4, 5, 6] rfl rfl) (goodIn_ca (goodIn_r _ [1, 2] rfl rfl) (goodIn_sub (fun _ h => List.mem_cons_of_mem _ (List.mem_append_left _ (List.mem_append_left _ (List.mem_append_left _ (List.mem_append_left _ (List.mem_append_right _ h)))))) gw_X11)))
theorem g_c_call_yes_c_mayBeWindow_89 : GoodIn w_c_call_yes (va_wsS RX11 89 yX11_mayBeWindow w_c_mayBeWindow) := (goodIn_app (goodIn_r _ [9, 10, 6] rfl rfl) (goodIn_r _ [8] rfl rfl))
theorem g_c_call_yes_c_draws_96 : GoodIn w_c_call_yes (wsV RX11 96 RX1 yX1_draws w_c_draws) := (goodIn_app (goodIn_r _ [15, 16, 17, 18] rfl rfl) (goodIn_ca (goodIn_r _ [12, 13, 14] rfl rfl) (goodIn_sub (fun _ h => List.mem_cons_of_mem _ (List.mem_append_left _ (List.mem_append_left _ (List.mem_append_left _ (List.mem_append_right _ h))))) gw_X1)))
theorem g_c_call_yes_c_link_begins_100 : GoodIn w_c_call_yes (wsV RX11 100 RX3 yX3_begins w_c_link_begins) := (goodIn_app (goodIn_r _ [46, 47, 48, 45] rfl rfl) (goodIn_ca (goodIn_ca (goodIn_r _ [19, 20, 21, 22, 23, 24, 25, 26, 27, 28, 29, 30, 31, 32, 33, 34, 35, 36, 37, 38, 39, 40, 41, 42, 43, 44, 45] rfl rfl) (goodIn_sub (fun _ h => List.mem_cons_of_mem _ (List.mem_append_left _ (List.mem_append_left _ (List.mem_append_right _ h)))) gw_X3)) (goodIn_sub (fun _ h => List.mem_cons_of_mem _ (List.mem_append_left _ (List.mem_append_right _ h))) gw_X5)))
theorem g_c_call_yes_c_sendsCall_105 : GoodIn w_c_call_yes (wsV RX11 105 RX1 yX1_sendsCall w_c_sendsCall) := (goodIn_app (goodIn_r _ [93, 94, 95, 18] rfl rfl) (goodIn_ca (goodIn_ca (goodIn_ca (goodIn_r _ [49, 50, 51, 52, 53, 54, 55, 56, 57, 58, 59, 60, 61, 62, 63, 64, 65, 66, 67, 68, 69, 70, 71, 72, 73, 74, 75, 6, 76, 77, 78, 79, 80, 81, 82, 83, 84, 85, 86, 87, 88, 89, 90, 91, 92] rfl rfl) (goodIn_sub (fun _ h => List.mem_cons_of_mem _ (List.mem_append_left _ (List.mem_append_left _ (List.mem_append_left _ (List.mem_append_right _ h))))) gw_X1)) (goodIn_sub (fun _ h => List.mem_cons_of_mem _ (List.mem_append_right _ h)) gw_X0)) (goodIn_sub (fun _ h => List.mem_cons_of_mem _ (List.mem_append_left _ (List.mem_append_left _ (List.mem_append_right _ h)))) gw_X3)))
set_option maxHeartbeats 4000000 in
set_option maxRecDepth 100000 in
theorem c_call_yes (l : Launch) (D : va_G) (ca : Nat → ClassId) (sz : Nat) (h0 : Nat) (dv : Nat) (tp : Nat) (fd : Nat → Option Nat) (a : Nat → Nat) (k : Nat) (ot : Int32) (wd : Int32) (hk : k < 4) (hfd : fd k = some (a 0)) : Met l yX11_call w_c_call_yes ({ frames := 4, cells := 0, slots := 0, locals := 86 }) (Pre D ca [.ref h0, .int (nI k), .int ot, .int wd] [(h0, .inr (11, [.ref dv, .ref tp, .int 0])), (dv, .inl (ca 2, 4, .inr (.inr (.inr (.inr fd))))), ((a 0), .inr (1, [.ref (a 1), .ref (a 4), .ref (a 5), .ref (a 6), .ref (a 8), .ref (a 10), .int 0, .int (nI (k + 1)), .int (nI k)])), ((a 1), .inr (0, [.ref (a 2), .int 0, .ref (a 3), .int 0])), ((a 2), .inl (ca 0, 4000, .inl (fun _ => 0))), ((a 3), .inl (ca 0, 74, .inl (fun _ => 0))), ((a 6), .inr (3, [.ref (a 7), .int 0, .int 0, .int 0, .int 0, .int 0, .int 0, .int 0, .int 0, .int 0, .int 0, .int 0, .int 0, .int 0])), ((a 7), .inr (5, [.int 0, .int 24, .int 32, .ref (a 17), .ref (a 18), .int 0]))] sz) (va_Qi (fun (r : Int32) (_ : Unit) => r = if 1 ≤ wd ∧ wd ≤ 7 then 1 + drw (nI k) else -3) (fun (_ : Unit) (tt : State) => Wd D (va_A [(h0, .inr (11, [.ref dv, .ref tp, .int 0])), (dv, .inl (ca 2, 4, .inr (.inr (.inr (.inr fd))))), ((a 0), .inr (1, [.ref (a 1), .ref (a 4), .ref (a 5), .ref (a 6), .ref (a 8), .ref (a 10), .int 0, .int (nI (k + 1)), .int (nI k)])), ((a 1), .inr (0, [.ref (a 2), .int 0, .ref (a 3), .int 0])), ((a 2), .inl (ca 0, 4000, .inl (fun _ => 0))), ((a 3), .inl (ca 0, 74, .inl (fun _ => 0))), ((a 6), .inr (3, [.ref (a 7), .int 0, .int 0, .int 0, .int 0, .int 0, .int 0, .int 0, .int 0, .int 0, .int 0, .int 0, .int 0, .int 0])), ((a 7), .inr (5, [.int 0, .int 24, .int 32, .ref (a 17), .ref (a 18), .int 0]))] sz) [] tt) (va_A [(h0, .inr (11, [.ref dv, .ref tp, .int 0])), (dv, .inl (ca 2, 4, .inr (.inr (.inr (.inr fd))))), ((a 0), .inr (1, [.ref (a 1), .ref (a 4), .ref (a 5), .ref (a 6), .ref (a 8), .ref (a 10), .int 0, .int (nI (k + 1)), .int (nI k)])), ((a 1), .inr (0, [.ref (a 2), .int 0, .ref (a 3), .int 0])), ((a 2), .inl (ca 0, 4000, .inl (fun _ => 0))), ((a 3), .inl (ca 0, 74, .inl (fun _ => 0))), ((a 6), .inr (3, [.ref (a 7), .int 0, .int 0, .int 0, .int 0, .int 0, .int 0, .int 0, .int 0, .int 0, .int 0, .int 0, .int 0, .int 0])), ((a 7), .inr (5, [.int 0, .int 24, .int 32, .ref (a 17), .ref (a 18), .int 0]))] sz)) 0 0 (va_A [(h0, .inr (11, [.ref dv, .ref tp, .int 0])), (dv, .inl (ca 2, 4, .inr (.inr (.inr (.inr fd))))), ((a 0), .inr (1, [.ref (a 1), .ref (a 4), .ref (a 5), .ref (a 6), .ref (a 8), .ref (a 10), .int 0, .int (nI (k + 1)), .int (nI k)])), ((a 1), .inr (0, [.ref (a 2), .int 0, .ref (a 3), .int 0])), ((a 2), .inl (ca 0, 4000, .inl (fun _ => 0))), ((a 3), .inl (ca 0, 74, .inl (fun _ => 0))), ((a 6), .inr (3, [.ref (a 7), .int 0, .int 0, .int 0, .int 0, .int 0, .int 0, .int 0, .int 0, .int 0, .int 0, .int 0, .int 0, .int 0])), ((a 7), .inr (5, [.int 0, .int 24, .int 32, .ref (a 17), .ref (a 18), .int 0]))] sz) := by
  refine Met.ofW (cc := cX11_call) (maxL := 5) (ret := (some .int)) (by decide) rfl ?_
  intro p e s m args below meth c s₁ B hml hv
  obtain ⟨rfl, hsz, hP, hK, hD0, hN⟩ := hv
  have hx := B.exec
  have hb := B.bytes
  have hr := B.returns
  have hts := atoms_spec (ws := w_c_call_yes) B.pre
  have hown : s.vm.findClass RX11 = some m.cls := findClass_of_methodNamed B.named
  have hlocks := B.notSynchronized
  have hi_X11 : ∀ w ∈ wsX110, w ∈ w_c_call_yes := fun _ h => List.mem_cons_of_mem _ (List.mem_append_left _ (List.mem_append_left _ (List.mem_append_left _ (List.mem_append_left _ (List.mem_append_right _ h)))))
  have hi_X1 : ∀ w ∈ wsX10, w ∈ w_c_call_yes := fun _ h => List.mem_cons_of_mem _ (List.mem_append_left _ (List.mem_append_left _ (List.mem_append_left _ (List.mem_append_right _ h))))
  have hi_X3 : ∀ w ∈ wsX30, w ∈ w_c_call_yes := fun _ h => List.mem_cons_of_mem _ (List.mem_append_left _ (List.mem_append_left _ (List.mem_append_right _ h)))
  have hi_X5 : ∀ w ∈ wsX50, w ∈ w_c_call_yes := fun _ h => List.mem_cons_of_mem _ (List.mem_append_left _ (List.mem_append_right _ h))
  have hi_X0 : ∀ w ∈ wsX00, w ∈ w_c_call_yes := fun _ h => List.mem_cons_of_mem _ (List.mem_append_right _ h)
  subst hsz
  have hD := hD0.self (sz := s.heap.size)
  generalize hAe : va_A [(h0, .inr (11, [.ref dv, .ref tp, .int 0])), (dv, .inl (ca 2, 4, .inr (.inr (.inr (.inr fd))))), ((a 0), .inr (1, [.ref (a 1), .ref (a 4), .ref (a 5), .ref (a 6), .ref (a 8), .ref (a 10), .int 0, .int (nI (k + 1)), .int (nI k)])), ((a 1), .inr (0, [.ref (a 2), .int 0, .ref (a 3), .int 0])), ((a 2), .inl (ca 0, 4000, .inl (fun _ => 0))), ((a 3), .inl (ca 0, 74, .inl (fun _ => 0))), ((a 6), .inr (3, [.ref (a 7), .int 0, .int 0, .int 0, .int 0, .int 0, .int 0, .int 0, .int 0, .int 0, .int 0, .int 0, .int 0, .int 0])), ((a 7), .inr (5, [.int 0, .int 24, .int 32, .ref (a 17), .ref (a 18), .int 0]))] s.heap.size = A at hD ⊢
  have hA : ∀ q : Nat, s.heap.size ≤ q → A q := fun q h => by rw [← hAe]; exact Or.inr h
  have hS : va_S A s.heap s.heap [] := va_S.rf
  have hP : va_P D vwCl [(h0, .inr (11, [.ref dv, .ref tp, .int 0])), (dv, .inl (ca 2, 4, .inr (.inr (.inr (.inr fd))))), ((a 0), .inr (1, [.ref (a 1), .ref (a 4), .ref (a 5), .ref (a 6), .ref (a 8), .ref (a 10), .int 0, .int (nI (k + 1)), .int (nI k)])), ((a 1), .inr (0, [.ref (a 2), .int 0, .ref (a 3), .int 0])), ((a 2), .inl (ca 0, 4000, .inl (fun _ => 0))), ((a 3), .inl (ca 0, 74, .inl (fun _ => 0))), ((a 6), .inr (3, [.ref (a 7), .int 0, .int 0, .int 0, .int 0, .int 0, .int 0, .int 0, .int 0, .int 0, .int 0, .int 0, .int 0, .int 0])), ((a 7), .inr (5, [.int 0, .int 24, .int 32, .ref (a 17), .ref (a 18), .int 0]))] s.heap := hP
  have hl := lv_entry ([.ref h0, .int (nI k), .int ot, .int wd]) (n := 5) (Nat.le_of_ble_eq_true rfl)
  rw [lg_entry_eq]
  generalize (lg_sl ([.ref h0, .int (nI k), .int ot, .int wd]) ++ List.replicate (5 - (lg_sl ([.ref h0, .int (nI k), .int ot, .int wd])).length) Slot.unset).toArray = ls at hl ⊢
  have hl : lv_has ls 5 [(0, .ref h0), (1, .int (nI k)), (2, .int ot), (3, .int wd)] := hl
  refine lv_aload_n hx hb dX11_call_0 rfl (lv_at hl 0 rfl) ?_
  refine lv_iload_n hx hb dX11_call_1 rfl (lv_at hl 1 rfl) ?_
  refine kGo_q (wr := [((a 0), .inr (1, [.ref (a 1), .ref (a 4), .ref (a 5), .ref (a 6), .ref (a 8), .ref (a 10), .int 0, .int (nI (k + 1)), .int (nI k)])), ((a 1), .inr (0, [.ref (a 2), .int 0, .ref (a 3), .int 0])), ((a 2), .inl (ca 0, 4000, .inl (fun _ => 0))), ((a 3), .inl (ca 0, 74, .inl (fun _ => 0))), ((a 6), .inr (3, [.ref (a 7), .int 0, .int 0, .int 0, .int 0, .int 0, .int 0, .int 0, .int 0, .int 0, .int 0, .int 0, .int 0, .int 0])), ((a 7), .inr (5, [.int 0, .int 24, .int 32, .ref (a 17), .ref (a 18), .int 0]))]) (kRunV (As := [.int (nI k)]) (rest := []) ⟨hx, hb, hml, hown, hts⟩ (c_deviceAt_yes l D ca _ h0 dv tp fd a k hk hfd) (cwV 1 hts g_c_call_yes_c_deviceAt_yes_22 rfl rfl rfl (by decide +kernel) ⟨Nat.le_of_ble_eq_true rfl, Nat.le_of_ble_eq_true rfl⟩) hK hN hP hD [0, 1] rfl rfl rfl rfl rfl rfl hl.1 rfl (Nat.le_of_ble_eq_true rfl) dX11_call_2 ⟨Nat.le_of_ble_eq_true rfl, Nat.le_of_ble_eq_true rfl⟩) hP hD hS hA [0, 1] [2, 3, 4, 5, 6, 7] rfl rfl rfl (by decide) (fun r_1 uu_ tt H locs hr_1 hB hj hS => ?_)
  have hWd := hB
  obtain ⟨hP, hD⟩ := hj _ hWd
  have hP : va_P D vwCl [((a 0), .inr (1, [.ref (a 1), .ref (a 4), .ref (a 5), .ref (a 6), .ref (a 8), .ref (a 10), .int 0, .int (nI (k + 1)), .int (nI k)])), ((a 1), .inr (0, [.ref (a 2), .int 0, .ref (a 3), .int 0])), ((a 2), .inl (ca 0, 4000, .inl (fun _ => 0))), ((a 3), .inl (ca 0, 74, .inl (fun _ => 0))), ((a 6), .inr (3, [.ref (a 7), .int 0, .int 0, .int 0, .int 0, .int 0, .int 0, .int 0, .int 0, .int 0, .int 0, .int 0, .int 0, .int 0])), ((a 7), .inr (5, [.int 0, .int 24, .int 32, .ref (a 17), .ref (a 18), .int 0])), (h0, .inr (11, [.ref dv, .ref tp, .int 0])), (dv, .inl (ca 2, 4, .inr (.inr (.inr (.inr fd)))))] H := hP
  have hD : va_D A [((a 0), .inr (1, [.ref (a 1), .ref (a 4), .ref (a 5), .ref (a 6), .ref (a 8), .ref (a 10), .int 0, .int (nI (k + 1)), .int (nI k)])), ((a 1), .inr (0, [.ref (a 2), .int 0, .ref (a 3), .int 0])), ((a 2), .inl (ca 0, 4000, .inl (fun _ => 0))), ((a 3), .inl (ca 0, 74, .inl (fun _ => 0))), ((a 6), .inr (3, [.ref (a 7), .int 0, .int 0, .int 0, .int 0, .int 0, .int 0, .int 0, .int 0, .int 0, .int 0, .int 0, .int 0, .int 0])), ((a 7), .inr (5, [.int 0, .int 24, .int 32, .ref (a 17), .ref (a 18), .int 0])), (h0, .inr (11, [.ref dv, .ref tp, .int 0])), (dv, .inl (ca 2, 4, .inr (.inr (.inr (.inr fd)))))] := hD
  subst hr_1
  refine W.eq (g2 := F0 m 5 ls [.ref (a 0)]) rfl ?_
  refine lv_astore (lv' := [(4, .ref (a 0)), (0, .ref h0), (1, .int (nI k)), (2, .int ot), (3, .int wd)]) hx hb dX11_call_5 hl (by decide) rfl (fun ls hl => ?_)
  refine lv_aload hx hb dX11_call_7 (lv_at hl 0 rfl) ?_
  refine lv_ifnonnull (tgt := 14) hx hb dX11_call_9 (by decide) ?_
  refine lv_aload hx hb dX11_call_14 (lv_at hl 0 rfl) ?_
  refine va_get (D := D) (ci := 1) (v := .int 0) (C := RX1) (T := TX1) (N := 9) hx hb hts hi_X1 hown hK hP 0 rfl rfl 6 (by decide) (hts (.fieldLink RX11 26 "BeamHouse$Device" "state" "I") (List.mem_of_getElem? (i := 7) rfl)) (fun _ h9 => h9) rfl dX11_call_16 ?_
  refine lv_if_eq (tgt := 25) hx hb dX11_call_19 (by decide) (fun _ => ?_) (fun h => absurd (by decide) h)
  refine lv_iload_n hx hb dX11_call_25 rfl (lv_at hl 4 rfl) ?_
  refine kGo_i (wr := [((a 0), .inr (1, [.ref (a 1), .ref (a 4), .ref (a 5), .ref (a 6), .ref (a 8), .ref (a 10), .int 0, .int (nI (k + 1)), .int (nI k)])), ((a 1), .inr (0, [.ref (a 2), .int 0, .ref (a 3), .int 0])), ((a 2), .inl (ca 0, 4000, .inl (fun _ => 0))), ((a 3), .inl (ca 0, 74, .inl (fun _ => 0))), ((a 6), .inr (3, [.ref (a 7), .int 0, .int 0, .int 0, .int 0, .int 0, .int 0, .int 0, .int 0, .int 0, .int 0, .int 0, .int 0, .int 0])), ((a 7), .inr (5, [.int 0, .int 24, .int 32, .ref (a 17), .ref (a 18), .int 0])), (h0, .inr (11, [.ref dv, .ref tp, .int 0])), (dv, .inl (ca 2, 4, .inr (.inr (.inr (.inr fd)))))]) (kRunS (As := [.int wd]) (rest := []) ⟨hx, hb, hml, hown, hts⟩ (c_mayBeWindow l D ca _ wd) (va_cwS 1 hts g_c_call_yes_c_mayBeWindow_89 rfl rfl rfl (by decide +kernel) ⟨Nat.le_of_ble_eq_true rfl, Nat.le_of_ble_eq_true rfl⟩) hK hN hP hD [] rfl rfl rfl hl.1 rfl (Nat.le_of_ble_eq_true rfl) dX11_call_26 ⟨Nat.le_of_ble_eq_true rfl, Nat.le_of_ble_eq_true rfl⟩) hP hD hS hA [] [0, 1, 2, 3, 4, 5, 6, 7] rfl rfl rfl (by decide) (fun r_2 uu_ tt H locs hr_2 hB hj hS => ?_)
  have hWd := hB
  obtain ⟨hP, hD⟩ := hj _ hWd
  have hP : va_P D vwCl [((a 0), .inr (1, [.ref (a 1), .ref (a 4), .ref (a 5), .ref (a 6), .ref (a 8), .ref (a 10), .int 0, .int (nI (k + 1)), .int (nI k)])), ((a 1), .inr (0, [.ref (a 2), .int 0, .ref (a 3), .int 0])), ((a 2), .inl (ca 0, 4000, .inl (fun _ => 0))), ((a 3), .inl (ca 0, 74, .inl (fun _ => 0))), ((a 6), .inr (3, [.ref (a 7), .int 0, .int 0, .int 0, .int 0, .int 0, .int 0, .int 0, .int 0, .int 0, .int 0, .int 0, .int 0, .int 0])), ((a 7), .inr (5, [.int 0, .int 24, .int 32, .ref (a 17), .ref (a 18), .int 0])), (h0, .inr (11, [.ref dv, .ref tp, .int 0])), (dv, .inl (ca 2, 4, .inr (.inr (.inr (.inr fd)))))] H := hP
  have hD : va_D A [((a 0), .inr (1, [.ref (a 1), .ref (a 4), .ref (a 5), .ref (a 6), .ref (a 8), .ref (a 10), .int 0, .int (nI (k + 1)), .int (nI k)])), ((a 1), .inr (0, [.ref (a 2), .int 0, .ref (a 3), .int 0])), ((a 2), .inl (ca 0, 4000, .inl (fun _ => 0))), ((a 3), .inl (ca 0, 74, .inl (fun _ => 0))), ((a 6), .inr (3, [.ref (a 7), .int 0, .int 0, .int 0, .int 0, .int 0, .int 0, .int 0, .int 0, .int 0, .int 0, .int 0, .int 0, .int 0])), ((a 7), .inr (5, [.int 0, .int 24, .int 32, .ref (a 17), .ref (a 18), .int 0])), (h0, .inr (11, [.ref dv, .ref tp, .int 0])), (dv, .inl (ca 2, 4, .inr (.inr (.inr (.inr fd)))))] := hD
  have hr_s := hr_2
  refine lv_if_ne (tgt := 35) hx hb dX11_call_29 (by decide) (fun c_29 => ?_) (fun c_29 => ?_)
  · refine lv_aload hx hb dX11_call_35 (lv_at hl 0 rfl) ?_
    refine va_get (D := D) (ci := 1) (v := .ref (a 6)) (C := RX1) (T := TX1) (N := 9) hx hb hts hi_X1 hown hK hP 0 rfl rfl 3 (by decide) (hts (.fieldLink RX11 92 "BeamHouse$Device" "link" "LBeamHouse$Link;") (List.mem_of_getElem? (i := 11) rfl)) (fun _ h9 => h9) rfl dX11_call_37 ?_
    refine lv_iconst (v := 1) hx hb dX11_call_40 (by decide) ?_
    refine lv_aload hx hb dX11_call_41 (lv_at hl 0 rfl) ?_
    refine lv_bipush (v := 126) hx hb dX11_call_43 (by decide) ?_
    refine kGo_i (wr := [((a 1), .inr (0, [.ref (a 2), .int 0, .ref (a 3), .int 0])), ((a 2), .inl (ca 0, 4000, .inl (fun _ => 0))), ((a 3), .inl (ca 0, 74, .inl (fun _ => 0))), ((a 6), .inr (3, [.ref (a 7), .int 0, .int 0, .int 0, .int 0, .int 0, .int 0, .int 0, .int 0, .int 0, .int 0, .int 0, .int 0, .int 0])), ((a 7), .inr (5, [.int 0, .int 24, .int 32, .ref (a 17), .ref (a 18), .int 0])), (h0, .inr (11, [.ref dv, .ref tp, .int 0])), (dv, .inl (ca 2, 4, .inr (.inr (.inr (.inr fd)))))]) (kRunV (As := [.int 126]) (rest := [.int 1, .ref (a 6)]) ⟨hx, hb, hml, hown, hts⟩ (c_draws l D ca _ a (nI (k + 1)) (nI k)) (cwV 1 hts g_c_call_yes_c_draws_96 rfl rfl rfl (by decide +kernel) ⟨Nat.le_of_ble_eq_true rfl, Nat.le_of_ble_eq_true rfl⟩) hK hN hP hD [0] rfl rfl rfl rfl rfl rfl hl.1 rfl (Nat.le_of_ble_eq_true rfl) dX11_call_45 ⟨Nat.le_of_ble_eq_true rfl, Nat.le_of_ble_eq_true rfl⟩) hP hD hS hA [0] [1, 2, 3, 4, 5, 6, 7] rfl rfl rfl (by decide) (fun r_4 uu_ tt H locs hr_4 hB hj hS => ?_)
    obtain ⟨s_3, hWd⟩ := hB
    obtain ⟨hP, hD⟩ := hj _ hWd
    have hP : va_P D vwCl [((a 1), .inr (0, [.ref (a 2), .int 0, .ref (a 3), .int 0])), ((a 2), .inl (ca 0, 4000, .inl (fun _ => 0))), ((a 3), .inl (ca 0, 74, .inl (fun _ => 0))), ((a 6), .inr (3, [.ref (a 7), .int 0, .int 0, .int 0, .int 0, .int 0, .int 0, .int 0, .int 0, .int 0, .int 0, .int 0, .int 0, .int 0])), ((a 7), .inr (5, [.int 0, .int 24, .int 32, .ref (a 17), .ref (a 18), .int 0])), (h0, .inr (11, [.ref dv, .ref tp, .int 0])), (dv, .inl (ca 2, 4, .inr (.inr (.inr (.inr fd))))), ((a 0), .inr (1, [.ref (a 1), .ref (a 4), .ref (a 5), .ref (a 6), .ref (a 8), .ref (a 10), .int 0, .int (nI (k + 1)), .int s_3]))] H := hP
    have hD : va_D A [((a 1), .inr (0, [.ref (a 2), .int 0, .ref (a 3), .int 0])), ((a 2), .inl (ca 0, 4000, .inl (fun _ => 0))), ((a 3), .inl (ca 0, 74, .inl (fun _ => 0))), ((a 6), .inr (3, [.ref (a 7), .int 0, .int 0, .int 0, .int 0, .int 0, .int 0, .int 0, .int 0, .int 0, .int 0, .int 0, .int 0, .int 0])), ((a 7), .inr (5, [.int 0, .int 24, .int 32, .ref (a 17), .ref (a 18), .int 0])), (h0, .inr (11, [.ref dv, .ref tp, .int 0])), (dv, .inl (ca 2, 4, .inr (.inr (.inr (.inr fd))))), ((a 0), .inr (1, [.ref (a 1), .ref (a 4), .ref (a 5), .ref (a 6), .ref (a 8), .ref (a 10), .int 0, .int (nI (k + 1)), .int s_3]))] := hD
    subst hr_4
    refine lv_iadd hx hb dX11_call_48 ?_
    refine lv_topi (fun x_5 ex_5 => ?_)
    refine lv_iload_n hx hb dX11_call_49 rfl (lv_at hl 4 rfl) ?_
    refine lv_iload_n hx hb dX11_call_50 rfl (lv_at hl 3 rfl) ?_
    refine kGo_v (wr := [((a 1), .inr (0, [.ref (a 2), .int 0, .ref (a 3), .int 0])), ((a 2), .inl (ca 0, 4000, .inl (fun _ => 0))), ((a 3), .inl (ca 0, 74, .inl (fun _ => 0))), (h0, .inr (11, [.ref dv, .ref tp, .int 0])), (dv, .inl (ca 2, 4, .inr (.inr (.inr (.inr fd))))), ((a 0), .inr (1, [.ref (a 1), .ref (a 4), .ref (a 5), .ref (a 6), .ref (a 8), .ref (a 10), .int 0, .int (nI (k + 1)), .int s_3]))]) (kRunV (As := [.int x_5, .int wd, .int ot]) (rest := []) ⟨hx, hb, hml, hown, hts⟩ (c_link_begins l D ca _ a x_5 wd ot) (cwV 3 hts g_c_call_yes_c_link_begins_100 rfl rfl rfl (by decide +kernel) ⟨Nat.le_of_ble_eq_true rfl, Nat.le_of_ble_eq_true rfl⟩) hK hN hP hD [3, 4] rfl rfl rfl rfl rfl rfl hl.1 rfl (Nat.le_of_ble_eq_true rfl) dX11_call_51 ⟨Nat.le_of_ble_eq_true rfl, Nat.le_of_ble_eq_true rfl⟩) hP hD hS hA [3, 4] [0, 1, 2, 5, 6, 7] rfl rfl rfl (by decide) (fun uu_ tt H locs hr_6 hB hj hS => ?_)
    have hWd := hB
    obtain ⟨hP, hD⟩ := hj _ hWd
    have hP : va_P D vwCl [((a 1), .inr (0, [.ref (a 2), .int 0, .ref (a 3), .int 0])), ((a 2), .inl (ca 0, 4000, .inl (fun _ => 0))), ((a 3), .inl (ca 0, 74, .inl (fun _ => 0))), (h0, .inr (11, [.ref dv, .ref tp, .int 0])), (dv, .inl (ca 2, 4, .inr (.inr (.inr (.inr fd))))), ((a 0), .inr (1, [.ref (a 1), .ref (a 4), .ref (a 5), .ref (a 6), .ref (a 8), .ref (a 10), .int 0, .int (nI (k + 1)), .int s_3])), ((a 6), .inr (3, [.ref (a 7), .int x_5, .int wd, .int ot, .int 0, .int 0, .int 0, .int 0, .int 0, .int 0, .int 0, .int 0, .int 0, .int 0])), ((a 7), .inr (5, [.int 0, .int 24, .int 32, .ref (a 17), .ref (a 18), .int 0]))] H := hP
    have hD : va_D A [((a 1), .inr (0, [.ref (a 2), .int 0, .ref (a 3), .int 0])), ((a 2), .inl (ca 0, 4000, .inl (fun _ => 0))), ((a 3), .inl (ca 0, 74, .inl (fun _ => 0))), (h0, .inr (11, [.ref dv, .ref tp, .int 0])), (dv, .inl (ca 2, 4, .inr (.inr (.inr (.inr fd))))), ((a 0), .inr (1, [.ref (a 1), .ref (a 4), .ref (a 5), .ref (a 6), .ref (a 8), .ref (a 10), .int 0, .int (nI (k + 1)), .int s_3])), ((a 6), .inr (3, [.ref (a 7), .int x_5, .int wd, .int ot, .int 0, .int 0, .int 0, .int 0, .int 0, .int 0, .int 0, .int 0, .int 0, .int 0])), ((a 7), .inr (5, [.int 0, .int 24, .int 32, .ref (a 17), .ref (a 18), .int 0]))] := hD
    refine lv_aload hx hb dX11_call_54 (lv_at hl 0 rfl) ?_
    refine lv_iconst (v := 2) hx hb dX11_call_56 (by decide) ?_
    refine va_put (D := D) (ci := 1) (v := .int 2) (ty := .int) (C := RX1) (T := TX1) (N := 9) hx hb hts hi_X1 tyX1 tyX1_ok nmX1 hown hK hP hD hS 5 rfl rfl 6 (by decide) (hts (.fieldLink RX11 26 "BeamHouse$Device" "state" "I") (List.mem_of_getElem? (i := 7) rfl)) (fun _ h9 => h9) rfl (by decide +kernel) rfl rfl (Nat.le_of_ble_eq_true rfl) dX11_call_57 (fun H locs hP hD hS => ?_)
    have hP : va_P D vwCl [((a 1), .inr (0, [.ref (a 2), .int 0, .ref (a 3), .int 0])), ((a 2), .inl (ca 0, 4000, .inl (fun _ => 0))), ((a 3), .inl (ca 0, 74, .inl (fun _ => 0))), (h0, .inr (11, [.ref dv, .ref tp, .int 0])), (dv, .inl (ca 2, 4, .inr (.inr (.inr (.inr fd))))), ((a 0), .inr (1, [.ref (a 1), .ref (a 4), .ref (a 5), .ref (a 6), .ref (a 8), .ref (a 10), .int 2, .int (nI (k + 1)), .int s_3])), ((a 6), .inr (3, [.ref (a 7), .int x_5, .int wd, .int ot, .int 0, .int 0, .int 0, .int 0, .int 0, .int 0, .int 0, .int 0, .int 0, .int 0])), ((a 7), .inr (5, [.int 0, .int 24, .int 32, .ref (a 17), .ref (a 18), .int 0]))] H := hP
    have hD : va_D A [((a 1), .inr (0, [.ref (a 2), .int 0, .ref (a 3), .int 0])), ((a 2), .inl (ca 0, 4000, .inl (fun _ => 0))), ((a 3), .inl (ca 0, 74, .inl (fun _ => 0))), (h0, .inr (11, [.ref dv, .ref tp, .int 0])), (dv, .inl (ca 2, 4, .inr (.inr (.inr (.inr fd))))), ((a 0), .inr (1, [.ref (a 1), .ref (a 4), .ref (a 5), .ref (a 6), .ref (a 8), .ref (a 10), .int 2, .int (nI (k + 1)), .int s_3])), ((a 6), .inr (3, [.ref (a 7), .int x_5, .int wd, .int ot, .int 0, .int 0, .int 0, .int 0, .int 0, .int 0, .int 0, .int 0, .int 0, .int 0])), ((a 7), .inr (5, [.int 0, .int 24, .int 32, .ref (a 17), .ref (a 18), .int 0]))] := hD
    refine lv_aload hx hb dX11_call_60 (lv_at hl 0 rfl) ?_
    refine kGo_v (wr := [(h0, .inr (11, [.ref dv, .ref tp, .int 0])), (dv, .inl (ca 2, 4, .inr (.inr (.inr (.inr fd))))), ((a 7), .inr (5, [.int 0, .int 24, .int 32, .ref (a 17), .ref (a 18), .int 0]))]) (kRunV (As := []) (rest := []) ⟨hx, hb, hml, hown, hts⟩ (c_sendsCall l D ca _ a 2 (nI (k + 1)) s_3 x_5 wd ot) (cwV 0 hts g_c_call_yes_c_sendsCall_105 rfl rfl rfl (by decide +kernel) ⟨Nat.le_of_ble_eq_true rfl, Nat.le_of_ble_eq_true rfl⟩) hK hN hP hD [5, 0, 1, 2, 6] rfl rfl rfl rfl rfl rfl hl.1 rfl (Nat.le_of_ble_eq_true rfl) dX11_call_62 ⟨Nat.le_of_ble_eq_true rfl, Nat.le_of_ble_eq_true rfl⟩) hP hD hS hA [5, 0, 1, 2, 6] [3, 4, 7] rfl rfl rfl (by decide) (fun uu_ tt H locs hr_7 hB hj hS => ?_)
    have hWd := hB
    obtain ⟨hP, hD⟩ := hj _ hWd
    have hP : va_P D vwCl [(h0, .inr (11, [.ref dv, .ref tp, .int 0])), (dv, .inl (ca 2, 4, .inr (.inr (.inr (.inr fd))))), ((a 7), .inr (5, [.int 0, .int 24, .int 32, .ref (a 17), .ref (a 18), .int 0])), ((a 0), .inr (1, [.ref (a 1), .ref (a 4), .ref (a 5), .ref (a 6), .ref (a 8), .ref (a 10), .int 2, .int (nI (k + 1)), .int s_3])), ((a 6), .inr (3, [.ref (a 7), .int x_5, .int wd, .int ot, .int 0, .int 0, .int 0, .int 0, .int 0, .int 0, .int 0, .int 0, .int 0, .int 0]))] H := hP
    have hD : va_D A [(h0, .inr (11, [.ref dv, .ref tp, .int 0])), (dv, .inl (ca 2, 4, .inr (.inr (.inr (.inr fd))))), ((a 7), .inr (5, [.int 0, .int 24, .int 32, .ref (a 17), .ref (a 18), .int 0])), ((a 0), .inr (1, [.ref (a 1), .ref (a 4), .ref (a 5), .ref (a 6), .ref (a 8), .ref (a 10), .int 2, .int (nI (k + 1)), .int s_3])), ((a 6), .inr (3, [.ref (a 7), .int x_5, .int wd, .int ot, .int 0, .int 0, .int 0, .int 0, .int 0, .int 0, .int 0, .int 0, .int 0, .int 0]))] := hD
    refine lv_aload hx hb dX11_call_65 (lv_at hl 0 rfl) ?_
    refine va_get (D := D) (ci := 1) (v := .ref (a 6)) (C := RX1) (T := TX1) (N := 9) hx hb hts hi_X1 hown hK hP 3 rfl rfl 3 (by decide) (hts (.fieldLink RX11 92 "BeamHouse$Device" "link" "LBeamHouse$Link;") (List.mem_of_getElem? (i := 11) rfl)) (fun _ h9 => h9) rfl dX11_call_67 ?_
    refine va_get (D := D) (ci := 3) (v := .int x_5) (C := RX3) (T := TX3) (N := 14) hx hb hts hi_X3 hown hK hP 4 rfl rfl 1 (by decide) (hts (.fieldLink RX11 108 "BeamHouse$Link" "number" "I") (List.mem_of_getElem? (i := 96) rfl)) (fun _ h9 => h9) rfl dX11_call_70 ?_
    exact W.iret (v := x_5) hx hb hr (fun tt ht hW => ⟨⟨x_5, (), rfl, (by by_cases hq : 1 ≤ wd ∧ wd ≤ 7; (rw [if_pos hq]; exact ex_5); exact absurd (hr_s.trans (if_neg hq)) c_29), ⟨by rw [ht]; exact hP.sub [] rfl, hD.sub [] rfl rfl⟩⟩, hS.F ht⟩) hS.2.2 dX11_call_73
  · refine lv_bipush (v := (-3)) hx hb dX11_call_32 (by decide) ?_
    exact W.iret (v := (-3)) hx hb hr (fun tt ht hW => ⟨⟨(-3), (), rfl, (by by_cases hq : 1 ≤ wd ∧ wd ≤ 7; exact absurd (hr_s.symm.trans c_29) (by rw [if_pos hq]; decide); exact (if_neg hq).symm), ⟨by rw [ht]; exact hP.sub [] rfl, hD.sub [] rfl rfl⟩⟩, hS.F ht⟩) hS.2.2 dX11_call_34

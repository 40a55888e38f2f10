def w_c_deviceAt_no : List Cond := .code yX11_deviceAt cX11_deviceAt 2 (some (.object "BeamHouse$Device")) :: (([] : List Cond))
set_option maxHeartbeats 4000000 in
set_option maxRecDepth 100000 in
theorem c_deviceAt_no (l : Launch) (D : va_G) (ca : Nat → ClassId) (sz : Nat) (h0 : Nat) (dv : Nat) (tp : Nat) (d : Int32) (hd : d < 0 ∨ 4 ≤ d) : Met l yX11_deviceAt w_c_deviceAt_no ({ frames := 0, cells := 0, slots := 0, locals := 0 }) (Pre D ca [.ref h0, .int d] [(h0, .inr (11, [.ref dv, .ref tp, .int 0]))] sz) (va_Qq (fun (r : Option Nat) (_ : Unit) => r = none) (fun (_ : Unit) (tt : State) => Wd D (va_A [(h0, .inr (11, [.ref dv, .ref tp, .int 0]))] sz) [(h0, .inr (11, [.ref dv, .ref tp, .int 0]))] tt) (va_A [(h0, .inr (11, [.ref dv, .ref tp, .int 0]))] sz)) 0 0 (va_A [(h0, .inr (11, [.ref dv, .ref tp, .int 0]))] sz) := by
  refine Met.ofW (cc := cX11_deviceAt) (maxL := 2) (ret := (some (.object "BeamHouse$Device"))) (by decide) rfl ?_
  intro p e s m args below meth c s₁ B hml hv
  obtain ⟨rfl, hsz, hP, hK, hD0, hN⟩ := hv
  have hx := B.exec
  have hb := B.bytes
  have hr := B.returns
  have hts := atoms_spec (ws := w_c_deviceAt_no) B.pre
  have hown : s.vm.findClass RX11 = some m.cls := findClass_of_methodNamed B.named
  have hlocks := B.notSynchronized
  subst hsz
  have hD := hD0.self (sz := s.heap.size)
  generalize hAe : va_A [(h0, .inr (11, [.ref dv, .ref tp, .int 0]))] s.heap.size = A at hD ⊢
  have hA : ∀ q : Nat, s.heap.size ≤ q → A q := fun q h => by rw [← hAe]; exact Or.inr h
  have hS : va_S A s.heap s.heap [] := va_S.rf
  have hP : va_P D vwCl [(h0, .inr (11, [.ref dv, .ref tp, .int 0]))] s.heap := hP
  have hl := lv_entry ([.ref h0, .int d]) (n := 2) (Nat.le_of_ble_eq_true rfl)
  rw [lg_entry_eq]
  generalize (lg_sl ([.ref h0, .int d]) ++ List.replicate (2 - (lg_sl ([.ref h0, .int d])).length) Slot.unset).toArray = ls at hl ⊢
  have hl : lv_has ls 2 [(0, .ref h0), (1, .int d)] := hl
  refine lv_iload_n hx hb dX11_deviceAt_0 rfl (lv_at hl 1 rfl) ?_
  refine lv_if_lt (tgt := 9) hx hb dX11_deviceAt_1 (by decide) (fun c_1 => ?_) (fun c_1 => ?_)
  · refine lv_null hx hb dX11_deviceAt_9 ?_
    refine lv_goto (tgt := 19) hx hb dX11_deviceAt_10 (by decide) ?_
    exact W.aret (v := .null) hx hb hr (Or.inl ⟨_, rfl⟩) (Or.inl rfl) (fun tt ht hW => ⟨⟨none, (), rfl, rfl, ⟨by rw [ht]; exact hP.sub [0] rfl, hD.sub [0] rfl rfl⟩⟩, hS.F ht⟩) hS.2.2 dX11_deviceAt_19
  · refine lv_iload_n hx hb dX11_deviceAt_4 rfl (lv_at hl 1 rfl) ?_
    refine lv_iconst (v := 4) hx hb dX11_deviceAt_5 (by decide) ?_
    refine lv_icmp_lt (tgt := 13) hx hb dX11_deviceAt_6 (by decide) (fun h => absurd h (fun h => absurd h (Int32.not_lt.mpr (hd.resolve_left c_1)))) (fun _ => ?_)
    refine lv_null hx hb dX11_deviceAt_9 ?_
    refine lv_goto (tgt := 19) hx hb dX11_deviceAt_10 (by decide) ?_
    exact W.aret (v := .null) hx hb hr (Or.inl ⟨_, rfl⟩) (Or.inl rfl) (fun tt ht hW => ⟨⟨none, (), rfl, rfl, ⟨by rw [ht]; exact hP.sub [0] rfl, hD.sub [0] rfl rfl⟩⟩, hS.F ht⟩) hS.2.2 dX11_deviceAt_19
def w_c_deviceAt_yes : List Cond := .code yX11_deviceAt cX11_deviceAt 2 (some (.object "BeamHouse$Device")) :: (([.fieldLink RX11 11 "BeamHouse" "devices" "[LBeamHouse$Device;"] : List Cond) ++ wsX110)
set_option maxHeartbeats 4000000 in
set_option maxRecDepth 100000 in
theorem c_deviceAt_yes (l : Launch) (D : va_G) (ca : Nat → ClassId) (sz : Nat) (h0 : Nat) (dv : Nat) (tp : Nat) (fd : Nat → Option Nat) (a : Nat → Nat) (k : Nat) (hk : k < 4) (hfd : fd k = some (a 0)) : Met l yX11_deviceAt w_c_deviceAt_yes ({ frames := 0, cells := 0, slots := 0, locals := 0 }) (Pre D ca [.ref h0, .int (nI k)] [(h0, .inr (11, [.ref dv, .ref tp, .int 0])), (dv, .inl (ca 2, 4, .inr (.inr (.inr (.inr fd)))))] sz) (va_Qq (fun (r : Option Nat) (_ : Unit) => r = some (a 0)) (fun (_ : Unit) (tt : State) => Wd D (va_A [(h0, .inr (11, [.ref dv, .ref tp, .int 0])), (dv, .inl (ca 2, 4, .inr (.inr (.inr (.inr fd)))))] sz) [(h0, .inr (11, [.ref dv, .ref tp, .int 0])), (dv, .inl (ca 2, 4, .inr (.inr (.inr (.inr fd)))))] tt) (va_A [(h0, .inr (11, [.ref dv, .ref tp, .int 0])), (dv, .inl (ca 2, 4, .inr (.inr (.inr (.inr fd)))))] sz)) 0 0 (va_A [(h0, .inr (11, [.ref dv, .ref tp, .int 0])), (dv, .inl (ca 2, 4, .inr (.inr (.inr (.inr fd)))))] sz) := by
  refine Met.ofW (cc := cX11_deviceAt) (maxL := 2) (ret := (some (.object "BeamHouse$Device"))) (by decide) rfl ?_
  intro p e s m args below meth c s₁ B hml hv
  obtain ⟨rfl, hsz, hP, hK, hD0, hN⟩ := hv
  have hx := B.exec
  have hb := B.bytes
  have hr := B.returns
  have hts := atoms_spec (ws := w_c_deviceAt_yes) B.pre
  have hown : s.vm.findClass RX11 = some m.cls := findClass_of_methodNamed B.named
  have hlocks := B.notSynchronized
  have hi_X11 : ∀ w ∈ wsX110, w ∈ w_c_deviceAt_yes := fun _ h => List.mem_cons_of_mem _ (List.mem_append_right _ h)
  subst hsz
  have hD := hD0.self (sz := s.heap.size)
  generalize hAe : va_A [(h0, .inr (11, [.ref dv, .ref tp, .int 0])), (dv, .inl (ca 2, 4, .inr (.inr (.inr (.inr fd)))))] s.heap.size = A at hD ⊢
  have hA : ∀ q : Nat, s.heap.size ≤ q → A q := fun q h => by rw [← hAe]; exact Or.inr h
  have hS : va_S A s.heap s.heap [] := va_S.rf
  have hP : va_P D vwCl [(h0, .inr (11, [.ref dv, .ref tp, .int 0])), (dv, .inl (ca 2, 4, .inr (.inr (.inr (.inr fd)))))] s.heap := hP
  have hl := lv_entry ([.ref h0, .int (nI k)]) (n := 2) (Nat.le_of_ble_eq_true rfl)
  rw [lg_entry_eq]
  generalize (lg_sl ([.ref h0, .int (nI k)]) ++ List.replicate (2 - (lg_sl ([.ref h0, .int (nI k)])).length) Slot.unset).toArray = ls at hl ⊢
  have hl : lv_has ls 2 [(0, .ref h0), (1, .int (nI k))] := hl
  refine lv_iload_n hx hb dX11_deviceAt_0 rfl (lv_at hl 1 rfl) ?_
  refine lv_if_lt (tgt := 9) hx hb dX11_deviceAt_1 (by decide) (fun h => absurd h (k_lt0 hk)) (fun _ => ?_)
  refine lv_iload_n hx hb dX11_deviceAt_4 rfl (lv_at hl 1 rfl) ?_
  refine lv_iconst (v := 4) hx hb dX11_deviceAt_5 (by decide) ?_
  refine lv_icmp_lt (tgt := 13) hx hb dX11_deviceAt_6 (by decide) (fun _ => ?_) (fun h => absurd (Int32.not_le.mp (k_ge4 hk)) h)
  refine lv_aload_n hx hb dX11_deviceAt_13 rfl (lv_at hl 0 rfl) ?_
  refine va_get (D := D) (ci := 11) (v := .ref dv) (C := RX11) (T := TX11) (N := 3) hx hb hts hi_X11 hown hK hP 0 rfl rfl 0 (by decide) (hts (.fieldLink RX11 11 "BeamHouse" "devices" "[LBeamHouse$Device;") (List.mem_of_getElem? (i := 1) rfl)) (fun _ h9 => h9) rfl dX11_deviceAt_14 ?_
  refine lv_iload_n hx hb dX11_deviceAt_17 rfl (lv_at hl 1 rfl) ?_
  refine va_aldq hx hb hK hP 1 2 rfl rfl (k_in hk (by decide)) dX11_deviceAt_18 ?_
  refine lv_topv (.ref (a 0)) (by rw [k_cl hk, hfd]; rfl) ?_
  exact W.aret (v := .ref (a 0)) hx hb hr (Or.inl ⟨_, rfl⟩) (Or.inr ⟨_, rfl⟩) (fun tt ht hW => ⟨⟨(some (a 0)), (), rfl, rfl, ⟨by rw [ht]; exact hP.sub [0, 1] rfl, hD.sub [0, 1] rfl rfl⟩⟩, hS.F ht⟩) hS.2.2 dX11_deviceAt_19
def w_c_device_no : List Cond := .code yX11_device cX11_device 5 (some .int) :: (([.code yX11_deviceAt cX11_deviceAt 2 (some (.object "BeamHouse$Device")), .methodLink RX11 22 yX11_deviceAt, .instanceMethod yX11_deviceAt, .selects RX11 yX11_deviceAt yX11_deviceAt, .initialized RX11] : List Cond))
theorem g_c_device_no_c_deviceAt_no_22 : GoodIn w_c_device_no (wsV RX11 22 RX11 yX11_deviceAt w_c_deviceAt_no) := (goodIn_app (goodIn_r _ [2, 3, 4, 5] rfl rfl) (goodIn_r _ [1] rfl rfl))
set_option maxHeartbeats 4000000 in
set_option maxRecDepth 100000 in
theorem c_device_no (l : Launch) (D : va_G) (ca : Nat → ClassId) (sz : Nat) (h0 : Nat) (dv : Nat) (tp : Nat) (d : Int32) (ad : Int32) (se : Int32) (hd : d < 0 ∨ 4 ≤ d) : Met l yX11_device w_c_device_no ({ frames := 1, cells := 0, slots := 0, locals := 21 }) (Pre D ca [.ref h0, .int d, .int ad, .int se] [(h0, .inr (11, [.ref dv, .ref tp, .int 0]))] sz) (va_Qi (fun (r : Int32) (_ : Unit) => r = 0) (fun (_ : Unit) (tt : State) => Wd D (va_A [(h0, .inr (11, [.ref dv, .ref tp, .int 0]))] sz) [] tt) (va_A [(h0, .inr (11, [.ref dv, .ref tp, .int 0]))] sz)) 0 0 (va_A [(h0, .inr (11, [.ref dv, .ref tp, .int 0]))] sz) := by
  refine Met.ofW (cc := cX11_device) (maxL := 5) (ret := (some .int)) (by decide) rfl ?_
  intro p e s m args below meth c s₁ B hml hv
  obtain ⟨rfl, hsz, hP, hK, hD0, hN⟩ := hv
  have hx := B.exec
  have hb := B.bytes
  have hr := B.returns
  have hts := atoms_spec (ws := w_c_device_no) B.pre
  have hown : s.vm.findClass RX11 = some m.cls := findClass_of_methodNamed B.named
  have hlocks := B.notSynchronized
  subst hsz
  have hD := hD0.self (sz := s.heap.size)
  generalize hAe : va_A [(h0, .inr (11, [.ref dv, .ref tp, .int 0]))] s.heap.size = A at hD ⊢
  have hA : ∀ q : Nat, s.heap.size ≤ q → A q := fun q h => by rw [← hAe]; exact Or.inr h
  have hS : va_S A s.heap s.heap [] := va_S.rf
  have hP : va_P D vwCl [(h0, .inr (11, [.ref dv, .ref tp, .int 0]))] s.heap := hP
  have hl := lv_entry ([.ref h0, .int d, .int ad, .int se]) (n := 5) (Nat.le_of_ble_eq_true rfl)
  rw [lg_entry_eq]
  generalize (lg_sl ([.ref h0, .int d, .int ad, .int se]) ++ List.replicate (5 - (lg_sl ([.ref h0, .int d, .int ad, .int se])).length) Slot.unset).toArray = ls at hl ⊢
  have hl : lv_has ls 5 [(0, .ref h0), (1, .int d), (2, .int ad), (3, .int se)] := hl
  refine lv_aload_n hx hb dX11_device_0 rfl (lv_at hl 0 rfl) ?_
  refine lv_iload_n hx hb dX11_device_1 rfl (lv_at hl 1 rfl) ?_
  refine kGo_q (wr := []) (kRunV (As := [.int d]) (rest := []) ⟨hx, hb, hml, hown, hts⟩ (c_deviceAt_no l D ca _ h0 dv tp d hd) (cwV 1 hts g_c_device_no_c_deviceAt_no_22 rfl rfl rfl (by decide +kernel) ⟨Nat.le_of_ble_eq_true rfl, Nat.le_of_ble_eq_true rfl⟩) hK hN hP hD [0] rfl rfl rfl rfl rfl rfl hl.1 rfl (Nat.le_of_ble_eq_true rfl) dX11_device_2 ⟨Nat.le_of_ble_eq_true rfl, Nat.le_of_ble_eq_true rfl⟩) hP hD hS hA [0] [] rfl rfl rfl (by decide) (fun r_1 uu_ tt H locs hr_1 hB hj hS => ?_)
  have hWd := hB
  obtain ⟨hP, hD⟩ := hj _ hWd
  have hP : va_P D vwCl [(h0, .inr (11, [.ref dv, .ref tp, .int 0]))] H := hP
  have hD : va_D A [(h0, .inr (11, [.ref dv, .ref tp, .int 0]))] := hD
  subst hr_1
  refine W.eq (g2 := F0 m 5 ls [.null]) rfl ?_
  refine lv_astoreN (lv' := [(4, .null), (0, .ref h0), (1, .int d), (2, .int ad), (3, .int se)]) hx hb dX11_device_5 hl (by decide) rfl (fun ls hl => ?_)
  refine lv_aloadN hx hb dX11_device_7 (lv_at hl 0 rfl) ?_
  refine lv_ifnullN (tgt := 20) hx hb dX11_device_9 (by decide) ?_
  refine lv_iconst (v := 0) hx hb dX11_device_20 (by decide) ?_
  exact W.iret (v := 0) hx hb hr (fun tt ht hW => ⟨⟨0, (), rfl, rfl, ⟨by rw [ht]; exact hP.sub [] rfl, hD.sub [] rfl rfl⟩⟩, hS.F ht⟩) hS.2.2 dX11_device_21
def w_c_device_yes : List Cond := .code yX11_device cX11_device 5 (some .int) :: (([.code yX11_deviceAt cX11_deviceAt 2 (some (.object "BeamHouse$Device")), .fieldLink RX11 11 "BeamHouse" "devices" "[LBeamHouse$Device;", .methodLink RX11 22 yX11_deviceAt, .instanceMethod yX11_deviceAt, .selects RX11 yX11_deviceAt yX11_deviceAt, .initialized RX11, .fieldLink RX11 26 "BeamHouse$Device" "state" "I", .fieldLink RX11 30 "BeamHouse$Device" "address" "I", .fieldLink RX11 33 "BeamHouse$Device" "seed" "I"] : List Cond) ++ wsX110 ++ wsX10)
theorem g_c_device_yes_c_deviceAt_yes_22 : GoodIn w_c_device_yes (wsV RX11 22 RX11 yX11_deviceAt w_c_deviceAt_yes) := (goodIn_app (goodIn_r _ [3, 4, 5, 6] rfl rfl) (goodIn_ca (goodIn_r _ [1, 2] rfl rfl) (goodIn_sub (fun _ h => List.mem_cons_of_mem _ (List.mem_append_left _ (List.mem_append_right _ h))) gw_X11)))
set_option maxHeartbeats 4000000 in
set_option maxRecDepth 100000 in
theorem c_device_yes (l : Launch) (D : va_G) (ca : Nat → ClassId) (sz : Nat) (h0 : Nat) (dv : Nat) (tp : Nat) (fd : Nat → Option Nat) (a : Nat → Nat) (k : Nat) (ad : Int32) (se : Int32) (hk : k < 4) (hfd : fd k = some (a 0)) : Met l yX11_device w_c_device_yes ({ frames := 1, cells := 0, slots := 0, locals := 21 }) (Pre D ca [.ref h0, .int (nI k), .int ad, .int se] [(h0, .inr (11, [.ref dv, .ref tp, .int 0])), (dv, .inl (ca 2, 4, .inr (.inr (.inr (.inr fd))))), ((a 0), .inr (1, [.ref (a 1), .ref (a 4), .ref (a 5), .ref (a 6), .ref (a 8), .ref (a 10), .int 0, .int (nI (k + 1)), .int (nI k)]))] sz) (va_Qi (fun (r : Int32) (_ : Unit) => r = 1) (fun (_ : Unit) (tt : State) => Wd D (va_A [(h0, .inr (11, [.ref dv, .ref tp, .int 0])), (dv, .inl (ca 2, 4, .inr (.inr (.inr (.inr fd))))), ((a 0), .inr (1, [.ref (a 1), .ref (a 4), .ref (a 5), .ref (a 6), .ref (a 8), .ref (a 10), .int 0, .int (nI (k + 1)), .int (nI k)]))] sz) [] tt) (va_A [(h0, .inr (11, [.ref dv, .ref tp, .int 0])), (dv, .inl (ca 2, 4, .inr (.inr (.inr (.inr fd))))), ((a 0), .inr (1, [.ref (a 1), .ref (a 4), .ref (a 5), .ref (a 6), .ref (a 8), .ref (a 10), .int 0, .int (nI (k + 1)), .int (nI k)]))] sz)) 0 0 (va_A [(h0, .inr (11, [.ref dv, .ref tp, .int 0])), (dv, .inl (ca 2, 4, .inr (.inr (.inr (.inr fd))))), ((a 0), .inr (1, [.ref (a 1), .ref (a 4), .ref (a 5), .ref (a 6), .ref (a 8), .ref (a 10), .int 0, .int (nI (k + 1)), .int (nI k)]))] sz) := by
  refine Met.ofW (cc := cX11_device) (maxL := 5) (ret := (some .int)) (by decide) rfl ?_
  intro p e s m args below meth c s₁ B hml hv
  obtain ⟨rfl, hsz, hP, hK, hD0, hN⟩ := hv
  have hx := B.exec
  have hb := B.bytes
  have hr := B.returns
  have hts := atoms_spec (ws := w_c_device_yes) B.pre
  have hown : s.vm.findClass RX11 = some m.cls := findClass_of_methodNamed B.named
  have hlocks := B.notSynchronized
  have hi_X11 : ∀ w ∈ wsX110, w ∈ w_c_device_yes := fun _ h => List.mem_cons_of_mem _ (List.mem_append_left _ (List.mem_append_right _ h))
  have hi_X1 : ∀ w ∈ wsX10, w ∈ w_c_device_yes := fun _ h => List.mem_cons_of_mem _ (List.mem_append_right _ h)
  subst hsz
  have hD := hD0.self (sz := s.heap.size)
  generalize hAe : va_A [(h0, .inr (11, [.ref dv, .ref tp, .int 0])), (dv, .inl (ca 2, 4, .inr (.inr (.inr (.inr fd))))), ((a 0), .inr (1, [.ref (a 1), .ref (a 4), .ref (a 5), .ref (a 6), .ref (a 8), .ref (a 10), .int 0, .int (nI (k + 1)), .int (nI k)]))] s.heap.size = A at hD ⊢
  have hA : ∀ q : Nat, s.heap.size ≤ q → A q := fun q h => by rw [← hAe]; exact Or.inr h
  have hS : va_S A s.heap s.heap [] := va_S.rf
  have hP : va_P D vwCl [(h0, .inr (11, [.ref dv, .ref tp, .int 0])), (dv, .inl (ca 2, 4, .inr (.inr (.inr (.inr fd))))), ((a 0), .inr (1, [.ref (a 1), .ref (a 4), .ref (a 5), .ref (a 6), .ref (a 8), .ref (a 10), .int 0, .int (nI (k + 1)), .int (nI k)]))] s.heap := hP
  have hl := lv_entry ([.ref h0, .int (nI k), .int ad, .int se]) (n := 5) (Nat.le_of_ble_eq_true rfl)
  rw [lg_entry_eq]
  generalize (lg_sl ([.ref h0, .int (nI k), .int ad, .int se]) ++ List.replicate (5 - (lg_sl ([.ref h0, .int (nI k), .int ad, .int se])).length) Slot.unset).toArray = ls at hl ⊢
  have hl : lv_has ls 5 [(0, .ref h0), (1, .int (nI k)), (2, .int ad), (3, .int se)] := hl
  refine lv_aload_n hx hb dX11_device_0 rfl (lv_at hl 0 rfl) ?_
  refine lv_iload_n hx hb dX11_device_1 rfl (lv_at hl 1 rfl) ?_
  refine kGo_q (wr := [((a 0), .inr (1, [.ref (a 1), .ref (a 4), .ref (a 5), .ref (a 6), .ref (a 8), .ref (a 10), .int 0, .int (nI (k + 1)), .int (nI k)]))]) (kRunV (As := [.int (nI k)]) (rest := []) ⟨hx, hb, hml, hown, hts⟩ (c_deviceAt_yes l D ca _ h0 dv tp fd a k hk hfd) (cwV 1 hts g_c_device_yes_c_deviceAt_yes_22 rfl rfl rfl (by decide +kernel) ⟨Nat.le_of_ble_eq_true rfl, Nat.le_of_ble_eq_true rfl⟩) hK hN hP hD [0, 1] rfl rfl rfl rfl rfl rfl hl.1 rfl (Nat.le_of_ble_eq_true rfl) dX11_device_2 ⟨Nat.le_of_ble_eq_true rfl, Nat.le_of_ble_eq_true rfl⟩) hP hD hS hA [0, 1] [2] rfl rfl rfl (by decide) (fun r_1 uu_ tt H locs hr_1 hB hj hS => ?_)
  have hWd := hB
  obtain ⟨hP, hD⟩ := hj _ hWd
  have hP : va_P D vwCl [((a 0), .inr (1, [.ref (a 1), .ref (a 4), .ref (a 5), .ref (a 6), .ref (a 8), .ref (a 10), .int 0, .int (nI (k + 1)), .int (nI k)])), (h0, .inr (11, [.ref dv, .ref tp, .int 0])), (dv, .inl (ca 2, 4, .inr (.inr (.inr (.inr fd)))))] H := hP
  have hD : va_D A [((a 0), .inr (1, [.ref (a 1), .ref (a 4), .ref (a 5), .ref (a 6), .ref (a 8), .ref (a 10), .int 0, .int (nI (k + 1)), .int (nI k)])), (h0, .inr (11, [.ref dv, .ref tp, .int 0])), (dv, .inl (ca 2, 4, .inr (.inr (.inr (.inr fd)))))] := hD
  subst hr_1
  refine W.eq (g2 := F0 m 5 ls [.ref (a 0)]) rfl ?_
  refine lv_astore (lv' := [(4, .ref (a 0)), (0, .ref h0), (1, .int (nI k)), (2, .int ad), (3, .int se)]) hx hb dX11_device_5 hl (by decide) rfl (fun ls hl => ?_)
  refine lv_aload hx hb dX11_device_7 (lv_at hl 0 rfl) ?_
  refine lv_ifnull hx hb dX11_device_9 ?_
  refine lv_aload hx hb dX11_device_12 (lv_at hl 0 rfl) ?_
  refine va_get (D := D) (ci := 1) (v := .int 0) (C := RX1) (T := TX1) (N := 9) hx hb hts hi_X1 hown hK hP 0 rfl rfl 6 (by decide) (hts (.fieldLink RX11 26 "BeamHouse$Device" "state" "I") (List.mem_of_getElem? (i := 7) rfl)) (fun _ h9 => h9) rfl dX11_device_14 ?_
  refine lv_if_eq (tgt := 22) hx hb dX11_device_17 (by decide) (fun _ => ?_) (fun h => absurd (by decide) h)
  refine lv_aload hx hb dX11_device_22 (lv_at hl 0 rfl) ?_
  refine lv_iload_n hx hb dX11_device_24 rfl (lv_at hl 3 rfl) ?_
  refine va_put (D := D) (ci := 1) (v := .int ad) (ty := .int) (C := RX1) (T := TX1) (N := 9) hx hb hts hi_X1 tyX1 tyX1_ok nmX1 hown hK hP hD hS 0 rfl rfl 7 (by decide) (hts (.fieldLink RX11 30 "BeamHouse$Device" "address" "I") (List.mem_of_getElem? (i := 8) rfl)) (fun _ h9 => h9) rfl (by decide +kernel) rfl rfl (Nat.le_of_ble_eq_true rfl) dX11_device_25 (fun H locs hP hD hS => ?_)
  have hP : va_P D vwCl [((a 0), .inr (1, [.ref (a 1), .ref (a 4), .ref (a 5), .ref (a 6), .ref (a 8), .ref (a 10), .int 0, .int ad, .int (nI k)])), (h0, .inr (11, [.ref dv, .ref tp, .int 0])), (dv, .inl (ca 2, 4, .inr (.inr (.inr (.inr fd)))))] H := hP
  have hD : va_D A [((a 0), .inr (1, [.ref (a 1), .ref (a 4), .ref (a 5), .ref (a 6), .ref (a 8), .ref (a 10), .int 0, .int ad, .int (nI k)])), (h0, .inr (11, [.ref dv, .ref tp, .int 0])), (dv, .inl (ca 2, 4, .inr (.inr (.inr (.inr fd)))))] := hD
  refine lv_aload hx hb dX11_device_28 (lv_at hl 0 rfl) ?_
  refine lv_iload_n hx hb dX11_device_30 rfl (lv_at hl 4 rfl) ?_
  refine va_put (D := D) (ci := 1) (v := .int se) (ty := .int) (C := RX1) (T := TX1) (N := 9) hx hb hts hi_X1 tyX1 tyX1_ok nmX1 hown hK hP hD hS 0 rfl rfl 8 (by decide) (hts (.fieldLink RX11 33 "BeamHouse$Device" "seed" "I") (List.mem_of_getElem? (i := 9) rfl)) (fun _ h9 => h9) rfl (by decide +kernel) rfl rfl (Nat.le_of_ble_eq_true rfl) dX11_device_31 (fun H locs hP hD hS => ?_)
  have hP : va_P D vwCl [((a 0), .inr (1, [.ref (a 1), .ref (a 4), .ref (a 5), .ref (a 6), .ref (a 8), .ref (a 10), .int 0, .int ad, .int se])), (h0, .inr (11, [.ref dv, .ref tp, .int 0])), (dv, .inl (ca 2, 4, .inr (.inr (.inr (.inr fd)))))] H := hP
  have hD : va_D A [((a 0), .inr (1, [.ref (a 1), .ref (a 4), .ref (a 5), .ref (a 6), .ref (a 8), .ref (a 10), .int 0, .int ad, .int se])), (h0, .inr (11, [.ref dv, .ref tp, .int 0])), (dv, .inl (ca 2, 4, .inr (.inr (.inr (.inr fd)))))] := hD
  refine lv_iconst (v := 1) hx hb dX11_device_34 (by decide) ?_
  exact W.iret (v := 1) hx hb hr (fun tt ht hW => ⟨⟨1, (), rfl, rfl, ⟨by rw [ht]; exact hP.sub [] rfl, hD.sub [] rfl rfl⟩⟩, hS.F ht⟩) hS.2.2 dX11_device_35
def w_c_bend : List Cond := .code yX11_bend cX11_bend 4 (some .int) :: (([.fieldLink RX11 36 "BeamHouse" "taped" "I"] : List Cond) ++ wsX110)
set_option maxHeartbeats 4000000 in
set_option maxRecDepth 100000 in
theorem c_bend (l : Launch) (D : va_G) (ca : Nat → ClassId) (sz : Nat) (h0 : Nat) (dv : Nat) (tp : Nat) (i : Int32) (ms : Int32)  : Met l yX11_bend w_c_bend ({ frames := 0, cells := 0, slots := 0, locals := 0 }) (Pre D ca [.ref h0, .int i, .int ms] [(h0, .inr (11, [.ref dv, .ref tp, .int 0]))] sz) (va_Qi (fun (r : Int32) (_ : Unit) => r = -1) (fun (_ : Unit) (tt : State) => Wd D (va_A [(h0, .inr (11, [.ref dv, .ref tp, .int 0]))] sz) [] tt) (va_A [(h0, .inr (11, [.ref dv, .ref tp, .int 0]))] sz)) 0 0 (va_A [(h0, .inr (11, [.ref dv, .ref tp, .int 0]))] sz) := by
  refine Met.ofW (cc := cX11_bend) (maxL := 4) (ret := (some .int)) (by decide) rfl ?_
  intro p e s m args below meth c s₁ B hml hv
  obtain ⟨rfl, hsz, hP, hK, hD0, hN⟩ := hv
  have hx := B.exec
  have hb := B.bytes
  have hr := B.returns
  have hts := atoms_spec (ws := w_c_bend) B.pre
  have hown : s.vm.findClass RX11 = some m.cls := findClass_of_methodNamed B.named
  have hlocks := B.notSynchronized
  have hi_X11 : ∀ w ∈ wsX110, w ∈ w_c_bend := fun _ h => List.mem_cons_of_mem _ (List.mem_append_right _ h)
  subst hsz
  have hD := hD0.self (sz := s.heap.size)
  generalize hAe : va_A [(h0, .inr (11, [.ref dv, .ref tp, .int 0]))] s.heap.size = A at hD ⊢
  have hA : ∀ q : Nat, s.heap.size ≤ q → A q := fun q h => by rw [← hAe]; exact Or.inr h
  have hS : va_S A s.heap s.heap [] := va_S.rf
  have hP : va_P D vwCl [(h0, .inr (11, [.ref dv, .ref tp, .int 0]))] s.heap := hP
  have hl := lv_entry ([.ref h0, .int i, .int ms]) (n := 4) (Nat.le_of_ble_eq_true rfl)
  rw [lg_entry_eq]
  generalize (lg_sl ([.ref h0, .int i, .int ms]) ++ List.replicate (4 - (lg_sl ([.ref h0, .int i, .int ms])).length) Slot.unset).toArray = ls at hl ⊢
  have hl : lv_has ls 4 [(0, .ref h0), (1, .int i), (2, .int ms)] := hl
  refine lv_iload_n hx hb dX11_bend_0 rfl (lv_at hl 1 rfl) ?_
  refine lv_if_lt (tgt := 12) hx hb dX11_bend_1 (by decide) (fun c_1 => ?_) (fun c_1 => ?_)
  · refine lv_iconst (v := (-1)) hx hb dX11_bend_12 (by decide) ?_
    exact W.iret (v := (-1)) hx hb hr (fun tt ht hW => ⟨⟨(-1), (), rfl, rfl, ⟨by rw [ht]; exact hP.sub [] rfl, hD.sub [] rfl rfl⟩⟩, hS.F ht⟩) hS.2.2 dX11_bend_13
  · refine lv_iload_n hx hb dX11_bend_4 rfl (lv_at hl 1 rfl) ?_
    refine lv_aload_n hx hb dX11_bend_5 rfl (lv_at hl 0 rfl) ?_
    refine va_get (D := D) (ci := 11) (v := .int 0) (C := RX11) (T := TX11) (N := 3) hx hb hts hi_X11 hown hK hP 0 rfl rfl 2 (by decide) (hts (.fieldLink RX11 36 "BeamHouse" "taped" "I") (List.mem_of_getElem? (i := 1) rfl)) (fun _ h9 => h9) rfl dX11_bend_6 ?_
    refine lv_icmp_lt (tgt := 14) hx hb dX11_bend_9 (by decide) (fun h => absurd h (fun h => absurd h c_1)) (fun _ => ?_)
    refine lv_iconst (v := (-1)) hx hb dX11_bend_12 (by decide) ?_
    exact W.iret (v := (-1)) hx hb hr (fun tt ht hW => ⟨⟨(-1), (), rfl, rfl, ⟨by rw [ht]; exact hP.sub [] rfl, hD.sub [] rfl rfl⟩⟩, hS.F ht⟩) hS.2.2 dX11_bend_13
def w_c_movesTo : List Cond := .code yX0_movesTo cX0_movesTo 4 (some .int) :: (([.fieldLink RX0 30 "BeamHouse$Air" "length" "I", .methodLink RX0 44 Lib.Math.min.name, .static Lib.Math.min.name, .initialized "java/lang/Math", .code Lib.Math.min.name Lib.Math.min.code 2 (some .int)] : List Cond) ++ wsX00)
set_option maxHeartbeats 4000000 in
set_option maxRecDepth 100000 in
theorem c_movesTo (l : Launch) (D : va_G) (ca : Nat → ClassId) (sz : Nat) (h0 : Nat) (ab : Nat) (af : Nat) (tp : Nat)  : Met l yX0_movesTo w_c_movesTo ({ frames := 1, cells := 0, slots := 0, locals := 14 }) (Pre D ca [.ref h0, .ref tp] [(h0, .inr (0, [.ref ab, .int 0, .ref af, .int 0])), (tp, .inl (ca 0, 1000, .inl (fun _ => 0)))] sz) (va_Qi (fun (r : Int32) (_ : Unit) => r = 0) (fun (_ : Unit) (tt : State) => Wd D (va_A [(h0, .inr (0, [.ref ab, .int 0, .ref af, .int 0])), (tp, .inl (ca 0, 1000, .inl (fun _ => 0)))] sz) [] tt) (va_A [(h0, .inr (0, [.ref ab, .int 0, .ref af, .int 0])), (tp, .inl (ca 0, 1000, .inl (fun _ => 0)))] sz)) 0 0 (va_A [(h0, .inr (0, [.ref ab, .int 0, .ref af, .int 0])), (tp, .inl (ca 0, 1000, .inl (fun _ => 0)))] sz) := by
  refine Met.ofW (cc := cX0_movesTo) (maxL := 4) (ret := (some .int)) (by decide) rfl ?_
  intro p e s m args below meth c s₁ B hml hv
  obtain ⟨rfl, hsz, hP, hK, hD0, hN⟩ := hv
  have hx := B.exec
  have hb := B.bytes
  have hr := B.returns
  have hts := atoms_spec (ws := w_c_movesTo) B.pre
  have hown : s.vm.findClass RX0 = some m.cls := findClass_of_methodNamed B.named
  have hlocks := B.notSynchronized
  have hi_X0 : ∀ w ∈ wsX00, w ∈ w_c_movesTo := fun _ h => List.mem_cons_of_mem _ (List.mem_append_right _ h)
  subst hsz
  have hD := hD0.self (sz := s.heap.size)
  generalize hAe : va_A [(h0, .inr (0, [.ref ab, .int 0, .ref af, .int 0])), (tp, .inl (ca 0, 1000, .inl (fun _ => 0)))] s.heap.size = A at hD ⊢
  have hA : ∀ q : Nat, s.heap.size ≤ q → A q := fun q h => by rw [← hAe]; exact Or.inr h
  have hS : va_S A s.heap s.heap [] := va_S.rf
  have hP : va_P D vwCl [(h0, .inr (0, [.ref ab, .int 0, .ref af, .int 0])), (tp, .inl (ca 0, 1000, .inl (fun _ => 0)))] s.heap := hP
  have hl := lv_entry ([.ref h0, .ref tp]) (n := 4) (Nat.le_of_ble_eq_true rfl)
  rw [lg_entry_eq]
  generalize (lg_sl ([.ref h0, .ref tp]) ++ List.replicate (4 - (lg_sl ([.ref h0, .ref tp])).length) Slot.unset).toArray = ls at hl ⊢
  have hl : lv_has ls 4 [(0, .ref h0), (1, .ref tp)] := hl
  refine lv_aload_n hx hb dX0_movesTo_0 rfl (lv_at hl 0 rfl) ?_
  refine va_get (D := D) (ci := 0) (v := .int 0) (C := RX0) (T := TX0) (N := 4) hx hb hts hi_X0 hown hK hP 0 rfl rfl 1 (by decide) (hts (.fieldLink RX0 30 "BeamHouse$Air" "length" "I") (List.mem_of_getElem? (i := 1) rfl)) (fun _ h9 => h9) rfl dX0_movesTo_1 ?_
  refine lv_aload_n hx hb dX0_movesTo_4 rfl (lv_at hl 1 rfl) ?_
  refine va_alen (v := 1000) hx hb hK hP 1 0 rfl rfl (by first | rfl | decide) dX0_movesTo_5 ?_
  refine va_mmin hx hb (by rw [hml]; exact hl.1.symm) hown (hts (.methodLink RX0 44 Lib.Math.min.name) (List.mem_of_getElem? (i := 2) rfl)) (hts (.static Lib.Math.min.name) (List.mem_of_getElem? (i := 3) rfl)) (hts (.initialized "java/lang/Math") (List.mem_of_getElem? (i := 4) rfl)) (hts (.code Lib.Math.min.name Lib.Math.min.code 2 (some .int)) (List.mem_of_getElem? (i := 5) rfl)) (Nat.le_of_ble_eq_true rfl) (Nat.le_of_ble_eq_true rfl) (Nat.le_of_ble_eq_true rfl) (Nat.le_of_ble_eq_true rfl) dX0_movesTo_6 ?_
  refine lv_topn 0 (by decide) ?_
  refine lv_istore_n (lv' := [(2, .int 0), (0, .ref h0), (1, .ref tp)]) hx hb dX0_movesTo_9 rfl hl (by decide) rfl (fun ls hl => ?_)
  refine lv_iconst (v := 0) hx hb dX0_movesTo_10 (by decide) ?_
  refine lv_istore_n (lv' := [(3, .int 0), (2, .int 0), (0, .ref h0), (1, .ref tp)]) hx hb dX0_movesTo_11 rfl hl (by decide) rfl (fun ls hl => ?_)
  refine lv_iload_n hx hb dX0_movesTo_12 rfl (lv_at hl 0 rfl) ?_
  refine lv_iload_n hx hb dX0_movesTo_13 rfl (lv_at hl 1 rfl) ?_
  refine lv_icmp_ge (tgt := 32) hx hb dX0_movesTo_14 (by decide) (fun _ => ?_) (fun h => absurd (by decide) h)
  refine lv_iload_n hx hb dX0_movesTo_32 rfl (lv_at hl 1 rfl) ?_
  refine lv_istore_n (lv' := [(3, .int 0), (2, .int 0), (0, .ref h0), (1, .ref tp)]) hx hb dX0_movesTo_33 rfl hl (by decide) rfl (fun ls hl => ?_)
  refine lv_iload_n hx hb dX0_movesTo_34 rfl (lv_at hl 0 rfl) ?_
  refine lv_aload_n hx hb dX0_movesTo_35 rfl (lv_at hl 2 rfl) ?_
  refine va_get (D := D) (ci := 0) (v := .int 0) (C := RX0) (T := TX0) (N := 4) hx hb hts hi_X0 hown hK hP 0 rfl rfl 1 (by decide) (hts (.fieldLink RX0 30 "BeamHouse$Air" "length" "I") (List.mem_of_getElem? (i := 1) rfl)) (fun _ h9 => h9) rfl dX0_movesTo_36 ?_
  refine lv_icmp_ge (tgt := 62) hx hb dX0_movesTo_39 (by decide) (fun _ => ?_) (fun h => absurd (by decide) h)
  refine lv_aload_n hx hb dX0_movesTo_62 rfl (lv_at hl 2 rfl) ?_
  refine lv_dup hx hb dX0_movesTo_63 rfl ?_
  refine va_get (D := D) (ci := 0) (v := .int 0) (C := RX0) (T := TX0) (N := 4) hx hb hts hi_X0 hown hK hP 0 rfl rfl 1 (by decide) (hts (.fieldLink RX0 30 "BeamHouse$Air" "length" "I") (List.mem_of_getElem? (i := 1) rfl)) (fun _ h9 => h9) rfl dX0_movesTo_64 ?_
  refine lv_iload_n hx hb dX0_movesTo_67 rfl (lv_at hl 1 rfl) ?_
  refine lv_isub hx hb dX0_movesTo_68 ?_
  refine lv_topn 0 (by decide) ?_
  refine va_put (D := D) (ci := 0) (v := .int 0) (ty := .int) (C := RX0) (T := TX0) (N := 4) hx hb hts hi_X0 tyX0 tyX0_ok nmX0 hown hK hP hD hS 0 rfl rfl 1 (by decide) (hts (.fieldLink RX0 30 "BeamHouse$Air" "length" "I") (List.mem_of_getElem? (i := 1) rfl)) (fun _ h9 => h9) rfl (by decide +kernel) rfl rfl (Nat.le_of_ble_eq_true rfl) dX0_movesTo_69 (fun H locs hP hD hS => ?_)
  have hP : va_P D vwCl [(h0, .inr (0, [.ref ab, .int 0, .ref af, .int 0])), (tp, .inl (ca 0, 1000, .inl (fun _ => 0)))] H := hP
  have hD : va_D A [(h0, .inr (0, [.ref ab, .int 0, .ref af, .int 0])), (tp, .inl (ca 0, 1000, .inl (fun _ => 0)))] := hD
  refine lv_iload_n hx hb dX0_movesTo_72 rfl (lv_at hl 1 rfl) ?_
  exact W.iret (v := 0) hx hb hr (fun tt ht hW => ⟨⟨0, (), rfl, rfl, ⟨by rw [ht]; exact hP.sub [] rfl, hD.sub [] rfl rfl⟩⟩, hS.F ht⟩) hS.2.2 dX0_movesTo_73
def w_c_take_no : List Cond := .code yX11_take cX11_take 3 (some .int) :: (([.code yX11_deviceAt cX11_deviceAt 2 (some (.object "BeamHouse$Device")), .methodLink RX11 22 yX11_deviceAt, .instanceMethod yX11_deviceAt, .selects RX11 yX11_deviceAt yX11_deviceAt, .initialized RX11] : List Cond))
theorem g_c_take_no_c_deviceAt_no_22 : GoodIn w_c_take_no (wsV RX11 22 RX11 yX11_deviceAt w_c_deviceAt_no) := (goodIn_app (goodIn_r _ [2, 3, 4, 5] rfl rfl) (goodIn_r _ [1] rfl rfl))
set_option maxHeartbeats 4000000 in
set_option maxRecDepth 100000 in
theorem c_take_no (l : Launch) (D : va_G) (ca : Nat → ClassId) (sz : Nat) (h0 : Nat) (dv : Nat) (tp : Nat) (d : Int32) (hd : d < 0 ∨ 4 ≤ d) : Met l yX11_take w_c_take_no ({ frames := 1, cells := 0, slots := 0, locals := 21 }) (Pre D ca [.ref h0, .int d] [(h0, .inr (11, [.ref dv, .ref tp, .int 0]))] sz) (va_Qi (fun (r : Int32) (_ : Unit) => r = -1) (fun (_ : Unit) (tt : State) => Wd D (va_A [(h0, .inr (11, [.ref dv, .ref tp, .int 0]))] sz) [] tt) (va_A [(h0, .inr (11, [.ref dv, .ref tp, .int 0]))] sz)) 0 0 (va_A [(h0, .inr (11, [.ref dv, .ref tp, .int 0]))] sz) := by
  refine Met.ofW (cc := cX11_take) (maxL := 3) (ret := (some .int)) (by decide) rfl ?_
  intro p e s m args below meth c s₁ B hml hv
  obtain ⟨rfl, hsz, hP, hK, hD0, hN⟩ := hv
  have hx := B.exec
  have hb := B.bytes
  have hr := B.returns
  have hts := atoms_spec (ws := w_c_take_no) B.pre
  have hown : s.vm.findClass RX11 = some m.cls := findClass_of_methodNamed B.named
  have hlocks := B.notSynchronized
  subst hsz
  have hD := hD0.self (sz := s.heap.size)
  generalize hAe : va_A [(h0, .inr (11, [.ref dv, .ref tp, .int 0]))] s.heap.size = A at hD ⊢
  have hA : ∀ q : Nat, s.heap.size ≤ q → A q := fun q h => by rw [← hAe]; exact Or.inr h
  have hS : va_S A s.heap s.heap [] := va_S.rf
  have hP : va_P D vwCl [(h0, .inr (11, [.ref dv, .ref tp, .int 0]))] s.heap := hP
  have hl := lv_entry ([.ref h0, .int d]) (n := 3) (Nat.le_of_ble_eq_true rfl)
  rw [lg_entry_eq]
  generalize (lg_sl ([.ref h0, .int d]) ++ List.replicate (3 - (lg_sl ([.ref h0, .int d])).length) Slot.unset).toArray = ls at hl ⊢
  have hl : lv_has ls 3 [(0, .ref h0), (1, .int d)] := hl
  refine lv_aload_n hx hb dX11_take_0 rfl (lv_at hl 0 rfl) ?_
  refine lv_iload_n hx hb dX11_take_1 rfl (lv_at hl 1 rfl) ?_
  refine kGo_q (wr := []) (kRunV (As := [.int d]) (rest := []) ⟨hx, hb, hml, hown, hts⟩ (c_deviceAt_no l D ca _ h0 dv tp d hd) (cwV 1 hts g_c_take_no_c_deviceAt_no_22 rfl rfl rfl (by decide +kernel) ⟨Nat.le_of_ble_eq_true rfl, Nat.le_of_ble_eq_true rfl⟩) hK hN hP hD [0] rfl rfl rfl rfl rfl rfl hl.1 rfl (Nat.le_of_ble_eq_true rfl) dX11_take_2 ⟨Nat.le_of_ble_eq_true rfl, Nat.le_of_ble_eq_true rfl⟩) hP hD hS hA [0] [] rfl rfl rfl (by decide) (fun r_1 uu_ tt H locs hr_1 hB hj hS => ?_)
  have hWd := hB
  obtain ⟨hP, hD⟩ := hj _ hWd
  have hP : va_P D vwCl [(h0, .inr (11, [.ref dv, .ref tp, .int 0]))] H := hP
  have hD : va_D A [(h0, .inr (11, [.ref dv, .ref tp, .int 0]))] := hD
  subst hr_1
  refine W.eq (g2 := F0 m 5 ls [.null]) rfl ?_
  refine lv_astore_nN (lv' := [(2, .null), (0, .ref h0), (1, .int d)]) hx hb dX11_take_5 rfl hl (by decide) rfl (fun ls hl => ?_)
  refine lv_aload_nN hx hb dX11_take_6 rfl (lv_at hl 0 rfl) ?_
  refine lv_ifnonnullN hx hb dX11_take_7 ?_
  refine lv_iconst (v := (-1)) hx hb dX11_take_10 (by decide) ?_
  exact W.iret (v := (-1)) hx hb hr (fun tt ht hW => ⟨⟨(-1), (), rfl, rfl, ⟨by rw [ht]; exact hP.sub [] rfl, hD.sub [] rfl rfl⟩⟩, hS.F ht⟩) hS.2.2 dX11_take_11
def w_c_take_yes : List Cond := .code yX11_take cX11_take 3 (some .int) :: (([.code yX11_deviceAt cX11_deviceAt 2 (some (.object "BeamHouse$Device")), .fieldLink RX11 11 "BeamHouse" "devices" "[LBeamHouse$Device;", .methodLink RX11 22 yX11_deviceAt, .instanceMethod yX11_deviceAt, .selects RX11 yX11_deviceAt yX11_deviceAt, .initialized RX11, .fieldLink RX11 43 "BeamHouse$Device" "air" "LBeamHouse$Air;", .fieldLink RX11 15 "BeamHouse" "tape" "[I", .code yX0_movesTo cX0_movesTo 4 (some .int), .fieldLink RX0 30 "BeamHouse$Air" "length" "I", .methodLink RX0 44 Lib.Math.min.name, .static Lib.Math.min.name, .initialized "java/lang/Math", .code Lib.Math.min.name Lib.Math.min.code 2 (some .int), .methodLink RX11 47 yX0_movesTo, .instanceMethod yX0_movesTo, .selects RX0 yX0_movesTo yX0_movesTo, .initialized RX0, .fieldLink RX11 36 "BeamHouse" "taped" "I"] : List Cond) ++ wsX110 ++ wsX10 ++ wsX00)
theorem g_c_take_yes_c_deviceAt_yes_22 : GoodIn w_c_take_yes (wsV RX11 22 RX11 yX11_deviceAt w_c_deviceAt_yes) := (goodIn_app (goodIn_r _ [3, 4, 5, 6] rfl rfl) (goodIn_ca (goodIn_r _ [1, 2] rfl rfl) (goodIn_sub (fun _ h => List.mem_cons_of_mem _ (List.mem_append_left _ (List.mem_append_left _ (List.mem_append_right _ h)))) gw_X11)))
theorem g_c_take_yes_c_movesTo_47 : GoodIn w_c_take_yes (wsV RX11 47 RX0 yX0_movesTo w_c_movesTo) := (goodIn_app (goodIn_r _ [15, 16, 17, 18] rfl rfl) (goodIn_ca (goodIn_r _ [9, 10, 11, 12, 13, 14] rfl rfl) (goodIn_sub (fun _ h => List.mem_cons_of_mem _ (List.mem_append_right _ h)) gw_X0)))
set_option maxHeartbeats 4000000 in
set_option maxRecDepth 100000 in
theorem c_take_yes (l : Launch) (D : va_G) (ca : Nat → ClassId) (sz : Nat) (h0 : Nat) (dv : Nat) (tp : Nat) (fd : Nat → Option Nat) (a : Nat → Nat) (k : Nat) (hk : k < 4) (hfd : fd k = some (a 0)) : Met l yX11_take w_c_take_yes ({ frames := 2, cells := 0, slots := 0, locals := 37 }) (Pre D ca [.ref h0, .int (nI k)] [(h0, .inr (11, [.ref dv, .ref tp, .int 0])), (dv, .inl (ca 2, 4, .inr (.inr (.inr (.inr fd))))), (tp, .inl (ca 0, 1000, .inl (fun _ => 0))), ((a 0), .inr (1, [.ref (a 1), .ref (a 4), .ref (a 5), .ref (a 6), .ref (a 8), .ref (a 10), .int 0, .int (nI (k + 1)), .int (nI k)])), ((a 1), .inr (0, [.ref (a 2), .int 0, .ref (a 3), .int 0]))] sz) (va_Qi (fun (r : Int32) (_ : Unit) => r = 0) (fun (_ : Unit) (tt : State) => Wd D (va_A [(h0, .inr (11, [.ref dv, .ref tp, .int 0])), (dv, .inl (ca 2, 4, .inr (.inr (.inr (.inr fd))))), (tp, .inl (ca 0, 1000, .inl (fun _ => 0))), ((a 0), .inr (1, [.ref (a 1), .ref (a 4), .ref (a 5), .ref (a 6), .ref (a 8), .ref (a 10), .int 0, .int (nI (k + 1)), .int (nI k)])), ((a 1), .inr (0, [.ref (a 2), .int 0, .ref (a 3), .int 0]))] sz) [] tt) (va_A [(h0, .inr (11, [.ref dv, .ref tp, .int 0])), (dv, .inl (ca 2, 4, .inr (.inr (.inr (.inr fd))))), (tp, .inl (ca 0, 1000, .inl (fun _ => 0))), ((a 0), .inr (1, [.ref (a 1), .ref (a 4), .ref (a 5), .ref (a 6), .ref (a 8), .ref (a 10), .int 0, .int (nI (k + 1)), .int (nI k)])), ((a 1), .inr (0, [.ref (a 2), .int 0, .ref (a 3), .int 0]))] sz)) 0 0 (va_A [(h0, .inr (11, [.ref dv, .ref tp, .int 0])), (dv, .inl (ca 2, 4, .inr (.inr (.inr (.inr fd))))), (tp, .inl (ca 0, 1000, .inl (fun _ => 0))), ((a 0), .inr (1, [.ref (a 1), .ref (a 4), .ref (a 5), .ref (a 6), .ref (a 8), .ref (a 10), .int 0, .int (nI (k + 1)), .int (nI k)])), ((a 1), .inr (0, [.ref (a 2), .int 0, .ref (a 3), .int 0]))] sz) := by
  refine Met.ofW (cc := cX11_take) (maxL := 3) (ret := (some .int)) (by decide) rfl ?_
  intro p e s m args below meth c s₁ B hml hv
  obtain ⟨rfl, hsz, hP, hK, hD0, hN⟩ := hv
  have hx := B.exec
  have hb := B.bytes
  have hr := B.returns
  have hts := atoms_spec (ws := w_c_take_yes) B.pre
  have hown : s.vm.findClass RX11 = some m.cls := findClass_of_methodNamed B.named
  have hlocks := B.notSynchronized
  have hi_X11 : ∀ w ∈ wsX110, w ∈ w_c_take_yes := fun _ h => List.mem_cons_of_mem _ (List.mem_append_left _ (List.mem_append_left _ (List.mem_append_right _ h)))
  have hi_X1 : ∀ w ∈ wsX10, w ∈ w_c_take_yes := fun _ h => List.mem_cons_of_mem _ (List.mem_append_left _ (List.mem_append_right _ h))
  have hi_X0 : ∀ w ∈ wsX00, w ∈ w_c_take_yes := fun _ h => List.mem_cons_of_mem _ (List.mem_append_right _ h)
  subst hsz
  have hD := hD0.self (sz := s.heap.size)
  generalize hAe : va_A [(h0, .inr (11, [.ref dv, .ref tp, .int 0])), (dv, .inl (ca 2, 4, .inr (.inr (.inr (.inr fd))))), (tp, .inl (ca 0, 1000, .inl (fun _ => 0))), ((a 0), .inr (1, [.ref (a 1), .ref (a 4), .ref (a 5), .ref (a 6), .ref (a 8), .ref (a 10), .int 0, .int (nI (k + 1)), .int (nI k)])), ((a 1), .inr (0, [.ref (a 2), .int 0, .ref (a 3), .int 0]))] s.heap.size = A at hD ⊢
  have hA : ∀ q : Nat, s.heap.size ≤ q → A q := fun q h => by rw [← hAe]; exact Or.inr h
  have hS : va_S A s.heap s.heap [] := va_S.rf
  have hP : va_P D vwCl [(h0, .inr (11, [.ref dv, .ref tp, .int 0])), (dv, .inl (ca 2, 4, .inr (.inr (.inr (.inr fd))))), (tp, .inl (ca 0, 1000, .inl (fun _ => 0))), ((a 0), .inr (1, [.ref (a 1), .ref (a 4), .ref (a 5), .ref (a 6), .ref (a 8), .ref (a 10), .int 0, .int (nI (k + 1)), .int (nI k)])), ((a 1), .inr (0, [.ref (a 2), .int 0, .ref (a 3), .int 0]))] s.heap := hP
  have hl := lv_entry ([.ref h0, .int (nI k)]) (n := 3) (Nat.le_of_ble_eq_true rfl)
  rw [lg_entry_eq]
  generalize (lg_sl ([.ref h0, .int (nI k)]) ++ List.replicate (3 - (lg_sl ([.ref h0, .int (nI k)])).length) Slot.unset).toArray = ls at hl ⊢
  have hl : lv_has ls 3 [(0, .ref h0), (1, .int (nI k))] := hl
  refine lv_aload_n hx hb dX11_take_0 rfl (lv_at hl 0 rfl) ?_
  refine lv_iload_n hx hb dX11_take_1 rfl (lv_at hl 1 rfl) ?_
  refine kGo_q (wr := [(tp, .inl (ca 0, 1000, .inl (fun _ => 0))), ((a 0), .inr (1, [.ref (a 1), .ref (a 4), .ref (a 5), .ref (a 6), .ref (a 8), .ref (a 10), .int 0, .int (nI (k + 1)), .int (nI k)])), ((a 1), .inr (0, [.ref (a 2), .int 0, .ref (a 3), .int 0]))]) (kRunV (As := [.int (nI k)]) (rest := []) ⟨hx, hb, hml, hown, hts⟩ (c_deviceAt_yes l D ca _ h0 dv tp fd a k hk hfd) (cwV 1 hts g_c_take_yes_c_deviceAt_yes_22 rfl rfl rfl (by decide +kernel) ⟨Nat.le_of_ble_eq_true rfl, Nat.le_of_ble_eq_true rfl⟩) hK hN hP hD [0, 1] rfl rfl rfl rfl rfl rfl hl.1 rfl (Nat.le_of_ble_eq_true rfl) dX11_take_2 ⟨Nat.le_of_ble_eq_true rfl, Nat.le_of_ble_eq_true rfl⟩) hP hD hS hA [0, 1] [2, 3, 4] rfl rfl rfl (by decide) (fun r_1 uu_ tt H locs hr_1 hB hj hS => ?_)
  have hWd := hB
  obtain ⟨hP, hD⟩ := hj _ hWd
  have hP : va_P D vwCl [(tp, .inl (ca 0, 1000, .inl (fun _ => 0))), ((a 0), .inr (1, [.ref (a 1), .ref (a 4), .ref (a 5), .ref (a 6), .ref (a 8), .ref (a 10), .int 0, .int (nI (k + 1)), .int (nI k)])), ((a 1), .inr (0, [.ref (a 2), .int 0, .ref (a 3), .int 0])), (h0, .inr (11, [.ref dv, .ref tp, .int 0])), (dv, .inl (ca 2, 4, .inr (.inr (.inr (.inr fd)))))] H := hP
  have hD : va_D A [(tp, .inl (ca 0, 1000, .inl (fun _ => 0))), ((a 0), .inr (1, [.ref (a 1), .ref (a 4), .ref (a 5), .ref (a 6), .ref (a 8), .ref (a 10), .int 0, .int (nI (k + 1)), .int (nI k)])), ((a 1), .inr (0, [.ref (a 2), .int 0, .ref (a 3), .int 0])), (h0, .inr (11, [.ref dv, .ref tp, .int 0])), (dv, .inl (ca 2, 4, .inr (.inr (.inr (.inr fd)))))] := hD
  subst hr_1
  refine W.eq (g2 := F0 m 5 ls [.ref (a 0)]) rfl ?_
  refine lv_astore_n (lv' := [(2, .ref (a 0)), (0, .ref h0), (1, .int (nI k))]) hx hb dX11_take_5 rfl hl (by decide) rfl (fun ls hl => ?_)
  refine lv_aload_n hx hb dX11_take_6 rfl (lv_at hl 0 rfl) ?_
  refine lv_ifnonnull (tgt := 12) hx hb dX11_take_7 (by decide) ?_
  refine lv_aload_n hx hb dX11_take_12 rfl (lv_at hl 1 rfl) ?_
  refine lv_aload_n hx hb dX11_take_13 rfl (lv_at hl 0 rfl) ?_
  refine va_get (D := D) (ci := 1) (v := .ref (a 1)) (C := RX1) (T := TX1) (N := 9) hx hb hts hi_X1 hown hK hP 1 rfl rfl 0 (by decide) (hts (.fieldLink RX11 43 "BeamHouse$Device" "air" "LBeamHouse$Air;") (List.mem_of_getElem? (i := 7) rfl)) (fun _ h9 => h9) rfl dX11_take_14 ?_
  refine lv_aload_n hx hb dX11_take_17 rfl (lv_at hl 1 rfl) ?_
  refine va_get (D := D) (ci := 11) (v := .ref tp) (C := RX11) (T := TX11) (N := 3) hx hb hts hi_X11 hown hK hP 3 rfl rfl 1 (by decide) (hts (.fieldLink RX11 15 "BeamHouse" "tape" "[I") (List.mem_of_getElem? (i := 8) rfl)) (fun _ h9 => h9) rfl dX11_take_18 ?_
  refine kGo_i (wr := [((a 0), .inr (1, [.ref (a 1), .ref (a 4), .ref (a 5), .ref (a 6), .ref (a 8), .ref (a 10), .int 0, .int (nI (k + 1)), .int (nI k)])), (h0, .inr (11, [.ref dv, .ref tp, .int 0])), (dv, .inl (ca 2, 4, .inr (.inr (.inr (.inr fd)))))]) (kRunV (As := [.ref tp]) (rest := [.ref h0]) ⟨hx, hb, hml, hown, hts⟩ (c_movesTo l D ca _ (a 1) (a 2) (a 3) tp) (cwV 1 hts g_c_take_yes_c_movesTo_47 rfl rfl rfl (by decide +kernel) ⟨Nat.le_of_ble_eq_true rfl, Nat.le_of_ble_eq_true rfl⟩) hK hN hP hD [2, 0] rfl rfl rfl rfl rfl rfl hl.1 rfl (Nat.le_of_ble_eq_true rfl) dX11_take_21 ⟨Nat.le_of_ble_eq_true rfl, Nat.le_of_ble_eq_true rfl⟩) hP hD hS hA [2, 0] [1, 3, 4] rfl rfl rfl (by decide) (fun r_2 uu_ tt H locs hr_2 hB hj hS => ?_)
  have hWd := hB
  obtain ⟨hP, hD⟩ := hj _ hWd
  have hP : va_P D vwCl [((a 0), .inr (1, [.ref (a 1), .ref (a 4), .ref (a 5), .ref (a 6), .ref (a 8), .ref (a 10), .int 0, .int (nI (k + 1)), .int (nI k)])), (h0, .inr (11, [.ref dv, .ref tp, .int 0])), (dv, .inl (ca 2, 4, .inr (.inr (.inr (.inr fd)))))] H := hP
  have hD : va_D A [((a 0), .inr (1, [.ref (a 1), .ref (a 4), .ref (a 5), .ref (a 6), .ref (a 8), .ref (a 10), .int 0, .int (nI (k + 1)), .int (nI k)])), (h0, .inr (11, [.ref dv, .ref tp, .int 0])), (dv, .inl (ca 2, 4, .inr (.inr (.inr (.inr fd)))))] := hD
  subst hr_2
  refine va_put (D := D) (ci := 11) (v := .int 0) (ty := .int) (C := RX11) (T := TX11) (N := 3) hx hb hts hi_X11 tyX11 tyX11_ok nmX11 hown hK hP hD hS 1 rfl rfl 2 (by decide) (hts (.fieldLink RX11 36 "BeamHouse" "taped" "I") (List.mem_of_getElem? (i := 19) rfl)) (fun _ h9 => h9) rfl (by decide +kernel) rfl rfl (Nat.le_of_ble_eq_true rfl) dX11_take_24 (fun H locs hP hD hS => ?_)
  have hP : va_P D vwCl [((a 0), .inr (1, [.ref (a 1), .ref (a 4), .ref (a 5), .ref (a 6), .ref (a 8), .ref (a 10), .int 0, .int (nI (k + 1)), .int (nI k)])), (h0, .inr (11, [.ref dv, .ref tp, .int 0])), (dv, .inl (ca 2, 4, .inr (.inr (.inr (.inr fd)))))] H := hP
  have hD : va_D A [((a 0), .inr (1, [.ref (a 1), .ref (a 4), .ref (a 5), .ref (a 6), .ref (a 8), .ref (a 10), .int 0, .int (nI (k + 1)), .int (nI k)])), (h0, .inr (11, [.ref dv, .ref tp, .int 0])), (dv, .inl (ca 2, 4, .inr (.inr (.inr (.inr fd)))))] := hD
  refine lv_aload_n hx hb dX11_take_27 rfl (lv_at hl 1 rfl) ?_
  refine va_get (D := D) (ci := 11) (v := .int 0) (C := RX11) (T := TX11) (N := 3) hx hb hts hi_X11 hown hK hP 1 rfl rfl 2 (by decide) (hts (.fieldLink RX11 36 "BeamHouse" "taped" "I") (List.mem_of_getElem? (i := 19) rfl)) (fun _ h9 => h9) rfl dX11_take_28 ?_
  exact W.iret (v := 0) hx hb hr (fun tt ht hW => ⟨⟨0, (), rfl, rfl, ⟨by rw [ht]; exact hP.sub [] rfl, hD.sub [] rfl rfl⟩⟩, hS.F ht⟩) hS.2.2 dX11_take_31
def w_c_hears : List Cond := .code yX1_hears cX1_hears 6 (some .int) :: (([.fieldLink RX1 21 "BeamHouse$Device" "ear" "LBeamHouse$Ear;", .fieldLink RX1 71 "BeamHouse$Ear" "frames" "I", .methodLink RX1 74 Lib.Math.max.name, .static Lib.Math.max.name, .initialized "java/lang/Math", .code Lib.Math.max.name Lib.Math.max.code 2 (some .int)] : List Cond) ++ wsX10 ++ wsX20)
set_option maxHeartbeats 4000000 in
set_option maxRecDepth 100000 in
theorem c_hears (l : Launch) (D : va_G) (ca : Nat → ClassId) (sz : Nat) (tp : Nat) (a : Nat → Nat) (k : Nat)  : Met l yX1_hears w_c_hears ({ frames := 1, cells := 0, slots := 0, locals := 14 }) (Pre D ca [.ref (a 0), .ref tp, .int 0, .int 0] [((a 0), .inr (1, [.ref (a 1), .ref (a 4), .ref (a 5), .ref (a 6), .ref (a 8), .ref (a 10), .int 0, .int (nI (k + 1)), .int (nI k)])), ((a 4), .inr (2, [.ref (a 15), .int 0, .int 0, .int 0, .int 0, .int 0]))] sz) (va_Qi (fun (r : Int32) (_ : Unit) => r = 0) (fun (_ : Unit) (tt : State) => Wd D (va_A [((a 0), .inr (1, [.ref (a 1), .ref (a 4), .ref (a 5), .ref (a 6), .ref (a 8), .ref (a 10), .int 0, .int (nI (k + 1)), .int (nI k)])), ((a 4), .inr (2, [.ref (a 15), .int 0, .int 0, .int 0, .int 0, .int 0]))] sz) [] tt) (va_A [((a 0), .inr (1, [.ref (a 1), .ref (a 4), .ref (a 5), .ref (a 6), .ref (a 8), .ref (a 10), .int 0, .int (nI (k + 1)), .int (nI k)])), ((a 4), .inr (2, [.ref (a 15), .int 0, .int 0, .int 0, .int 0, .int 0]))] sz)) 0 0 (va_A [((a 0), .inr (1, [.ref (a 1), .ref (a 4), .ref (a 5), .ref (a 6), .ref (a 8), .ref (a 10), .int 0, .int (nI (k + 1)), .int (nI k)])), ((a 4), .inr (2, [.ref (a 15), .int 0, .int 0, .int 0, .int 0, .int 0]))] sz) := by
  refine Met.ofW (cc := cX1_hears) (maxL := 6) (ret := (some .int)) (by decide) rfl ?_
  intro p e s m args below meth c s₁ B hml hv
  obtain ⟨rfl, hsz, hP, hK, hD0, hN⟩ := hv
  have hx := B.exec
  have hb := B.bytes
  have hr := B.returns
  have hts := atoms_spec (ws := w_c_hears) B.pre
  have hown : s.vm.findClass RX1 = some m.cls := findClass_of_methodNamed B.named
  have hlocks := B.notSynchronized
  have hi_X1 : ∀ w ∈ wsX10, w ∈ w_c_hears := fun _ h => List.mem_cons_of_mem _ (List.mem_append_left _ (List.mem_append_right _ h))
  have hi_X2 : ∀ w ∈ wsX20, w ∈ w_c_hears := fun _ h => List.mem_cons_of_mem _ (List.mem_append_right _ h)
  subst hsz
  have hD := hD0.self (sz := s.heap.size)
  generalize hAe : va_A [((a 0), .inr (1, [.ref (a 1), .ref (a 4), .ref (a 5), .ref (a 6), .ref (a 8), .ref (a 10), .int 0, .int (nI (k + 1)), .int (nI k)])), ((a 4), .inr (2, [.ref (a 15), .int 0, .int 0, .int 0, .int 0, .int 0]))] s.heap.size = A at hD ⊢
  have hA : ∀ q : Nat, s.heap.size ≤ q → A q := fun q h => by rw [← hAe]; exact Or.inr h
  have hS : va_S A s.heap s.heap [] := va_S.rf
  have hP : va_P D vwCl [((a 0), .inr (1, [.ref (a 1), .ref (a 4), .ref (a 5), .ref (a 6), .ref (a 8), .ref (a 10), .int 0, .int (nI (k + 1)), .int (nI k)])), ((a 4), .inr (2, [.ref (a 15), .int 0, .int 0, .int 0, .int 0, .int 0]))] s.heap := hP
  have hl := lv_entry ([.ref (a 0), .ref tp, .int 0, .int 0]) (n := 6) (Nat.le_of_ble_eq_true rfl)
  rw [lg_entry_eq]
  generalize (lg_sl ([.ref (a 0), .ref tp, .int 0, .int 0]) ++ List.replicate (6 - (lg_sl ([.ref (a 0), .ref tp, .int 0, .int 0])).length) Slot.unset).toArray = ls at hl ⊢
  have hl : lv_has ls 6 [(0, .ref (a 0)), (1, .ref tp), (2, .int 0), (3, .int 0)] := hl
  refine lv_aload_n hx hb dX1_hears_0 rfl (lv_at hl 0 rfl) ?_
  refine va_get (D := D) (ci := 1) (v := .ref (a 4)) (C := RX1) (T := TX1) (N := 9) hx hb hts hi_X1 hown hK hP 0 rfl rfl 1 (by decide) (hts (.fieldLink RX1 21 "BeamHouse$Device" "ear" "LBeamHouse$Ear;") (List.mem_of_getElem? (i := 1) rfl)) (fun _ h9 => h9) rfl dX1_hears_1 ?_
  refine va_get (D := D) (ci := 2) (v := .int 0) (C := RX2) (T := TX2) (N := 6) hx hb hts hi_X2 hown hK hP 1 rfl rfl 1 (by decide) (hts (.fieldLink RX1 71 "BeamHouse$Ear" "frames" "I") (List.mem_of_getElem? (i := 2) rfl)) (fun _ h9 => h9) rfl dX1_hears_4 ?_
  refine lv_istore (lv' := [(4, .int 0), (0, .ref (a 0)), (1, .ref tp), (2, .int 0), (3, .int 0)]) hx hb dX1_hears_7 hl (by decide) rfl (fun ls hl => ?_)
  refine lv_iconst (v := 0) hx hb dX1_hears_9 (by decide) ?_
  refine lv_iload_n hx hb dX1_hears_10 rfl (lv_at hl 3 rfl) ?_
  refine va_mmax hx hb (by rw [hml]; exact hl.1.symm) hown (hts (.methodLink RX1 74 Lib.Math.max.name) (List.mem_of_getElem? (i := 3) rfl)) (hts (.static Lib.Math.max.name) (List.mem_of_getElem? (i := 4) rfl)) (hts (.initialized "java/lang/Math") (List.mem_of_getElem? (i := 5) rfl)) (hts (.code Lib.Math.max.name Lib.Math.max.code 2 (some .int)) (List.mem_of_getElem? (i := 6) rfl)) (Nat.le_of_ble_eq_true rfl) (Nat.le_of_ble_eq_true rfl) (Nat.le_of_ble_eq_true rfl) (Nat.le_of_ble_eq_true rfl) dX1_hears_11 ?_
  refine lv_topn 0 (by decide) ?_
  refine lv_istore (lv' := [(5, .int 0), (4, .int 0), (0, .ref (a 0)), (1, .ref tp), (2, .int 0), (3, .int 0)]) hx hb dX1_hears_14 hl (by decide) rfl (fun ls hl => ?_)
  refine lv_iload hx hb dX1_hears_16 (lv_at hl 0 rfl) ?_
  refine lv_iload_n hx hb dX1_hears_18 rfl (lv_at hl 4 rfl) ?_
  refine lv_iload_n hx hb dX1_hears_19 rfl (lv_at hl 5 rfl) ?_
  refine lv_iadd hx hb dX1_hears_20 ?_
  refine lv_topn 0 (by decide) ?_
  refine lv_icmp_ge (tgt := 104) hx hb dX1_hears_21 (by decide) (fun _ => ?_) (fun h => absurd (by decide) h)
  refine lv_aload_n hx hb dX1_hears_104 rfl (lv_at hl 2 rfl) ?_
  refine va_get (D := D) (ci := 1) (v := .ref (a 4)) (C := RX1) (T := TX1) (N := 9) hx hb hts hi_X1 hown hK hP 0 rfl rfl 1 (by decide) (hts (.fieldLink RX1 21 "BeamHouse$Device" "ear" "LBeamHouse$Ear;") (List.mem_of_getElem? (i := 1) rfl)) (fun _ h9 => h9) rfl dX1_hears_105 ?_
  refine va_get (D := D) (ci := 2) (v := .int 0) (C := RX2) (T := TX2) (N := 6) hx hb hts hi_X2 hown hK hP 1 rfl rfl 1 (by decide) (hts (.fieldLink RX1 71 "BeamHouse$Ear" "frames" "I") (List.mem_of_getElem? (i := 2) rfl)) (fun _ h9 => h9) rfl dX1_hears_108 ?_
  refine lv_iload hx hb dX1_hears_111 (lv_at hl 1 rfl) ?_
  refine lv_isub hx hb dX1_hears_113 ?_
  refine lv_topn 0 (by decide) ?_
  exact W.iret (v := 0) hx hb hr (fun tt ht hW => ⟨⟨0, (), rfl, rfl, ⟨by rw [ht]; exact hP.sub [] rfl, hD.sub [] rfl rfl⟩⟩, hS.F ht⟩) hS.2.2 dX1_hears_114
def w_c_hear_no : List Cond := .code yX11_hear cX11_hear 5 (some .int) :: (([.code yX11_deviceAt cX11_deviceAt 2 (some (.object "BeamHouse$Device")), .methodLink RX11 22 yX11_deviceAt, .instanceMethod yX11_deviceAt, .selects RX11 yX11_deviceAt yX11_deviceAt, .initialized RX11] : List Cond))
theorem g_c_hear_no_c_deviceAt_no_22 : GoodIn w_c_hear_no (wsV RX11 22 RX11 yX11_deviceAt w_c_deviceAt_no) := (goodIn_app (goodIn_r _ [2, 3, 4, 5] rfl rfl) (goodIn_r _ [1] rfl rfl))
set_option maxHeartbeats 4000000 in
set_option maxRecDepth 100000 in
theorem c_hear_no (l : Launch) (D : va_G) (ca : Nat → ClassId) (sz : Nat) (h0 : Nat) (dv : Nat) (tp : Nat) (d : Int32) (i : Int32) (n : Int32) (hd : d < 0 ∨ 4 ≤ d) : Met l yX11_hear w_c_hear_no ({ frames := 1, cells := 0, slots := 0, locals := 21 }) (Pre D ca [.ref h0, .int d, .int i, .int n] [(h0, .inr (11, [.ref dv, .ref tp, .int 0]))] sz) (va_Qi (fun (r : Int32) (_ : Unit) => r = -1) (fun (_ : Unit) (tt : State) => Wd D (va_A [(h0, .inr (11, [.ref dv, .ref tp, .int 0]))] sz) [] tt) (va_A [(h0, .inr (11, [.ref dv, .ref tp, .int 0]))] sz)) 0 0 (va_A [(h0, .inr (11, [.ref dv, .ref tp, .int 0]))] sz) := by
  refine Met.ofW (cc := cX11_hear) (maxL := 5) (ret := (some .int)) (by decide) rfl ?_
  intro p e s m args below meth c s₁ B hml hv
  obtain ⟨rfl, hsz, hP, hK, hD0, hN⟩ := hv
  have hx := B.exec
  have hb := B.bytes
  have hr := B.returns
  have hts := atoms_spec (ws := w_c_hear_no) B.pre
  have hown : s.vm.findClass RX11 = some m.cls := findClass_of_methodNamed B.named
  have hlocks := B.notSynchronized
  subst hsz
  have hD := hD0.self (sz := s.heap.size)
  generalize hAe : va_A [(h0, .inr (11, [.ref dv, .ref tp, .int 0]))] s.heap.size = A at hD ⊢
  have hA : ∀ q : Nat, s.heap.size ≤ q → A q := fun q h => by rw [← hAe]; exact Or.inr h
  have hS : va_S A s.heap s.heap [] := va_S.rf
  have hP : va_P D vwCl [(h0, .inr (11, [.ref dv, .ref tp, .int 0]))] s.heap := hP
  have hl := lv_entry ([.ref h0, .int d, .int i, .int n]) (n := 5) (Nat.le_of_ble_eq_true rfl)
  rw [lg_entry_eq]
  generalize (lg_sl ([.ref h0, .int d, .int i, .int n]) ++ List.replicate (5 - (lg_sl ([.ref h0, .int d, .int i, .int n])).length) Slot.unset).toArray = ls at hl ⊢
  have hl : lv_has ls 5 [(0, .ref h0), (1, .int d), (2, .int i), (3, .int n)] := hl
  refine lv_aload_n hx hb dX11_hear_0 rfl (lv_at hl 0 rfl) ?_
  refine lv_iload_n hx hb dX11_hear_1 rfl (lv_at hl 1 rfl) ?_
  refine kGo_q (wr := []) (kRunV (As := [.int d]) (rest := []) ⟨hx, hb, hml, hown, hts⟩ (c_deviceAt_no l D ca _ h0 dv tp d hd) (cwV 1 hts g_c_hear_no_c_deviceAt_no_22 rfl rfl rfl (by decide +kernel) ⟨Nat.le_of_ble_eq_true rfl, Nat.le_of_ble_eq_true rfl⟩) hK hN hP hD [0] rfl rfl rfl rfl rfl rfl hl.1 rfl (Nat.le_of_ble_eq_true rfl) dX11_hear_2 ⟨Nat.le_of_ble_eq_true rfl, Nat.le_of_ble_eq_true rfl⟩) hP hD hS hA [0] [] rfl rfl rfl (by decide) (fun r_1 uu_ tt H locs hr_1 hB hj hS => ?_)
  have hWd := hB
  obtain ⟨hP, hD⟩ := hj _ hWd
  have hP : va_P D vwCl [(h0, .inr (11, [.ref dv, .ref tp, .int 0]))] H := hP
  have hD : va_D A [(h0, .inr (11, [.ref dv, .ref tp, .int 0]))] := hD
  subst hr_1
  refine W.eq (g2 := F0 m 5 ls [.null]) rfl ?_
  refine lv_astoreN (lv' := [(4, .null), (0, .ref h0), (1, .int d), (2, .int i), (3, .int n)]) hx hb dX11_hear_5 hl (by decide) rfl (fun ls hl => ?_)
  refine lv_aloadN hx hb dX11_hear_7 (lv_at hl 0 rfl) ?_
  refine lv_ifnonnullN hx hb dX11_hear_9 ?_
  refine lv_iconst (v := (-1)) hx hb dX11_hear_12 (by decide) ?_
  exact W.iret (v := (-1)) hx hb hr (fun tt ht hW => ⟨⟨(-1), (), rfl, rfl, ⟨by rw [ht]; exact hP.sub [] rfl, hD.sub [] rfl rfl⟩⟩, hS.F ht⟩) hS.2.2 dX11_hear_13
def w_c_hear_yes : List Cond := .code yX11_hear cX11_hear 5 (some .int) :: (([.code yX11_deviceAt cX11_deviceAt 2 (some (.object "BeamHouse$Device")), .fieldLink RX11 11 "BeamHouse" "devices" "[LBeamHouse$Device;", .methodLink RX11 22 yX11_deviceAt, .instanceMethod yX11_deviceAt, .selects RX11 yX11_deviceAt yX11_deviceAt, .initialized RX11, .fieldLink RX11 36 "BeamHouse" "taped" "I", .fieldLink RX11 15 "BeamHouse" "tape" "[I", .code yX1_hears cX1_hears 6 (some .int), .fieldLink RX1 21 "BeamHouse$Device" "ear" "LBeamHouse$Ear;", .fieldLink RX1 71 "BeamHouse$Ear" "frames" "I", .methodLink RX1 74 Lib.Math.max.name, .static Lib.Math.max.name, .initialized "java/lang/Math", .code Lib.Math.max.name Lib.Math.max.code 2 (some .int), .methodLink RX11 53 yX1_hears, .instanceMethod yX1_hears, .selects RX1 yX1_hears yX1_hears, .initialized RX1] : List Cond) ++ wsX110 ++ wsX10 ++ wsX20)
theorem g_c_hear_yes_c_deviceAt_yes_22 : GoodIn w_c_hear_yes (wsV RX11 22 RX11 yX11_deviceAt w_c_deviceAt_yes) := (goodIn_app (goodIn_r _ [3, 4, 5, 6] rfl rfl) (goodIn_ca (goodIn_r _ [1, 2] rfl rfl) (goodIn_sub (fun _ h => List.mem_cons_of_mem _ (List.mem_append_left _ (List.mem_append_left _ (List.mem_append_right _ h)))) gw_X11)))
theorem g_c_hear_yes_c_hears_53 : GoodIn w_c_hear_yes (wsV RX11 53 RX1 yX1_hears w_c_hears) := (goodIn_app (goodIn_r _ [16, 17, 18, 19] rfl rfl) (goodIn_ca (goodIn_ca (goodIn_r _ [9, 10, 11, 12, 13, 14, 15] rfl rfl) (goodIn_sub (fun _ h => List.mem_cons_of_mem _ (List.mem_append_left _ (List.mem_append_right _ h))) gw_X1)) (goodIn_sub (fun _ h => List.mem_cons_of_mem _ (List.mem_append_right _ h)) gw_X2)))
set_option maxHeartbeats 4000000 in
set_option maxRecDepth 100000 in
theorem c_hear_yes (l : Launch) (D : va_G) (ca : Nat → ClassId) (sz : Nat) (h0 : Nat) (dv : Nat) (tp : Nat) (fd : Nat → Option Nat) (a : Nat → Nat) (k : Nat) (i : Int32) (n : Int32) (hk : k < 4) (hfd : fd k = some (a 0)) : Met l yX11_hear w_c_hear_yes ({ frames := 2, cells := 0, slots := 0, locals := 39 }) (Pre D ca [.ref h0, .int (nI k), .int i, .int n] [(h0, .inr (11, [.ref dv, .ref tp, .int 0])), (dv, .inl (ca 2, 4, .inr (.inr (.inr (.inr fd))))), (tp, .inl (ca 0, 1000, .inl (fun _ => 0))), ((a 0), .inr (1, [.ref (a 1), .ref (a 4), .ref (a 5), .ref (a 6), .ref (a 8), .ref (a 10), .int 0, .int (nI (k + 1)), .int (nI k)])), ((a 4), .inr (2, [.ref (a 15), .int 0, .int 0, .int 0, .int 0, .int 0]))] sz) (va_Qi (fun (r : Int32) (_ : Unit) => r = if i = 0 ∧ n = 0 then 0 else -2) (fun (_ : Unit) (tt : State) => Wd D (va_A [(h0, .inr (11, [.ref dv, .ref tp, .int 0])), (dv, .inl (ca 2, 4, .inr (.inr (.inr (.inr fd))))), (tp, .inl (ca 0, 1000, .inl (fun _ => 0))), ((a 0), .inr (1, [.ref (a 1), .ref (a 4), .ref (a 5), .ref (a 6), .ref (a 8), .ref (a 10), .int 0, .int (nI (k + 1)), .int (nI k)])), ((a 4), .inr (2, [.ref (a 15), .int 0, .int 0, .int 0, .int 0, .int 0]))] sz) [] tt) (va_A [(h0, .inr (11, [.ref dv, .ref tp, .int 0])), (dv, .inl (ca 2, 4, .inr (.inr (.inr (.inr fd))))), (tp, .inl (ca 0, 1000, .inl (fun _ => 0))), ((a 0), .inr (1, [.ref (a 1), .ref (a 4), .ref (a 5), .ref (a 6), .ref (a 8), .ref (a 10), .int 0, .int (nI (k + 1)), .int (nI k)])), ((a 4), .inr (2, [.ref (a 15), .int 0, .int 0, .int 0, .int 0, .int 0]))] sz)) 0 0 (va_A [(h0, .inr (11, [.ref dv, .ref tp, .int 0])), (dv, .inl (ca 2, 4, .inr (.inr (.inr (.inr fd))))), (tp, .inl (ca 0, 1000, .inl (fun _ => 0))), ((a 0), .inr (1, [.ref (a 1), .ref (a 4), .ref (a 5), .ref (a 6), .ref (a 8), .ref (a 10), .int 0, .int (nI (k + 1)), .int (nI k)])), ((a 4), .inr (2, [.ref (a 15), .int 0, .int 0, .int 0, .int 0, .int 0]))] sz) := by
  refine Met.ofW (cc := cX11_hear) (maxL := 5) (ret := (some .int)) (by decide) rfl ?_
  intro p e s m args below meth c s₁ B hml hv
  obtain ⟨rfl, hsz, hP, hK, hD0, hN⟩ := hv
  have hx := B.exec
  have hb := B.bytes
  have hr := B.returns
  have hts := atoms_spec (ws := w_c_hear_yes) B.pre
  have hown : s.vm.findClass RX11 = some m.cls := findClass_of_methodNamed B.named
  have hlocks := B.notSynchronized
  have hi_X11 : ∀ w ∈ wsX110, w ∈ w_c_hear_yes := fun _ h => List.mem_cons_of_mem _ (List.mem_append_left _ (List.mem_append_left _ (List.mem_append_right _ h)))
  have hi_X1 : ∀ w ∈ wsX10, w ∈ w_c_hear_yes := fun _ h => List.mem_cons_of_mem _ (List.mem_append_left _ (List.mem_append_right _ h))
  have hi_X2 : ∀ w ∈ wsX20, w ∈ w_c_hear_yes := fun _ h => List.mem_cons_of_mem _ (List.mem_append_right _ h)
  subst hsz
  have hD := hD0.self (sz := s.heap.size)
  generalize hAe : va_A [(h0, .inr (11, [.ref dv, .ref tp, .int 0])), (dv, .inl (ca 2, 4, .inr (.inr (.inr (.inr fd))))), (tp, .inl (ca 0, 1000, .inl (fun _ => 0))), ((a 0), .inr (1, [.ref (a 1), .ref (a 4), .ref (a 5), .ref (a 6), .ref (a 8), .ref (a 10), .int 0, .int (nI (k + 1)), .int (nI k)])), ((a 4), .inr (2, [.ref (a 15), .int 0, .int 0, .int 0, .int 0, .int 0]))] s.heap.size = A at hD ⊢
  have hA : ∀ q : Nat, s.heap.size ≤ q → A q := fun q h => by rw [← hAe]; exact Or.inr h
  have hS : va_S A s.heap s.heap [] := va_S.rf
  have hP : va_P D vwCl [(h0, .inr (11, [.ref dv, .ref tp, .int 0])), (dv, .inl (ca 2, 4, .inr (.inr (.inr (.inr fd))))), (tp, .inl (ca 0, 1000, .inl (fun _ => 0))), ((a 0), .inr (1, [.ref (a 1), .ref (a 4), .ref (a 5), .ref (a 6), .ref (a 8), .ref (a 10), .int 0, .int (nI (k + 1)), .int (nI k)])), ((a 4), .inr (2, [.ref (a 15), .int 0, .int 0, .int 0, .int 0, .int 0]))] s.heap := hP
  have hl := lv_entry ([.ref h0, .int (nI k), .int i, .int n]) (n := 5) (Nat.le_of_ble_eq_true rfl)
  rw [lg_entry_eq]
  generalize (lg_sl ([.ref h0, .int (nI k), .int i, .int n]) ++ List.replicate (5 - (lg_sl ([.ref h0, .int (nI k), .int i, .int n])).length) Slot.unset).toArray = ls at hl ⊢
  have hl : lv_has ls 5 [(0, .ref h0), (1, .int (nI k)), (2, .int i), (3, .int n)] := hl
  refine lv_aload_n hx hb dX11_hear_0 rfl (lv_at hl 0 rfl) ?_
  refine lv_iload_n hx hb dX11_hear_1 rfl (lv_at hl 1 rfl) ?_
  refine kGo_q (wr := [(tp, .inl (ca 0, 1000, .inl (fun _ => 0))), ((a 0), .inr (1, [.ref (a 1), .ref (a 4), .ref (a 5), .ref (a 6), .ref (a 8), .ref (a 10), .int 0, .int (nI (k + 1)), .int (nI k)])), ((a 4), .inr (2, [.ref (a 15), .int 0, .int 0, .int 0, .int 0, .int 0]))]) (kRunV (As := [.int (nI k)]) (rest := []) ⟨hx, hb, hml, hown, hts⟩ (c_deviceAt_yes l D ca _ h0 dv tp fd a k hk hfd) (cwV 1 hts g_c_hear_yes_c_deviceAt_yes_22 rfl rfl rfl (by decide +kernel) ⟨Nat.le_of_ble_eq_true rfl, Nat.le_of_ble_eq_true rfl⟩) hK hN hP hD [0, 1] rfl rfl rfl rfl rfl rfl hl.1 rfl (Nat.le_of_ble_eq_true rfl) dX11_hear_2 ⟨Nat.le_of_ble_eq_true rfl, Nat.le_of_ble_eq_true rfl⟩) hP hD hS hA [0, 1] [2, 3, 4] rfl rfl rfl (by decide) (fun r_1 uu_ tt H locs hr_1 hB hj hS => ?_)
  have hWd := hB
  obtain ⟨hP, hD⟩ := hj _ hWd
  have hP : va_P D vwCl [(tp, .inl (ca 0, 1000, .inl (fun _ => 0))), ((a 0), .inr (1, [.ref (a 1), .ref (a 4), .ref (a 5), .ref (a 6), .ref (a 8), .ref (a 10), .int 0, .int (nI (k + 1)), .int (nI k)])), ((a 4), .inr (2, [.ref (a 15), .int 0, .int 0, .int 0, .int 0, .int 0])), (h0, .inr (11, [.ref dv, .ref tp, .int 0])), (dv, .inl (ca 2, 4, .inr (.inr (.inr (.inr fd)))))] H := hP
  have hD : va_D A [(tp, .inl (ca 0, 1000, .inl (fun _ => 0))), ((a 0), .inr (1, [.ref (a 1), .ref (a 4), .ref (a 5), .ref (a 6), .ref (a 8), .ref (a 10), .int 0, .int (nI (k + 1)), .int (nI k)])), ((a 4), .inr (2, [.ref (a 15), .int 0, .int 0, .int 0, .int 0, .int 0])), (h0, .inr (11, [.ref dv, .ref tp, .int 0])), (dv, .inl (ca 2, 4, .inr (.inr (.inr (.inr fd)))))] := hD
  subst hr_1
  refine W.eq (g2 := F0 m 5 ls [.ref (a 0)]) rfl ?_
  refine lv_astore (lv' := [(4, .ref (a 0)), (0, .ref h0), (1, .int (nI k)), (2, .int i), (3, .int n)]) hx hb dX11_hear_5 hl (by decide) rfl (fun ls hl => ?_)
  refine lv_aload hx hb dX11_hear_7 (lv_at hl 0 rfl) ?_
  refine lv_ifnonnull (tgt := 14) hx hb dX11_hear_9 (by decide) ?_
  refine lv_iload_n hx hb dX11_hear_14 rfl (lv_at hl 3 rfl) ?_
  refine lv_if_lt (tgt := 40) hx hb dX11_hear_15 (by decide) (fun c_15 => ?_) (fun c_15 => ?_)
  · refine lv_bipush (v := (-2)) hx hb dX11_hear_40 (by decide) ?_
    exact W.iret (v := (-2)) hx hb hr (fun tt ht hW => ⟨⟨(-2), (), rfl, (if_neg (fun h => absurd c_15 (by rw [h.1]; decide))).symm, ⟨by rw [ht]; exact hP.sub [] rfl, hD.sub [] rfl rfl⟩⟩, hS.F ht⟩) hS.2.2 dX11_hear_42
  · refine lv_iload_n hx hb dX11_hear_18 rfl (lv_at hl 4 rfl) ?_
    refine lv_if_lt (tgt := 40) hx hb dX11_hear_19 (by decide) (fun c_19 => ?_) (fun c_19 => ?_)
    · refine lv_bipush (v := (-2)) hx hb dX11_hear_40 (by decide) ?_
      exact W.iret (v := (-2)) hx hb hr (fun tt ht hW => ⟨⟨(-2), (), rfl, (if_neg (fun h => absurd c_19 (by rw [h.2]; decide))).symm, ⟨by rw [ht]; exact hP.sub [] rfl, hD.sub [] rfl rfl⟩⟩, hS.F ht⟩) hS.2.2 dX11_hear_42
    · refine lv_iload_n hx hb dX11_hear_22 rfl (lv_at hl 4 rfl) ?_
      refine lv_aload_n hx hb dX11_hear_23 rfl (lv_at hl 1 rfl) ?_
      refine va_get (D := D) (ci := 11) (v := .int 0) (C := RX11) (T := TX11) (N := 3) hx hb hts hi_X11 hown hK hP 3 rfl rfl 2 (by decide) (hts (.fieldLink RX11 36 "BeamHouse" "taped" "I") (List.mem_of_getElem? (i := 7) rfl)) (fun _ h9 => h9) rfl dX11_hear_24 ?_
      refine lv_icmp_gt (tgt := 40) hx hb dX11_hear_27 (by decide) (fun c_27 => ?_) (fun c_27 => ?_)
      · refine lv_bipush (v := (-2)) hx hb dX11_hear_40 (by decide) ?_
        exact W.iret (v := (-2)) hx hb hr (fun tt ht hW => ⟨⟨(-2), (), rfl, (if_neg (fun h => absurd c_27 (by rw [h.2]; decide))).symm, ⟨by rw [ht]; exact hP.sub [] rfl, hD.sub [] rfl rfl⟩⟩, hS.F ht⟩) hS.2.2 dX11_hear_42
      · obtain rfl : n = 0 := Int32.le_antisymm (Int32.not_lt.mp c_27) (Int32.not_lt.mp c_19)
        refine lv_iload_n hx hb dX11_hear_30 rfl (lv_at hl 3 rfl) ?_
        refine lv_aload_n hx hb dX11_hear_31 rfl (lv_at hl 1 rfl) ?_
        refine va_get (D := D) (ci := 11) (v := .int 0) (C := RX11) (T := TX11) (N := 3) hx hb hts hi_X11 hown hK hP 3 rfl rfl 2 (by decide) (hts (.fieldLink RX11 36 "BeamHouse" "taped" "I") (List.mem_of_getElem? (i := 7) rfl)) (fun _ h9 => h9) rfl dX11_hear_32 ?_
        refine lv_iload_n hx hb dX11_hear_35 rfl (lv_at hl 4 rfl) ?_
        refine lv_isub hx hb dX11_hear_36 ?_
        refine lv_topn 0 (by decide) ?_
        refine lv_icmp_le (tgt := 43) hx hb dX11_hear_37 (by decide) (fun c_37 => ?_) (fun c_37 => ?_)
        · obtain rfl : i = 0 := Int32.le_antisymm c_37 (Int32.not_lt.mp c_15)
          refine lv_aload hx hb dX11_hear_43 (lv_at hl 0 rfl) ?_
          refine lv_aload_n hx hb dX11_hear_45 rfl (lv_at hl 1 rfl) ?_
          refine va_get (D := D) (ci := 11) (v := .ref tp) (C := RX11) (T := TX11) (N := 3) hx hb hts hi_X11 hown hK hP 3 rfl rfl 1 (by decide) (hts (.fieldLink RX11 15 "BeamHouse" "tape" "[I") (List.mem_of_getElem? (i := 8) rfl)) (fun _ h9 => h9) rfl dX11_hear_46 ?_
          refine lv_iload_n hx hb dX11_hear_49 rfl (lv_at hl 3 rfl) ?_
          refine lv_iload_n hx hb dX11_hear_50 rfl (lv_at hl 4 rfl) ?_
          refine kGo_i (wr := [(tp, .inl (ca 0, 1000, .inl (fun _ => 0))), (h0, .inr (11, [.ref dv, .ref tp, .int 0])), (dv, .inl (ca 2, 4, .inr (.inr (.inr (.inr fd)))))]) (kRunV (As := [.ref tp, .int 0, .int 0]) (rest := []) ⟨hx, hb, hml, hown, hts⟩ (c_hears l D ca _ tp a k) (cwV 3 hts g_c_hear_yes_c_hears_53 rfl rfl rfl (by decide +kernel) ⟨Nat.le_of_ble_eq_true rfl, Nat.le_of_ble_eq_true rfl⟩) hK hN hP hD [1, 2] rfl rfl rfl rfl rfl rfl hl.1 rfl (Nat.le_of_ble_eq_true rfl) dX11_hear_51 ⟨Nat.le_of_ble_eq_true rfl, Nat.le_of_ble_eq_true rfl⟩) hP hD hS hA [1, 2] [0, 3, 4] rfl rfl rfl (by decide) (fun r_2 uu_ tt H locs hr_2 hB hj hS => ?_)
          have hWd := hB
          obtain ⟨hP, hD⟩ := hj _ hWd
          have hP : va_P D vwCl [(tp, .inl (ca 0, 1000, .inl (fun _ => 0))), (h0, .inr (11, [.ref dv, .ref tp, .int 0])), (dv, .inl (ca 2, 4, .inr (.inr (.inr (.inr fd)))))] H := hP
          have hD : va_D A [(tp, .inl (ca 0, 1000, .inl (fun _ => 0))), (h0, .inr (11, [.ref dv, .ref tp, .int 0])), (dv, .inl (ca 2, 4, .inr (.inr (.inr (.inr fd)))))] := hD
          subst hr_2
          exact W.iret (v := 0) hx hb hr (fun tt ht hW => ⟨⟨0, (), rfl, (if_pos ⟨rfl, rfl⟩).symm, ⟨by rw [ht]; exact hP.sub [] rfl, hD.sub [] rfl rfl⟩⟩, hS.F ht⟩) hS.2.2 dX11_hear_54
        · refine lv_bipush (v := (-2)) hx hb dX11_hear_40 (by decide) ?_
          exact W.iret (v := (-2)) hx hb hr (fun tt ht hW => ⟨⟨(-2), (), rfl, (if_neg (fun h => absurd (by rw [h.1]; decide) c_37)).symm, ⟨by rw [ht]; exact hP.sub [] rfl, hD.sub [] rfl rfl⟩⟩, hS.F ht⟩) hS.2.2 dX11_hear_42
def w_c_ticks : List Cond := .code yX1_ticks cX1_ticks 1 none :: (([.fieldLink RX1 60 "BeamHouse$Device" "state" "I"] : List Cond) ++ wsX10)
set_option maxHeartbeats 4000000 in
set_option maxRecDepth 100000 in
theorem c_ticks (l : Launch) (D : va_G) (ca : Nat → ClassId) (sz : Nat) (a : Nat → Nat) (k : Nat)  : Met l yX1_ticks w_c_ticks ({ frames := 0, cells := 0, slots := 0, locals := 0 }) (Pre D ca [.ref (a 0)] [((a 0), .inr (1, [.ref (a 1), .ref (a 4), .ref (a 5), .ref (a 6), .ref (a 8), .ref (a 10), .int 0, .int (nI (k + 1)), .int (nI k)]))] sz) (va_Qv (fun _ : Unit => True) (fun (_ : Unit) (tt : State) => Wd D (va_A [((a 0), .inr (1, [.ref (a 1), .ref (a 4), .ref (a 5), .ref (a 6), .ref (a 8), .ref (a 10), .int 0, .int (nI (k + 1)), .int (nI k)]))] sz) [((a 0), .inr (1, [.ref (a 1), .ref (a 4), .ref (a 5), .ref (a 6), .ref (a 8), .ref (a 10), .int 0, .int (nI (k + 1)), .int (nI k)]))] tt) (va_A [((a 0), .inr (1, [.ref (a 1), .ref (a 4), .ref (a 5), .ref (a 6), .ref (a 8), .ref (a 10), .int 0, .int (nI (k + 1)), .int (nI k)]))] sz)) 0 0 (va_A [((a 0), .inr (1, [.ref (a 1), .ref (a 4), .ref (a 5), .ref (a 6), .ref (a 8), .ref (a 10), .int 0, .int (nI (k + 1)), .int (nI k)]))] sz) := by
  refine Met.ofW (cc := cX1_ticks) (maxL := 1) (ret := none) (by decide) rfl ?_
  intro p e s m args below meth c s₁ B hml hv
  obtain ⟨rfl, hsz, hP, hK, hD0, hN⟩ := hv
  have hx := B.exec
  have hb := B.bytes
  have hr := B.returns
  have hts := atoms_spec (ws := w_c_ticks) B.pre
  have hown : s.vm.findClass RX1 = some m.cls := findClass_of_methodNamed B.named
  have hlocks := B.notSynchronized
  have hi_X1 : ∀ w ∈ wsX10, w ∈ w_c_ticks := fun _ h => List.mem_cons_of_mem _ (List.mem_append_right _ h)
  subst hsz
  have hD := hD0.self (sz := s.heap.size)
  generalize hAe : va_A [((a 0), .inr (1, [.ref (a 1), .ref (a 4), .ref (a 5), .ref (a 6), .ref (a 8), .ref (a 10), .int 0, .int (nI (k + 1)), .int (nI k)]))] s.heap.size = A at hD ⊢
  have hA : ∀ q : Nat, s.heap.size ≤ q → A q := fun q h => by rw [← hAe]; exact Or.inr h
  have hS : va_S A s.heap s.heap [] := va_S.rf
  have hP : va_P D vwCl [((a 0), .inr (1, [.ref (a 1), .ref (a 4), .ref (a 5), .ref (a 6), .ref (a 8), .ref (a 10), .int 0, .int (nI (k + 1)), .int (nI k)]))] s.heap := hP
  have hl := lv_entry ([.ref (a 0)]) (n := 1) (Nat.le_of_ble_eq_true rfl)
  rw [lg_entry_eq]
  generalize (lg_sl ([.ref (a 0)]) ++ List.replicate (1 - (lg_sl ([.ref (a 0)])).length) Slot.unset).toArray = ls at hl ⊢
  have hl : lv_has ls 1 [(0, .ref (a 0))] := hl
  refine lv_aload_n hx hb dX1_ticks_0 rfl (lv_at hl 0 rfl) ?_
  refine va_get (D := D) (ci := 1) (v := .int 0) (C := RX1) (T := TX1) (N := 9) hx hb hts hi_X1 hown hK hP 0 rfl rfl 6 (by decide) (hts (.fieldLink RX1 60 "BeamHouse$Device" "state" "I") (List.mem_of_getElem? (i := 1) rfl)) (fun _ h9 => h9) rfl dX1_ticks_1 ?_
  refine lv_tableOut (tgt := 64) hx hb dX1_ticks_4 (by decide) (by decide) ?_
  exact W.vret hx hb hr (fun tt ht hW => ⟨⟨(), rfl, trivial, ⟨by rw [ht]; exact hP.sub [0] rfl, hD.sub [0] rfl rfl⟩⟩, hS.F ht⟩) hS.2.2 dX1_ticks_64
def w_c_tick_no : List Cond := .code yX11_tick cX11_tick 3 (some .int) :: (([.code yX11_deviceAt cX11_deviceAt 2 (some (.object "BeamHouse$Device")), .methodLink RX11 22 yX11_deviceAt, .instanceMethod yX11_deviceAt, .selects RX11 yX11_deviceAt yX11_deviceAt, .initialized RX11] : List Cond))
theorem g_c_tick_no_c_deviceAt_no_22 : GoodIn w_c_tick_no (wsV RX11 22 RX11 yX11_deviceAt w_c_deviceAt_no) := (goodIn_app (goodIn_r _ [2, 3, 4, 5] rfl rfl) (goodIn_r _ [1] rfl rfl))
set_option maxHeartbeats 4000000 in
set_option maxRecDepth 100000 in
theorem c_tick_no (l : Launch) (D : va_G) (ca : Nat → ClassId) (sz : Nat) (h0 : Nat) (dv : Nat) (tp : Nat) (d : Int32) (hd : d < 0 ∨ 4 ≤ d) : Met l yX11_tick w_c_tick_no ({ frames := 1, cells := 0, slots := 0, locals := 21 }) (Pre D ca [.ref h0, .int d] [(h0, .inr (11, [.ref dv, .ref tp, .int 0]))] sz) (va_Qi (fun (r : Int32) (_ : Unit) => r = -1) (fun (_ : Unit) (tt : State) => Wd D (va_A [(h0, .inr (11, [.ref dv, .ref tp, .int 0]))] sz) [] tt) (va_A [(h0, .inr (11, [.ref dv, .ref tp, .int 0]))] sz)) 0 0 (va_A [(h0, .inr (11, [.ref dv, .ref tp, .int 0]))] sz) := by
  refine Met.ofW (cc := cX11_tick) (maxL := 3) (ret := (some .int)) (by decide) rfl ?_
  intro p e s m args below meth c s₁ B hml hv
  obtain ⟨rfl, hsz, hP, hK, hD0, hN⟩ := hv
  have hx := B.exec
  have hb := B.bytes
  have hr := B.returns
  have hts := atoms_spec (ws := w_c_tick_no) B.pre
  have hown : s.vm.findClass RX11 = some m.cls := findClass_of_methodNamed B.named
  have hlocks := B.notSynchronized
  subst hsz
  have hD := hD0.self (sz := s.heap.size)
  generalize hAe : va_A [(h0, .inr (11, [.ref dv, .ref tp, .int 0]))] s.heap.size = A at hD ⊢
  have hA : ∀ q : Nat, s.heap.size ≤ q → A q := fun q h => by rw [← hAe]; exact Or.inr h
  have hS : va_S A s.heap s.heap [] := va_S.rf
  have hP : va_P D vwCl [(h0, .inr (11, [.ref dv, .ref tp, .int 0]))] s.heap := hP
  have hl := lv_entry ([.ref h0, .int d]) (n := 3) (Nat.le_of_ble_eq_true rfl)
  rw [lg_entry_eq]
  generalize (lg_sl ([.ref h0, .int d]) ++ List.replicate (3 - (lg_sl ([.ref h0, .int d])).length) Slot.unset).toArray = ls at hl ⊢
  have hl : lv_has ls 3 [(0, .ref h0), (1, .int d)] := hl
  refine lv_aload_n hx hb dX11_tick_0 rfl (lv_at hl 0 rfl) ?_
  refine lv_iload_n hx hb dX11_tick_1 rfl (lv_at hl 1 rfl) ?_
  refine kGo_q (wr := []) (kRunV (As := [.int d]) (rest := []) ⟨hx, hb, hml, hown, hts⟩ (c_deviceAt_no l D ca _ h0 dv tp d hd) (cwV 1 hts g_c_tick_no_c_deviceAt_no_22 rfl rfl rfl (by decide +kernel) ⟨Nat.le_of_ble_eq_true rfl, Nat.le_of_ble_eq_true rfl⟩) hK hN hP hD [0] rfl rfl rfl rfl rfl rfl hl.1 rfl (Nat.le_of_ble_eq_true rfl) dX11_tick_2 ⟨Nat.le_of_ble_eq_true rfl, Nat.le_of_ble_eq_true rfl⟩) hP hD hS hA [0] [] rfl rfl rfl (by decide) (fun r_1 uu_ tt H locs hr_1 hB hj hS => ?_)
  have hWd := hB
  obtain ⟨hP, hD⟩ := hj _ hWd
  have hP : va_P D vwCl [(h0, .inr (11, [.ref dv, .ref tp, .int 0]))] H := hP
  have hD : va_D A [(h0, .inr (11, [.ref dv, .ref tp, .int 0]))] := hD
  subst hr_1
  refine W.eq (g2 := F0 m 5 ls [.null]) rfl ?_
  refine lv_astore_nN (lv' := [(2, .null), (0, .ref h0), (1, .int d)]) hx hb dX11_tick_5 rfl hl (by decide) rfl (fun ls hl => ?_)
  refine lv_aload_nN hx hb dX11_tick_6 rfl (lv_at hl 0 rfl) ?_
  refine lv_ifnonnullN hx hb dX11_tick_7 ?_
  refine lv_iconst (v := (-1)) hx hb dX11_tick_10 (by decide) ?_
  exact W.iret (v := (-1)) hx hb hr (fun tt ht hW => ⟨⟨(-1), (), rfl, rfl, ⟨by rw [ht]; exact hP.sub [] rfl, hD.sub [] rfl rfl⟩⟩, hS.F ht⟩) hS.2.2 dX11_tick_11
def w_c_tick_yes : List Cond := .code yX11_tick cX11_tick 3 (some .int) :: (([.code yX11_deviceAt cX11_deviceAt 2 (some (.object "BeamHouse$Device")), .fieldLink RX11 11 "BeamHouse" "devices" "[LBeamHouse$Device;", .methodLink RX11 22 yX11_deviceAt, .instanceMethod yX11_deviceAt, .selects RX11 yX11_deviceAt yX11_deviceAt, .initialized RX11, .code yX1_ticks cX1_ticks 1 none, .fieldLink RX1 60 "BeamHouse$Device" "state" "I", .methodLink RX11 67 yX1_ticks, .instanceMethod yX1_ticks, .selects RX1 yX1_ticks yX1_ticks, .initialized RX1, .fieldLink RX11 26 "BeamHouse$Device" "state" "I"] : List Cond) ++ wsX110 ++ wsX10)
theorem g_c_tick_yes_c_deviceAt_yes_22 : GoodIn w_c_tick_yes (wsV RX11 22 RX11 yX11_deviceAt w_c_deviceAt_yes) := (goodIn_app (goodIn_r _ [3, 4, 5, 6] rfl rfl) (goodIn_ca (goodIn_r _ [1, 2] rfl rfl) (goodIn_sub (fun _ h => List.mem_cons_of_mem _ (List.mem_append_left _ (List.mem_append_right _ h))) gw_X11)))
theorem g_c_tick_yes_c_ticks_67 : GoodIn w_c_tick_yes (wsV RX11 67 RX1 yX1_ticks w_c_ticks) := (goodIn_app (goodIn_r _ [9, 10, 11, 12] rfl rfl) (goodIn_ca (goodIn_r _ [7, 8] rfl rfl) (goodIn_sub (fun _ h => List.mem_cons_of_mem _ (List.mem_append_right _ h)) gw_X1)))
set_option maxHeartbeats 4000000 in
set_option maxRecDepth 100000 in
theorem c_tick_yes (l : Launch) (D : va_G) (ca : Nat → ClassId) (sz : Nat) (h0 : Nat) (dv : Nat) (tp : Nat) (fd : Nat → Option Nat) (a : Nat → Nat) (k : Nat) (hk : k < 4) (hfd : fd k = some (a 0)) : Met l yX11_tick w_c_tick_yes ({ frames := 1, cells := 0, slots := 0, locals := 21 }) (Pre D ca [.ref h0, .int (nI k)] [(h0, .inr (11, [.ref dv, .ref tp, .int 0])), (dv, .inl (ca 2, 4, .inr (.inr (.inr (.inr fd))))), ((a 0), .inr (1, [.ref (a 1), .ref (a 4), .ref (a 5), .ref (a 6), .ref (a 8), .ref (a 10), .int 0, .int (nI (k + 1)), .int (nI k)]))] sz) (va_Qi (fun (r : Int32) (_ : Unit) => r = 0) (fun (_ : Unit) (tt : State) => Wd D (va_A [(h0, .inr (11, [.ref dv, .ref tp, .int 0])), (dv, .inl (ca 2, 4, .inr (.inr (.inr (.inr fd))))), ((a 0), .inr (1, [.ref (a 1), .ref (a 4), .ref (a 5), .ref (a 6), .ref (a 8), .ref (a 10), .int 0, .int (nI (k + 1)), .int (nI k)]))] sz) [] tt) (va_A [(h0, .inr (11, [.ref dv, .ref tp, .int 0])), (dv, .inl (ca 2, 4, .inr (.inr (.inr (.inr fd))))), ((a 0), .inr (1, [.ref (a 1), .ref (a 4), .ref (a 5), .ref (a 6), .ref (a 8), .ref (a 10), .int 0, .int (nI (k + 1)), .int (nI k)]))] sz)) 0 0 (va_A [(h0, .inr (11, [.ref dv, .ref tp, .int 0])), (dv, .inl (ca 2, 4, .inr (.inr (.inr (.inr fd))))), ((a 0), .inr (1, [.ref (a 1), .ref (a 4), .ref (a 5), .ref (a 6), .ref (a 8), .ref (a 10), .int 0, .int (nI (k + 1)), .int (nI k)]))] sz) := by
  refine Met.ofW (cc := cX11_tick) (maxL := 3) (ret := (some .int)) (by decide) rfl ?_
  intro p e s m args below meth c s₁ B hml hv
  obtain ⟨rfl, hsz, hP, hK, hD0, hN⟩ := hv
  have hx := B.exec
  have hb := B.bytes
  have hr := B.returns
  have hts := atoms_spec (ws := w_c_tick_yes) B.pre
  have hown : s.vm.findClass RX11 = some m.cls := findClass_of_methodNamed B.named
  have hlocks := B.notSynchronized
  have hi_X11 : ∀ w ∈ wsX110, w ∈ w_c_tick_yes := fun _ h => List.mem_cons_of_mem _ (List.mem_append_left _ (List.mem_append_right _ h))
  have hi_X1 : ∀ w ∈ wsX10, w ∈ w_c_tick_yes := fun _ h => List.mem_cons_of_mem _ (List.mem_append_right _ h)
  subst hsz
  have hD := hD0.self (sz := s.heap.size)
  generalize hAe : va_A [(h0, .inr (11, [.ref dv, .ref tp, .int 0])), (dv, .inl (ca 2, 4, .inr (.inr (.inr (.inr fd))))), ((a 0), .inr (1, [.ref (a 1), .ref (a 4), .ref (a 5), .ref (a 6), .ref (a 8), .ref (a 10), .int 0, .int (nI (k + 1)), .int (nI k)]))] s.heap.size = A at hD ⊢
  have hA : ∀ q : Nat, s.heap.size ≤ q → A q := fun q h => by rw [← hAe]; exact Or.inr h
  have hS : va_S A s.heap s.heap [] := va_S.rf
  have hP : va_P D vwCl [(h0, .inr (11, [.ref dv, .ref tp, .int 0])), (dv, .inl (ca 2, 4, .inr (.inr (.inr (.inr fd))))), ((a 0), .inr (1, [.ref (a 1), .ref (a 4), .ref (a 5), .ref (a 6), .ref (a 8), .ref (a 10), .int 0, .int (nI (k + 1)), .int (nI k)]))] s.heap := hP
  have hl := lv_entry ([.ref h0, .int (nI k)]) (n := 3) (Nat.le_of_ble_eq_true rfl)
  rw [lg_entry_eq]
  generalize (lg_sl ([.ref h0, .int (nI k)]) ++ List.replicate (3 - (lg_sl ([.ref h0, .int (nI k)])).length) Slot.unset).toArray = ls at hl ⊢
  have hl : lv_has ls 3 [(0, .ref h0), (1, .int (nI k))] := hl
  refine lv_aload_n hx hb dX11_tick_0 rfl (lv_at hl 0 rfl) ?_
  refine lv_iload_n hx hb dX11_tick_1 rfl (lv_at hl 1 rfl) ?_
  refine kGo_q (wr := [((a 0), .inr (1, [.ref (a 1), .ref (a 4), .ref (a 5), .ref (a 6), .ref (a 8), .ref (a 10), .int 0, .int (nI (k + 1)), .int (nI k)]))]) (kRunV (As := [.int (nI k)]) (rest := []) ⟨hx, hb, hml, hown, hts⟩ (c_deviceAt_yes l D ca _ h0 dv tp fd a k hk hfd) (cwV 1 hts g_c_tick_yes_c_deviceAt_yes_22 rfl rfl rfl (by decide +kernel) ⟨Nat.le_of_ble_eq_true rfl, Nat.le_of_ble_eq_true rfl⟩) hK hN hP hD [0, 1] rfl rfl rfl rfl rfl rfl hl.1 rfl (Nat.le_of_ble_eq_true rfl) dX11_tick_2 ⟨Nat.le_of_ble_eq_true rfl, Nat.le_of_ble_eq_true rfl⟩) hP hD hS hA [0, 1] [2] rfl rfl rfl (by decide) (fun r_1 uu_ tt H locs hr_1 hB hj hS => ?_)
  have hWd := hB
  obtain ⟨hP, hD⟩ := hj _ hWd
  have hP : va_P D vwCl [((a 0), .inr (1, [.ref (a 1), .ref (a 4), .ref (a 5), .ref (a 6), .ref (a 8), .ref (a 10), .int 0, .int (nI (k + 1)), .int (nI k)])), (h0, .inr (11, [.ref dv, .ref tp, .int 0])), (dv, .inl (ca 2, 4, .inr (.inr (.inr (.inr fd)))))] H := hP
  have hD : va_D A [((a 0), .inr (1, [.ref (a 1), .ref (a 4), .ref (a 5), .ref (a 6), .ref (a 8), .ref (a 10), .int 0, .int (nI (k + 1)), .int (nI k)])), (h0, .inr (11, [.ref dv, .ref tp, .int 0])), (dv, .inl (ca 2, 4, .inr (.inr (.inr (.inr fd)))))] := hD
  subst hr_1
  refine W.eq (g2 := F0 m 5 ls [.ref (a 0)]) rfl ?_
  refine lv_astore_n (lv' := [(2, .ref (a 0)), (0, .ref h0), (1, .int (nI k))]) hx hb dX11_tick_5 rfl hl (by decide) rfl (fun ls hl => ?_)
  refine lv_aload_n hx hb dX11_tick_6 rfl (lv_at hl 0 rfl) ?_
  refine lv_ifnonnull (tgt := 12) hx hb dX11_tick_7 (by decide) ?_
  refine lv_aload_n hx hb dX11_tick_12 rfl (lv_at hl 0 rfl) ?_
  refine kGo_v (wr := [(h0, .inr (11, [.ref dv, .ref tp, .int 0])), (dv, .inl (ca 2, 4, .inr (.inr (.inr (.inr fd)))))]) (kRunV (As := []) (rest := []) ⟨hx, hb, hml, hown, hts⟩ (c_ticks l D ca _ a k) (cwV 0 hts g_c_tick_yes_c_ticks_67 rfl rfl rfl (by decide +kernel) ⟨Nat.le_of_ble_eq_true rfl, Nat.le_of_ble_eq_true rfl⟩) hK hN hP hD [0] rfl rfl rfl rfl rfl rfl hl.1 rfl (Nat.le_of_ble_eq_true rfl) dX11_tick_13 ⟨Nat.le_of_ble_eq_true rfl, Nat.le_of_ble_eq_true rfl⟩) hP hD hS hA [0] [1, 2] rfl rfl rfl (by decide) (fun uu_ tt H locs hr_2 hB hj hS => ?_)
  have hWd := hB
  obtain ⟨hP, hD⟩ := hj _ hWd
  have hP : va_P D vwCl [(h0, .inr (11, [.ref dv, .ref tp, .int 0])), (dv, .inl (ca 2, 4, .inr (.inr (.inr (.inr fd))))), ((a 0), .inr (1, [.ref (a 1), .ref (a 4), .ref (a 5), .ref (a 6), .ref (a 8), .ref (a 10), .int 0, .int (nI (k + 1)), .int (nI k)]))] H := hP
  have hD : va_D A [(h0, .inr (11, [.ref dv, .ref tp, .int 0])), (dv, .inl (ca 2, 4, .inr (.inr (.inr (.inr fd))))), ((a 0), .inr (1, [.ref (a 1), .ref (a 4), .ref (a 5), .ref (a 6), .ref (a 8), .ref (a 10), .int 0, .int (nI (k + 1)), .int (nI k)]))] := hD
  refine lv_aload_n hx hb dX11_tick_16 rfl (lv_at hl 0 rfl) ?_
  refine va_get (D := D) (ci := 1) (v := .int 0) (C := RX1) (T := TX1) (N := 9) hx hb hts hi_X1 hown hK hP 2 rfl rfl 6 (by decide) (hts (.fieldLink RX11 26 "BeamHouse$Device" "state" "I") (List.mem_of_getElem? (i := 13) rfl)) (fun _ h9 => h9) rfl dX11_tick_17 ?_
  exact W.iret (v := 0) hx hb hr (fun tt ht hW => ⟨⟨0, (), rfl, rfl, ⟨by rw [ht]; exact hP.sub [] rfl, hD.sub [] rfl rfl⟩⟩, hS.F ht⟩) hS.2.2 dX11_tick_20
def w_c_listed_no : List Cond := .code yX11_listed cX11_listed 4 (some .int) :: (([.code yX11_deviceAt cX11_deviceAt 2 (some (.object "BeamHouse$Device")), .methodLink RX11 22 yX11_deviceAt, .instanceMethod yX11_deviceAt, .selects RX11 yX11_deviceAt yX11_deviceAt, .initialized RX11] : List Cond))
theorem g_c_listed_no_c_deviceAt_no_22 : GoodIn w_c_listed_no (wsV RX11 22 RX11 yX11_deviceAt w_c_deviceAt_no) := (goodIn_app (goodIn_r _ [2, 3, 4, 5] rfl rfl) (goodIn_r _ [1] rfl rfl))
set_option maxHeartbeats 4000000 in
set_option maxRecDepth 100000 in
theorem c_listed_no (l : Launch) (D : va_G) (ca : Nat → ClassId) (sz : Nat) (h0 : Nat) (dv : Nat) (tp : Nat) (d : Int32) (i : Int32) (hd : d < 0 ∨ 4 ≤ d) : Met l yX11_listed w_c_listed_no ({ frames := 1, cells := 0, slots := 0, locals := 21 }) (Pre D ca [.ref h0, .int d, .int i] [(h0, .inr (11, [.ref dv, .ref tp, .int 0]))] sz) (va_Qi (fun (r : Int32) (_ : Unit) => r = 0) (fun (_ : Unit) (tt : State) => Wd D (va_A [(h0, .inr (11, [.ref dv, .ref tp, .int 0]))] sz) [] tt) (va_A [(h0, .inr (11, [.ref dv, .ref tp, .int 0]))] sz)) 0 0 (va_A [(h0, .inr (11, [.ref dv, .ref tp, .int 0]))] sz) := by
  refine Met.ofW (cc := cX11_listed) (maxL := 4) (ret := (some .int)) (by decide) rfl ?_
  intro p e s m args below meth c s₁ B hml hv
  obtain ⟨rfl, hsz, hP, hK, hD0, hN⟩ := hv
  have hx := B.exec
  have hb := B.bytes
  have hr := B.returns
  have hts := atoms_spec (ws := w_c_listed_no) B.pre
  have hown : s.vm.findClass RX11 = some m.cls := findClass_of_methodNamed B.named
  have hlocks := B.notSynchronized
  subst hsz
  have hD := hD0.self (sz := s.heap.size)
  generalize hAe : va_A [(h0, .inr (11, [.ref dv, .ref tp, .int 0]))] s.heap.size = A at hD ⊢
  have hA : ∀ q : Nat, s.heap.size ≤ q → A q := fun q h => by rw [← hAe]; exact Or.inr h
  have hS : va_S A s.heap s.heap [] := va_S.rf
  have hP : va_P D vwCl [(h0, .inr (11, [.ref dv, .ref tp, .int 0]))] s.heap := hP
  have hl := lv_entry ([.ref h0, .int d, .int i]) (n := 4) (Nat.le_of_ble_eq_true rfl)
  rw [lg_entry_eq]
  generalize (lg_sl ([.ref h0, .int d, .int i]) ++ List.replicate (4 - (lg_sl ([.ref h0, .int d, .int i])).length) Slot.unset).toArray = ls at hl ⊢
  have hl : lv_has ls 4 [(0, .ref h0), (1, .int d), (2, .int i)] := hl
  refine lv_aload_n hx hb dX11_listed_0 rfl (lv_at hl 0 rfl) ?_
  refine lv_iload_n hx hb dX11_listed_1 rfl (lv_at hl 1 rfl) ?_
  refine kGo_q (wr := []) (kRunV (As := [.int d]) (rest := []) ⟨hx, hb, hml, hown, hts⟩ (c_deviceAt_no l D ca _ h0 dv tp d hd) (cwV 1 hts g_c_listed_no_c_deviceAt_no_22 rfl rfl rfl (by decide +kernel) ⟨Nat.le_of_ble_eq_true rfl, Nat.le_of_ble_eq_true rfl⟩) hK hN hP hD [0] rfl rfl rfl rfl rfl rfl hl.1 rfl (Nat.le_of_ble_eq_true rfl) dX11_listed_2 ⟨Nat.le_of_ble_eq_true rfl, Nat.le_of_ble_eq_true rfl⟩) hP hD hS hA [0] [] rfl rfl rfl (by decide) (fun r_1 uu_ tt H locs hr_1 hB hj hS => ?_)
  have hWd := hB
  obtain ⟨hP, hD⟩ := hj _ hWd
  have hP : va_P D vwCl [(h0, .inr (11, [.ref dv, .ref tp, .int 0]))] H := hP
  have hD : va_D A [(h0, .inr (11, [.ref dv, .ref tp, .int 0]))] := hD
  subst hr_1
  refine W.eq (g2 := F0 m 5 ls [.null]) rfl ?_
  refine lv_astore_nN (lv' := [(3, .null), (0, .ref h0), (1, .int d), (2, .int i)]) hx hb dX11_listed_5 rfl hl (by decide) rfl (fun ls hl => ?_)
  refine lv_aload_nN hx hb dX11_listed_6 rfl (lv_at hl 0 rfl) ?_
  refine lv_ifnullN (tgt := 25) hx hb dX11_listed_7 (by decide) ?_
  refine lv_iconst (v := 0) hx hb dX11_listed_25 (by decide) ?_
  exact W.iret (v := 0) hx hb hr (fun tt ht hW => ⟨⟨0, (), rfl, rfl, ⟨by rw [ht]; exact hP.sub [] rfl, hD.sub [] rfl rfl⟩⟩, hS.F ht⟩) hS.2.2 dX11_listed_26
def w_c_listed_yes : List Cond := .code yX11_listed cX11_listed 4 (some .int) :: (([.code yX11_deviceAt cX11_deviceAt 2 (some (.object "BeamHouse$Device")), .fieldLink RX11 11 "BeamHouse" "devices" "[LBeamHouse$Device;", .methodLink RX11 22 yX11_deviceAt, .instanceMethod yX11_deviceAt, .selects RX11 yX11_deviceAt yX11_deviceAt, .initialized RX11, .fieldLink RX11 74 "BeamHouse$Device" "search" "LBeamHouse$Search;", .fieldLink RX11 83 "BeamHouse$Search" "found" "I"] : List Cond) ++ wsX110 ++ wsX10 ++ wsX70)
theorem g_c_listed_yes_c_deviceAt_yes_22 : GoodIn w_c_listed_yes (wsV RX11 22 RX11 yX11_deviceAt w_c_deviceAt_yes) := (goodIn_app (goodIn_r _ [3, 4, 5, 6] rfl rfl) (goodIn_ca (goodIn_r _ [1, 2] rfl rfl) (goodIn_sub (fun _ h => List.mem_cons_of_mem _ (List.mem_append_left _ (List.mem_append_left _ (List.mem_append_right _ h)))) gw_X11)))
set_option maxHeartbeats 4000000 in
set_option maxRecDepth 100000 in
theorem c_listed_yes (l : Launch) (D : va_G) (ca : Nat → ClassId) (sz : Nat) (h0 : Nat) (dv : Nat) (tp : Nat) (fd : Nat → Option Nat) (a : Nat → Nat) (k : Nat) (i : Int32) (hk : k < 4) (hfd : fd k = some (a 0)) : Met l yX11_listed w_c_listed_yes ({ frames := 1, cells := 0, slots := 0, locals := 21 }) (Pre D ca [.ref h0, .int (nI k), .int i] [(h0, .inr (11, [.ref dv, .ref tp, .int 0])), (dv, .inl (ca 2, 4, .inr (.inr (.inr (.inr fd))))), ((a 0), .inr (1, [.ref (a 1), .ref (a 4), .ref (a 5), .ref (a 6), .ref (a 8), .ref (a 10), .int 0, .int (nI (k + 1)), .int (nI k)])), ((a 5), .inr (7, [.ref (a 16), .int 0, .int 0, .int 0, .int 0, .int 0, .int 0]))] sz) (va_Qi (fun (r : Int32) (_ : Unit) => r = 0) (fun (_ : Unit) (tt : State) => Wd D (va_A [(h0, .inr (11, [.ref dv, .ref tp, .int 0])), (dv, .inl (ca 2, 4, .inr (.inr (.inr (.inr fd))))), ((a 0), .inr (1, [.ref (a 1), .ref (a 4), .ref (a 5), .ref (a 6), .ref (a 8), .ref (a 10), .int 0, .int (nI (k + 1)), .int (nI k)])), ((a 5), .inr (7, [.ref (a 16), .int 0, .int 0, .int 0, .int 0, .int 0, .int 0]))] sz) [] tt) (va_A [(h0, .inr (11, [.ref dv, .ref tp, .int 0])), (dv, .inl (ca 2, 4, .inr (.inr (.inr (.inr fd))))), ((a 0), .inr (1, [.ref (a 1), .ref (a 4), .ref (a 5), .ref (a 6), .ref (a 8), .ref (a 10), .int 0, .int (nI (k + 1)), .int (nI k)])), ((a 5), .inr (7, [.ref (a 16), .int 0, .int 0, .int 0, .int 0, .int 0, .int 0]))] sz)) 0 0 (va_A [(h0, .inr (11, [.ref dv, .ref tp, .int 0])), (dv, .inl (ca 2, 4, .inr (.inr (.inr (.inr fd))))), ((a 0), .inr (1, [.ref (a 1), .ref (a 4), .ref (a 5), .ref (a 6), .ref (a 8), .ref (a 10), .int 0, .int (nI (k + 1)), .int (nI k)])), ((a 5), .inr (7, [.ref (a 16), .int 0, .int 0, .int 0, .int 0, .int 0, .int 0]))] sz) := by
  refine Met.ofW (cc := cX11_listed) (maxL := 4) (ret := (some .int)) (by decide) rfl ?_
  intro p e s m args below meth c s₁ B hml hv
  obtain ⟨rfl, hsz, hP, hK, hD0, hN⟩ := hv
  have hx := B.exec
  have hb := B.bytes
  have hr := B.returns
  have hts := atoms_spec (ws := w_c_listed_yes) B.pre
  have hown : s.vm.findClass RX11 = some m.cls := findClass_of_methodNamed B.named
  have hlocks := B.notSynchronized
  have hi_X11 : ∀ w ∈ wsX110, w ∈ w_c_listed_yes := fun _ h => List.mem_cons_of_mem _ (List.mem_append_left _ (List.mem_append_left _ (List.mem_append_right _ h)))
  have hi_X1 : ∀ w ∈ wsX10, w ∈ w_c_listed_yes := fun _ h => List.mem_cons_of_mem _ (List.mem_append_left _ (List.mem_append_right _ h))
  have hi_X7 : ∀ w ∈ wsX70, w ∈ w_c_listed_yes := fun _ h => List.mem_cons_of_mem _ (List.mem_append_right _ h)
  subst hsz
  have hD := hD0.self (sz := s.heap.size)
  generalize hAe : va_A [(h0, .inr (11, [.ref dv, .ref tp, .int 0])), (dv, .inl (ca 2, 4, .inr (.inr (.inr (.inr fd))))), ((a 0), .inr (1, [.ref (a 1), .ref (a 4), .ref (a 5), .ref (a 6), .ref (a 8), .ref (a 10), .int 0, .int (nI (k + 1)), .int (nI k)])), ((a 5), .inr (7, [.ref (a 16), .int 0, .int 0, .int 0, .int 0, .int 0, .int 0]))] s.heap.size = A at hD ⊢
  have hA : ∀ q : Nat, s.heap.size ≤ q → A q := fun q h => by rw [← hAe]; exact Or.inr h
  have hS : va_S A s.heap s.heap [] := va_S.rf
  have hP : va_P D vwCl [(h0, .inr (11, [.ref dv, .ref tp, .int 0])), (dv, .inl (ca 2, 4, .inr (.inr (.inr (.inr fd))))), ((a 0), .inr (1, [.ref (a 1), .ref (a 4), .ref (a 5), .ref (a 6), .ref (a 8), .ref (a 10), .int 0, .int (nI (k + 1)), .int (nI k)])), ((a 5), .inr (7, [.ref (a 16), .int 0, .int 0, .int 0, .int 0, .int 0, .int 0]))] s.heap := hP
  have hl := lv_entry ([.ref h0, .int (nI k), .int i]) (n := 4) (Nat.le_of_ble_eq_true rfl)
  rw [lg_entry_eq]
  generalize (lg_sl ([.ref h0, .int (nI k), .int i]) ++ List.replicate (4 - (lg_sl ([.ref h0, .int (nI k), .int i])).length) Slot.unset).toArray = ls at hl ⊢
  have hl : lv_has ls 4 [(0, .ref h0), (1, .int (nI k)), (2, .int i)] := hl
  refine lv_aload_n hx hb dX11_listed_0 rfl (lv_at hl 0 rfl) ?_
  refine lv_iload_n hx hb dX11_listed_1 rfl (lv_at hl 1 rfl) ?_
  refine kGo_q (wr := [((a 0), .inr (1, [.ref (a 1), .ref (a 4), .ref (a 5), .ref (a 6), .ref (a 8), .ref (a 10), .int 0, .int (nI (k + 1)), .int (nI k)])), ((a 5), .inr (7, [.ref (a 16), .int 0, .int 0, .int 0, .int 0, .int 0, .int 0]))]) (kRunV (As := [.int (nI k)]) (rest := []) ⟨hx, hb, hml, hown, hts⟩ (c_deviceAt_yes l D ca _ h0 dv tp fd a k hk hfd) (cwV 1 hts g_c_listed_yes_c_deviceAt_yes_22 rfl rfl rfl (by decide +kernel) ⟨Nat.le_of_ble_eq_true rfl, Nat.le_of_ble_eq_true rfl⟩) hK hN hP hD [0, 1] rfl rfl rfl rfl rfl rfl hl.1 rfl (Nat.le_of_ble_eq_true rfl) dX11_listed_2 ⟨Nat.le_of_ble_eq_true rfl, Nat.le_of_ble_eq_true rfl⟩) hP hD hS hA [0, 1] [2, 3] rfl rfl rfl (by decide) (fun r_1 uu_ tt H locs hr_1 hB hj hS => ?_)
  have hWd := hB
  obtain ⟨hP, hD⟩ := hj _ hWd
  have hP : va_P D vwCl [((a 0), .inr (1, [.ref (a 1), .ref (a 4), .ref (a 5), .ref (a 6), .ref (a 8), .ref (a 10), .int 0, .int (nI (k + 1)), .int (nI k)])), ((a 5), .inr (7, [.ref (a 16), .int 0, .int 0, .int 0, .int 0, .int 0, .int 0])), (h0, .inr (11, [.ref dv, .ref tp, .int 0])), (dv, .inl (ca 2, 4, .inr (.inr (.inr (.inr fd)))))] H := hP
  have hD : va_D A [((a 0), .inr (1, [.ref (a 1), .ref (a 4), .ref (a 5), .ref (a 6), .ref (a 8), .ref (a 10), .int 0, .int (nI (k + 1)), .int (nI k)])), ((a 5), .inr (7, [.ref (a 16), .int 0, .int 0, .int 0, .int 0, .int 0, .int 0])), (h0, .inr (11, [.ref dv, .ref tp, .int 0])), (dv, .inl (ca 2, 4, .inr (.inr (.inr (.inr fd)))))] := hD
  subst hr_1
  refine W.eq (g2 := F0 m 5 ls [.ref (a 0)]) rfl ?_
  refine lv_astore_n (lv' := [(3, .ref (a 0)), (0, .ref h0), (1, .int (nI k)), (2, .int i)]) hx hb dX11_listed_5 rfl hl (by decide) rfl (fun ls hl => ?_)
  refine lv_aload_n hx hb dX11_listed_6 rfl (lv_at hl 0 rfl) ?_
  refine lv_ifnull hx hb dX11_listed_7 ?_
  refine lv_iload_n hx hb dX11_listed_10 rfl (lv_at hl 3 rfl) ?_
  refine lv_if_lt (tgt := 25) hx hb dX11_listed_11 (by decide) (fun c_11 => ?_) (fun c_11 => ?_)
  · refine lv_iconst (v := 0) hx hb dX11_listed_25 (by decide) ?_
    exact W.iret (v := 0) hx hb hr (fun tt ht hW => ⟨⟨0, (), rfl, rfl, ⟨by rw [ht]; exact hP.sub [] rfl, hD.sub [] rfl rfl⟩⟩, hS.F ht⟩) hS.2.2 dX11_listed_26
  · refine lv_iload_n hx hb dX11_listed_14 rfl (lv_at hl 3 rfl) ?_
    refine lv_aload_n hx hb dX11_listed_15 rfl (lv_at hl 0 rfl) ?_
    refine va_get (D := D) (ci := 1) (v := .ref (a 5)) (C := RX1) (T := TX1) (N := 9) hx hb hts hi_X1 hown hK hP 0 rfl rfl 2 (by decide) (hts (.fieldLink RX11 74 "BeamHouse$Device" "search" "LBeamHouse$Search;") (List.mem_of_getElem? (i := 7) rfl)) (fun _ h9 => h9) rfl dX11_listed_16 ?_
    refine va_get (D := D) (ci := 7) (v := .int 0) (C := RX7) (T := TX7) (N := 7) hx hb hts hi_X7 hown hK hP 1 rfl rfl 1 (by decide) (hts (.fieldLink RX11 83 "BeamHouse$Search" "found" "I") (List.mem_of_getElem? (i := 8) rfl)) (fun _ h9 => h9) rfl dX11_listed_19 ?_
    refine lv_icmp_lt (tgt := 27) hx hb dX11_listed_22 (by decide) (fun h => absurd h (fun h => absurd h c_11)) (fun _ => ?_)
    refine lv_iconst (v := 0) hx hb dX11_listed_25 (by decide) ?_
    exact W.iret (v := 0) hx hb hr (fun tt ht hW => ⟨⟨0, (), rfl, rfl, ⟨by rw [ht]; exact hP.sub [] rfl, hD.sub [] rfl rfl⟩⟩, hS.F ht⟩) hS.2.2 dX11_listed_26
def w_c_end_no : List Cond := .code yX11_end cX11_end 3 (some .int) :: (([.code yX11_deviceAt cX11_deviceAt 2 (some (.object "BeamHouse$Device")), .methodLink RX11 22 yX11_deviceAt, .instanceMethod yX11_deviceAt, .selects RX11 yX11_deviceAt yX11_deviceAt, .initialized RX11] : List Cond))
theorem g_c_end_no_c_deviceAt_no_22 : GoodIn w_c_end_no (wsV RX11 22 RX11 yX11_deviceAt w_c_deviceAt_no) := (goodIn_app (goodIn_r _ [2, 3, 4, 5] rfl rfl) (goodIn_r _ [1] rfl rfl))
set_option maxHeartbeats 4000000 in
set_option maxRecDepth 100000 in
theorem c_end_no (l : Launch) (D : va_G) (ca : Nat → ClassId) (sz : Nat) (h0 : Nat) (dv : Nat) (tp : Nat) (d : Int32) (hd : d < 0 ∨ 4 ≤ d) : Met l yX11_end w_c_end_no ({ frames := 1, cells := 0, slots := 0, locals := 21 }) (Pre D ca [.ref h0, .int d] [(h0, .inr (11, [.ref dv, .ref tp, .int 0]))] sz) (va_Qi (fun (r : Int32) (_ : Unit) => r = -1) (fun (_ : Unit) (tt : State) => Wd D (va_A [(h0, .inr (11, [.ref dv, .ref tp, .int 0]))] sz) [] tt) (va_A [(h0, .inr (11, [.ref dv, .ref tp, .int 0]))] sz)) 0 0 (va_A [(h0, .inr (11, [.ref dv, .ref tp, .int 0]))] sz) := by
  refine Met.ofW (cc := cX11_end) (maxL := 3) (ret := (some .int)) (by decide) rfl ?_
  intro p e s m args below meth c s₁ B hml hv
  obtain ⟨rfl, hsz, hP, hK, hD0, hN⟩ := hv
  have hx := B.exec
  have hb := B.bytes
  have hr := B.returns
  have hts := atoms_spec (ws := w_c_end_no) B.pre
  have hown : s.vm.findClass RX11 = some m.cls := findClass_of_methodNamed B.named
  have hlocks := B.notSynchronized
  subst hsz
  have hD := hD0.self (sz := s.heap.size)
  generalize hAe : va_A [(h0, .inr (11, [.ref dv, .ref tp, .int 0]))] s.heap.size = A at hD ⊢
  have hA : ∀ q : Nat, s.heap.size ≤ q → A q := fun q h => by rw [← hAe]; exact Or.inr h
  have hS : va_S A s.heap s.heap [] := va_S.rf
  have hP : va_P D vwCl [(h0, .inr (11, [.ref dv, .ref tp, .int 0]))] s.heap := hP
  have hl := lv_entry ([.ref h0, .int d]) (n := 3) (Nat.le_of_ble_eq_true rfl)
  rw [lg_entry_eq]
  generalize (lg_sl ([.ref h0, .int d]) ++ List.replicate (3 - (lg_sl ([.ref h0, .int d])).length) Slot.unset).toArray = ls at hl ⊢
  have hl : lv_has ls 3 [(0, .ref h0), (1, .int d)] := hl
  refine lv_aload_n hx hb dX11_end_0 rfl (lv_at hl 0 rfl) ?_
  refine lv_iload_n hx hb dX11_end_1 rfl (lv_at hl 1 rfl) ?_
  refine kGo_q (wr := []) (kRunV (As := [.int d]) (rest := []) ⟨hx, hb, hml, hown, hts⟩ (c_deviceAt_no l D ca _ h0 dv tp d hd) (cwV 1 hts g_c_end_no_c_deviceAt_no_22 rfl rfl rfl (by decide +kernel) ⟨Nat.le_of_ble_eq_true rfl, Nat.le_of_ble_eq_true rfl⟩) hK hN hP hD [0] rfl rfl rfl rfl rfl rfl hl.1 rfl (Nat.le_of_ble_eq_true rfl) dX11_end_2 ⟨Nat.le_of_ble_eq_true rfl, Nat.le_of_ble_eq_true rfl⟩) hP hD hS hA [0] [] rfl rfl rfl (by decide) (fun r_1 uu_ tt H locs hr_1 hB hj hS => ?_)
  have hWd := hB
  obtain ⟨hP, hD⟩ := hj _ hWd
  have hP : va_P D vwCl [(h0, .inr (11, [.ref dv, .ref tp, .int 0]))] H := hP
  have hD : va_D A [(h0, .inr (11, [.ref dv, .ref tp, .int 0]))] := hD
  subst hr_1
  refine W.eq (g2 := F0 m 5 ls [.null]) rfl ?_
  refine lv_astore_nN (lv' := [(2, .null), (0, .ref h0), (1, .int d)]) hx hb dX11_end_5 rfl hl (by decide) rfl (fun ls hl => ?_)
  refine lv_aload_nN hx hb dX11_end_6 rfl (lv_at hl 0 rfl) ?_
  refine lv_ifnonnullN hx hb dX11_end_7 ?_
  refine lv_iconst (v := (-1)) hx hb dX11_end_10 (by decide) ?_
  exact W.iret (v := (-1)) hx hb hr (fun tt ht hW => ⟨⟨(-1), (), rfl, rfl, ⟨by rw [ht]; exact hP.sub [] rfl, hD.sub [] rfl rfl⟩⟩, hS.F ht⟩) hS.2.2 dX11_end_11
def w_c_end_yes : List Cond := .code yX11_end cX11_end 3 (some .int) :: (([.code yX11_deviceAt cX11_deviceAt 2 (some (.object "BeamHouse$Device")), .fieldLink RX11 11 "BeamHouse" "devices" "[LBeamHouse$Device;", .methodLink RX11 22 yX11_deviceAt, .instanceMethod yX11_deviceAt, .selects RX11 yX11_deviceAt yX11_deviceAt, .initialized RX11, .fieldLink RX11 26 "BeamHouse$Device" "state" "I"] : List Cond) ++ wsX110 ++ wsX10)
theorem g_c_end_yes_c_deviceAt_yes_22 : GoodIn w_c_end_yes (wsV RX11 22 RX11 yX11_deviceAt w_c_deviceAt_yes) := (goodIn_app (goodIn_r _ [3, 4, 5, 6] rfl rfl) (goodIn_ca (goodIn_r _ [1, 2] rfl rfl) (goodIn_sub (fun _ h => List.mem_cons_of_mem _ (List.mem_append_left _ (List.mem_append_right _ h))) gw_X11)))
set_option maxHeartbeats 4000000 in
set_option maxRecDepth 100000 in
theorem c_end_yes (l : Launch) (D : va_G) (ca : Nat → ClassId) (sz : Nat) (h0 : Nat) (dv : Nat) (tp : Nat) (fd : Nat → Option Nat) (a : Nat → Nat) (k : Nat) (hk : k < 4) (hfd : fd k = some (a 0)) : Met l yX11_end w_c_end_yes ({ frames := 1, cells := 0, slots := 0, locals := 21 }) (Pre D ca [.ref h0, .int (nI k)] [(h0, .inr (11, [.ref dv, .ref tp, .int 0])), (dv, .inl (ca 2, 4, .inr (.inr (.inr (.inr fd))))), ((a 0), .inr (1, [.ref (a 1), .ref (a 4), .ref (a 5), .ref (a 6), .ref (a 8), .ref (a 10), .int 0, .int (nI (k + 1)), .int (nI k)]))] sz) (va_Qi (fun (r : Int32) (_ : Unit) => r = -2) (fun (_ : Unit) (tt : State) => Wd D (va_A [(h0, .inr (11, [.ref dv, .ref tp, .int 0])), (dv, .inl (ca 2, 4, .inr (.inr (.inr (.inr fd))))), ((a 0), .inr (1, [.ref (a 1), .ref (a 4), .ref (a 5), .ref (a 6), .ref (a 8), .ref (a 10), .int 0, .int (nI (k + 1)), .int (nI k)]))] sz) [] tt) (va_A [(h0, .inr (11, [.ref dv, .ref tp, .int 0])), (dv, .inl (ca 2, 4, .inr (.inr (.inr (.inr fd))))), ((a 0), .inr (1, [.ref (a 1), .ref (a 4), .ref (a 5), .ref (a 6), .ref (a 8), .ref (a 10), .int 0, .int (nI (k + 1)), .int (nI k)]))] sz)) 0 0 (va_A [(h0, .inr (11, [.ref dv, .ref tp, .int 0])), (dv, .inl (ca 2, 4, .inr (.inr (.inr (.inr fd))))), ((a 0), .inr (1, [.ref (a 1), .ref (a 4), .ref (a 5), .ref (a 6), .ref (a 8), .ref (a 10), .int 0, .int (nI (k + 1)), .int (nI k)]))] sz) := by
  refine Met.ofW (cc := cX11_end) (maxL := 3) (ret := (some .int)) (by decide) rfl ?_
  intro p e s m args below meth c s₁ B hml hv
  obtain ⟨rfl, hsz, hP, hK, hD0, hN⟩ := hv
  have hx := B.exec
  have hb := B.bytes
  have hr := B.returns
  have hts := atoms_spec (ws := w_c_end_yes) B.pre
  have hown : s.vm.findClass RX11 = some m.cls := findClass_of_methodNamed B.named
  have hlocks := B.notSynchronized
  have hi_X11 : ∀ w ∈ wsX110, w ∈ w_c_end_yes := fun _ h => List.mem_cons_of_mem _ (List.mem_append_left _ (List.mem_append_right _ h))
  have hi_X1 : ∀ w ∈ wsX10, w ∈ w_c_end_yes := fun _ h => List.mem_cons_of_mem _ (List.mem_append_right _ h)
  subst hsz
  have hD := hD0.self (sz := s.heap.size)
  generalize hAe : va_A [(h0, .inr (11, [.ref dv, .ref tp, .int 0])), (dv, .inl (ca 2, 4, .inr (.inr (.inr (.inr fd))))), ((a 0), .inr (1, [.ref (a 1), .ref (a 4), .ref (a 5), .ref (a 6), .ref (a 8), .ref (a 10), .int 0, .int (nI (k + 1)), .int (nI k)]))] s.heap.size = A at hD ⊢
  have hA : ∀ q : Nat, s.heap.size ≤ q → A q := fun q h => by rw [← hAe]; exact Or.inr h
  have hS : va_S A s.heap s.heap [] := va_S.rf
  have hP : va_P D vwCl [(h0, .inr (11, [.ref dv, .ref tp, .int 0])), (dv, .inl (ca 2, 4, .inr (.inr (.inr (.inr fd))))), ((a 0), .inr (1, [.ref (a 1), .ref (a 4), .ref (a 5), .ref (a 6), .ref (a 8), .ref (a 10), .int 0, .int (nI (k + 1)), .int (nI k)]))] s.heap := hP
  have hl := lv_entry ([.ref h0, .int (nI k)]) (n := 3) (Nat.le_of_ble_eq_true rfl)
  rw [lg_entry_eq]
  generalize (lg_sl ([.ref h0, .int (nI k)]) ++ List.replicate (3 - (lg_sl ([.ref h0, .int (nI k)])).length) Slot.unset).toArray = ls at hl ⊢
  have hl : lv_has ls 3 [(0, .ref h0), (1, .int (nI k))] := hl
  refine lv_aload_n hx hb dX11_end_0 rfl (lv_at hl 0 rfl) ?_
  refine lv_iload_n hx hb dX11_end_1 rfl (lv_at hl 1 rfl) ?_
  refine kGo_q (wr := [((a 0), .inr (1, [.ref (a 1), .ref (a 4), .ref (a 5), .ref (a 6), .ref (a 8), .ref (a 10), .int 0, .int (nI (k + 1)), .int (nI k)]))]) (kRunV (As := [.int (nI k)]) (rest := []) ⟨hx, hb, hml, hown, hts⟩ (c_deviceAt_yes l D ca _ h0 dv tp fd a k hk hfd) (cwV 1 hts g_c_end_yes_c_deviceAt_yes_22 rfl rfl rfl (by decide +kernel) ⟨Nat.le_of_ble_eq_true rfl, Nat.le_of_ble_eq_true rfl⟩) hK hN hP hD [0, 1] rfl rfl rfl rfl rfl rfl hl.1 rfl (Nat.le_of_ble_eq_true rfl) dX11_end_2 ⟨Nat.le_of_ble_eq_true rfl, Nat.le_of_ble_eq_true rfl⟩) hP hD hS hA [0, 1] [2] rfl rfl rfl (by decide) (fun r_1 uu_ tt H locs hr_1 hB hj hS => ?_)
  have hWd := hB
  obtain ⟨hP, hD⟩ := hj _ hWd
  have hP : va_P D vwCl [((a 0), .inr (1, [.ref (a 1), .ref (a 4), .ref (a 5), .ref (a 6), .ref (a 8), .ref (a 10), .int 0, .int (nI (k + 1)), .int (nI k)])), (h0, .inr (11, [.ref dv, .ref tp, .int 0])), (dv, .inl (ca 2, 4, .inr (.inr (.inr (.inr fd)))))] H := hP
  have hD : va_D A [((a 0), .inr (1, [.ref (a 1), .ref (a 4), .ref (a 5), .ref (a 6), .ref (a 8), .ref (a 10), .int 0, .int (nI (k + 1)), .int (nI k)])), (h0, .inr (11, [.ref dv, .ref tp, .int 0])), (dv, .inl (ca 2, 4, .inr (.inr (.inr (.inr fd)))))] := hD
  subst hr_1
  refine W.eq (g2 := F0 m 5 ls [.ref (a 0)]) rfl ?_
  refine lv_astore_n (lv' := [(2, .ref (a 0)), (0, .ref h0), (1, .int (nI k))]) hx hb dX11_end_5 rfl hl (by decide) rfl (fun ls hl => ?_)
  refine lv_aload_n hx hb dX11_end_6 rfl (lv_at hl 0 rfl) ?_
  refine lv_ifnonnull (tgt := 12) hx hb dX11_end_7 (by decide) ?_
  refine lv_aload_n hx hb dX11_end_12 rfl (lv_at hl 0 rfl) ?_
  refine va_get (D := D) (ci := 1) (v := .int 0) (C := RX1) (T := TX1) (N := 9) hx hb hts hi_X1 hown hK hP 0 rfl rfl 6 (by decide) (hts (.fieldLink RX11 26 "BeamHouse$Device" "state" "I") (List.mem_of_getElem? (i := 7) rfl)) (fun _ h9 => h9) rfl dX11_end_13 ?_
  refine lv_iconst (v := 3) hx hb dX11_end_16 (by decide) ?_
  refine lv_icmp_eq (tgt := 23) hx hb dX11_end_17 (by decide) (fun h => absurd h (by decide)) (fun _ => ?_)
  refine lv_bipush (v := (-2)) hx hb dX11_end_20 (by decide) ?_
  exact W.iret (v := (-2)) hx hb hr (fun tt ht hW => ⟨⟨(-2), (), rfl, rfl, ⟨by rw [ht]; exact hP.sub [] rfl, hD.sub [] rfl rfl⟩⟩, hS.F ht⟩) hS.2.2 dX11_end_22
def w_c_isLinked : List Cond := .code yX1_isLinked cX1_isLinked 1 (some .boolean) :: (([.fieldLink RX1 60 "BeamHouse$Device" "state" "I"] : List Cond) ++ wsX10)
set_option maxHeartbeats 4000000 in
set_option maxRecDepth 100000 in
theorem c_isLinked (l : Launch) (D : va_G) (ca : Nat → ClassId) (sz : Nat) (a : Nat → Nat) (k : Nat)  : Met l yX1_isLinked w_c_isLinked ({ frames := 0, cells := 0, slots := 0, locals := 0 }) (Pre D ca [.ref (a 0)] [((a 0), .inr (1, [.ref (a 1), .ref (a 4), .ref (a 5), .ref (a 6), .ref (a 8), .ref (a 10), .int 0, .int (nI (k + 1)), .int (nI k)]))] sz) (va_Qi (fun (r : Int32) (_ : Unit) => r = 0) (fun (_ : Unit) (tt : State) => Wd D (va_A [((a 0), .inr (1, [.ref (a 1), .ref (a 4), .ref (a 5), .ref (a 6), .ref (a 8), .ref (a 10), .int 0, .int (nI (k + 1)), .int (nI k)]))] sz) [((a 0), .inr (1, [.ref (a 1), .ref (a 4), .ref (a 5), .ref (a 6), .ref (a 8), .ref (a 10), .int 0, .int (nI (k + 1)), .int (nI k)]))] tt) (va_A [((a 0), .inr (1, [.ref (a 1), .ref (a 4), .ref (a 5), .ref (a 6), .ref (a 8), .ref (a 10), .int 0, .int (nI (k + 1)), .int (nI k)]))] sz)) 0 0 (va_A [((a 0), .inr (1, [.ref (a 1), .ref (a 4), .ref (a 5), .ref (a 6), .ref (a 8), .ref (a 10), .int 0, .int (nI (k + 1)), .int (nI k)]))] sz) := by
  refine Met.ofW (cc := cX1_isLinked) (maxL := 1) (ret := (some .boolean)) (by decide) rfl ?_
  intro p e s m args below meth c s₁ B hml hv
  obtain ⟨rfl, hsz, hP, hK, hD0, hN⟩ := hv
  have hx := B.exec
  have hb := B.bytes
  have hr := B.returns
  have hts := atoms_spec (ws := w_c_isLinked) B.pre
  have hown : s.vm.findClass RX1 = some m.cls := findClass_of_methodNamed B.named
  have hlocks := B.notSynchronized
  have hi_X1 : ∀ w ∈ wsX10, w ∈ w_c_isLinked := fun _ h => List.mem_cons_of_mem _ (List.mem_append_right _ h)
  subst hsz
  have hD := hD0.self (sz := s.heap.size)
  generalize hAe : va_A [((a 0), .inr (1, [.ref (a 1), .ref (a 4), .ref (a 5), .ref (a 6), .ref (a 8), .ref (a 10), .int 0, .int (nI (k + 1)), .int (nI k)]))] s.heap.size = A at hD ⊢
  have hA : ∀ q : Nat, s.heap.size ≤ q → A q := fun q h => by rw [← hAe]; exact Or.inr h
  have hS : va_S A s.heap s.heap [] := va_S.rf
  have hP : va_P D vwCl [((a 0), .inr (1, [.ref (a 1), .ref (a 4), .ref (a 5), .ref (a 6), .ref (a 8), .ref (a 10), .int 0, .int (nI (k + 1)), .int (nI k)]))] s.heap := hP
  have hl := lv_entry ([.ref (a 0)]) (n := 1) (Nat.le_of_ble_eq_true rfl)
  rw [lg_entry_eq]
  generalize (lg_sl ([.ref (a 0)]) ++ List.replicate (1 - (lg_sl ([.ref (a 0)])).length) Slot.unset).toArray = ls at hl ⊢
  have hl : lv_has ls 1 [(0, .ref (a 0))] := hl
  refine lv_aload_n hx hb dX1_isLinked_0 rfl (lv_at hl 0 rfl) ?_
  refine va_get (D := D) (ci := 1) (v := .int 0) (C := RX1) (T := TX1) (N := 9) hx hb hts hi_X1 hown hK hP 0 rfl rfl 6 (by decide) (hts (.fieldLink RX1 60 "BeamHouse$Device" "state" "I") (List.mem_of_getElem? (i := 1) rfl)) (fun _ h9 => h9) rfl dX1_isLinked_1 ?_
  refine lv_iconst (v := 3) hx hb dX1_isLinked_4 (by decide) ?_
  refine lv_icmp_eq (tgt := 16) hx hb dX1_isLinked_5 (by decide) (fun h => absurd h (by decide)) (fun _ => ?_)
  refine lv_aload_n hx hb dX1_isLinked_8 rfl (lv_at hl 0 rfl) ?_
  refine va_get (D := D) (ci := 1) (v := .int 0) (C := RX1) (T := TX1) (N := 9) hx hb hts hi_X1 hown hK hP 0 rfl rfl 6 (by decide) (hts (.fieldLink RX1 60 "BeamHouse$Device" "state" "I") (List.mem_of_getElem? (i := 1) rfl)) (fun _ h9 => h9) rfl dX1_isLinked_9 ?_
  refine lv_iconst (v := 4) hx hb dX1_isLinked_12 (by decide) ?_
  refine lv_icmp_ne (tgt := 20) hx hb dX1_isLinked_13 (by decide) (fun _ => ?_) (fun h => absurd h (by decide))
  refine lv_iconst (v := 0) hx hb dX1_isLinked_20 (by decide) ?_
  exact W.zret (v := 0) (ty := .boolean) hx hb hr rfl (fun tt ht hW => ⟨⟨0, (), rfl, rfl, ⟨by rw [ht]; exact hP.sub [0] rfl, hD.sub [0] rfl rfl⟩⟩, hS.F ht⟩) hS.2.2 dX1_isLinked_21
def w_c_mayAsk : List Cond := .code yX1_mayAsk cX1_mayAsk 1 (some .boolean) :: (([.code yX1_isLinked cX1_isLinked 1 (some .boolean), .fieldLink RX1 60 "BeamHouse$Device" "state" "I", .methodLink RX1 63 yX1_isLinked, .instanceMethod yX1_isLinked, .selects RX1 yX1_isLinked yX1_isLinked, .initialized RX1] : List Cond) ++ wsX10)
theorem g_c_mayAsk_c_isLinked_63 : GoodIn w_c_mayAsk (wsV RX1 63 RX1 yX1_isLinked w_c_isLinked) := (goodIn_app (goodIn_r _ [3, 4, 5, 6] rfl rfl) (goodIn_ca (goodIn_r _ [1, 2] rfl rfl) (goodIn_sub (fun _ h => List.mem_cons_of_mem _ (List.mem_append_right _ h)) gw_X1)))
set_option maxHeartbeats 4000000 in
set_option maxRecDepth 100000 in
theorem c_mayAsk (l : Launch) (D : va_G) (ca : Nat → ClassId) (sz : Nat) (a : Nat → Nat) (k : Nat)  : Met l yX1_mayAsk w_c_mayAsk ({ frames := 1, cells := 0, slots := 0, locals := 20 }) (Pre D ca [.ref (a 0)] [((a 0), .inr (1, [.ref (a 1), .ref (a 4), .ref (a 5), .ref (a 6), .ref (a 8), .ref (a 10), .int 0, .int (nI (k + 1)), .int (nI k)]))] sz) (va_Qi (fun (r : Int32) (_ : Unit) => r = 0) (fun (_ : Unit) (tt : State) => Wd D (va_A [((a 0), .inr (1, [.ref (a 1), .ref (a 4), .ref (a 5), .ref (a 6), .ref (a 8), .ref (a 10), .int 0, .int (nI (k + 1)), .int (nI k)]))] sz) [((a 0), .inr (1, [.ref (a 1), .ref (a 4), .ref (a 5), .ref (a 6), .ref (a 8), .ref (a 10), .int 0, .int (nI (k + 1)), .int (nI k)]))] tt) (va_A [((a 0), .inr (1, [.ref (a 1), .ref (a 4), .ref (a 5), .ref (a 6), .ref (a 8), .ref (a 10), .int 0, .int (nI (k + 1)), .int (nI k)]))] sz)) 0 0 (va_A [((a 0), .inr (1, [.ref (a 1), .ref (a 4), .ref (a 5), .ref (a 6), .ref (a 8), .ref (a 10), .int 0, .int (nI (k + 1)), .int (nI k)]))] sz) := by
  refine Met.ofW (cc := cX1_mayAsk) (maxL := 1) (ret := (some .boolean)) (by decide) rfl ?_
  intro p e s m args below meth c s₁ B hml hv
  obtain ⟨rfl, hsz, hP, hK, hD0, hN⟩ := hv
  have hx := B.exec
  have hb := B.bytes
  have hr := B.returns
  have hts := atoms_spec (ws := w_c_mayAsk) B.pre
  have hown : s.vm.findClass RX1 = some m.cls := findClass_of_methodNamed B.named
  have hlocks := B.notSynchronized
  have hi_X1 : ∀ w ∈ wsX10, w ∈ w_c_mayAsk := fun _ h => List.mem_cons_of_mem _ (List.mem_append_right _ h)
  subst hsz
  have hD := hD0.self (sz := s.heap.size)
  generalize hAe : va_A [((a 0), .inr (1, [.ref (a 1), .ref (a 4), .ref (a 5), .ref (a 6), .ref (a 8), .ref (a 10), .int 0, .int (nI (k + 1)), .int (nI k)]))] s.heap.size = A at hD ⊢
  have hA : ∀ q : Nat, s.heap.size ≤ q → A q := fun q h => by rw [← hAe]; exact Or.inr h
  have hS : va_S A s.heap s.heap [] := va_S.rf
  have hP : va_P D vwCl [((a 0), .inr (1, [.ref (a 1), .ref (a 4), .ref (a 5), .ref (a 6), .ref (a 8), .ref (a 10), .int 0, .int (nI (k + 1)), .int (nI k)]))] s.heap := hP
  have hl := lv_entry ([.ref (a 0)]) (n := 1) (Nat.le_of_ble_eq_true rfl)
  rw [lg_entry_eq]
  generalize (lg_sl ([.ref (a 0)]) ++ List.replicate (1 - (lg_sl ([.ref (a 0)])).length) Slot.unset).toArray = ls at hl ⊢
  have hl : lv_has ls 1 [(0, .ref (a 0))] := hl
  refine lv_aload_n hx hb dX1_mayAsk_0 rfl (lv_at hl 0 rfl) ?_
  refine kGo_i (wr := []) (kRunV (As := []) (rest := []) ⟨hx, hb, hml, hown, hts⟩ (c_isLinked l D ca _ a k) (cwV 0 hts g_c_mayAsk_c_isLinked_63 rfl rfl rfl (by decide +kernel) ⟨Nat.le_of_ble_eq_true rfl, Nat.le_of_ble_eq_true rfl⟩) hK hN hP hD [0] rfl rfl rfl rfl rfl rfl hl.1 rfl (Nat.le_of_ble_eq_true rfl) dX1_mayAsk_1 ⟨Nat.le_of_ble_eq_true rfl, Nat.le_of_ble_eq_true rfl⟩) hP hD hS hA [0] [] rfl rfl rfl (by decide) (fun r_1 uu_ tt H locs hr_1 hB hj hS => ?_)
  have hWd := hB
  obtain ⟨hP, hD⟩ := hj _ hWd
  have hP : va_P D vwCl [((a 0), .inr (1, [.ref (a 1), .ref (a 4), .ref (a 5), .ref (a 6), .ref (a 8), .ref (a 10), .int 0, .int (nI (k + 1)), .int (nI k)]))] H := hP
  have hD : va_D A [((a 0), .inr (1, [.ref (a 1), .ref (a 4), .ref (a 5), .ref (a 6), .ref (a 8), .ref (a 10), .int 0, .int (nI (k + 1)), .int (nI k)]))] := hD
  subst hr_1
  refine lv_if_eq (tgt := 22) hx hb dX1_mayAsk_4 (by decide) (fun _ => ?_) (fun h => absurd (by decide) h)
  refine lv_iconst (v := 0) hx hb dX1_mayAsk_22 (by decide) ?_
  exact W.zret (v := 0) (ty := .boolean) hx hb hr rfl (fun tt ht hW => ⟨⟨0, (), rfl, rfl, ⟨by rw [ht]; exact hP.sub [0] rfl, hD.sub [0] rfl rfl⟩⟩, hS.F ht⟩) hS.2.2 dX1_mayAsk_23
def w_c_put_no : List Cond := .code yX11_put cX11_put 7 (some .int) :: (([.code yX11_deviceAt cX11_deviceAt 2 (some (.object "BeamHouse$Device")), .methodLink RX11 22 yX11_deviceAt, .instanceMethod yX11_deviceAt, .selects RX11 yX11_deviceAt yX11_deviceAt, .initialized RX11] : List Cond))
theorem g_c_put_no_c_deviceAt_no_22 : GoodIn w_c_put_no (wsV RX11 22 RX11 yX11_deviceAt w_c_deviceAt_no) := (goodIn_app (goodIn_r _ [2, 3, 4, 5] rfl rfl) (goodIn_r _ [1] rfl rfl))
set_option maxHeartbeats 4000000 in
set_option maxRecDepth 100000 in
theorem c_put_no (l : Launch) (D : va_G) (ca : Nat → ClassId) (sz : Nat) (h0 : Nat) (dv : Nat) (tp : Nat) (d : Int32) (of : Int64) (n : Int32) (hd : d < 0 ∨ 4 ≤ d) : Met l yX11_put w_c_put_no ({ frames := 1, cells := 0, slots := 0, locals := 21 }) (Pre D ca [.ref h0, .int d, .long of, .int n] [(h0, .inr (11, [.ref dv, .ref tp, .int 0]))] sz) (va_Qi (fun (r : Int32) (_ : Unit) => r = -1) (fun (_ : Unit) (tt : State) => Wd D (va_A [(h0, .inr (11, [.ref dv, .ref tp, .int 0]))] sz) [] tt) (va_A [(h0, .inr (11, [.ref dv, .ref tp, .int 0]))] sz)) 0 0 (va_A [(h0, .inr (11, [.ref dv, .ref tp, .int 0]))] sz) := by
  refine Met.ofW (cc := cX11_put) (maxL := 7) (ret := (some .int)) (by decide) rfl ?_
  intro p e s m args below meth c s₁ B hml hv
  obtain ⟨rfl, hsz, hP, hK, hD0, hN⟩ := hv
  have hx := B.exec
  have hb := B.bytes
  have hr := B.returns
  have hts := atoms_spec (ws := w_c_put_no) B.pre
  have hown : s.vm.findClass RX11 = some m.cls := findClass_of_methodNamed B.named
  have hlocks := B.notSynchronized
  subst hsz
  have hD := hD0.self (sz := s.heap.size)
  generalize hAe : va_A [(h0, .inr (11, [.ref dv, .ref tp, .int 0]))] s.heap.size = A at hD ⊢
  have hA : ∀ q : Nat, s.heap.size ≤ q → A q := fun q h => by rw [← hAe]; exact Or.inr h
  have hS : va_S A s.heap s.heap [] := va_S.rf
  have hP : va_P D vwCl [(h0, .inr (11, [.ref dv, .ref tp, .int 0]))] s.heap := hP
  have hl := lv_entry ([.ref h0, .int d, .long of, .int n]) (n := 7) (Nat.le_of_ble_eq_true rfl)
  rw [lg_entry_eq]
  generalize (lg_sl ([.ref h0, .int d, .long of, .int n]) ++ List.replicate (7 - (lg_sl ([.ref h0, .int d, .long of, .int n])).length) Slot.unset).toArray = ls at hl ⊢
  have hl : lv_has ls 7 [(0, .ref h0), (1, .int d), (2, .long of), (4, .int n)] := hl
  refine lv_aload_n hx hb dX11_put_0 rfl (lv_at hl 0 rfl) ?_
  refine lv_iload_n hx hb dX11_put_1 rfl (lv_at hl 1 rfl) ?_
  refine kGo_q (wr := []) (kRunV (As := [.int d]) (rest := []) ⟨hx, hb, hml, hown, hts⟩ (c_deviceAt_no l D ca _ h0 dv tp d hd) (cwV 1 hts g_c_put_no_c_deviceAt_no_22 rfl rfl rfl (by decide +kernel) ⟨Nat.le_of_ble_eq_true rfl, Nat.le_of_ble_eq_true rfl⟩) hK hN hP hD [0] rfl rfl rfl rfl rfl rfl hl.1 rfl (Nat.le_of_ble_eq_true rfl) dX11_put_2 ⟨Nat.le_of_ble_eq_true rfl, Nat.le_of_ble_eq_true rfl⟩) hP hD hS hA [0] [] rfl rfl rfl (by decide) (fun r_1 uu_ tt H locs hr_1 hB hj hS => ?_)
  have hWd := hB
  obtain ⟨hP, hD⟩ := hj _ hWd
  have hP : va_P D vwCl [(h0, .inr (11, [.ref dv, .ref tp, .int 0]))] H := hP
  have hD : va_D A [(h0, .inr (11, [.ref dv, .ref tp, .int 0]))] := hD
  subst hr_1
  refine W.eq (g2 := F0 m 5 ls [.null]) rfl ?_
  refine lv_astoreN (lv' := [(5, .null), (0, .ref h0), (1, .int d), (2, .long of), (4, .int n)]) hx hb dX11_put_5 hl (by decide) rfl (fun ls hl => ?_)
  refine lv_aloadN hx hb dX11_put_7 (lv_at hl 0 rfl) ?_
  refine lv_ifnonnullN hx hb dX11_put_9 ?_
  refine lv_iconst (v := (-1)) hx hb dX11_put_12 (by decide) ?_
  exact W.iret (v := (-1)) hx hb hr (fun tt ht hW => ⟨⟨(-1), (), rfl, rfl, ⟨by rw [ht]; exact hP.sub [] rfl, hD.sub [] rfl rfl⟩⟩, hS.F ht⟩) hS.2.2 dX11_put_13
def w_c_put_yes : List Cond := .code yX11_put cX11_put 7 (some .int) :: (([.code yX11_deviceAt cX11_deviceAt 2 (some (.object "BeamHouse$Device")), .fieldLink RX11 11 "BeamHouse" "devices" "[LBeamHouse$Device;", .methodLink RX11 22 yX11_deviceAt, .instanceMethod yX11_deviceAt, .selects RX11 yX11_deviceAt yX11_deviceAt, .initialized RX11, .code yX1_mayAsk cX1_mayAsk 1 (some .boolean), .code yX1_isLinked cX1_isLinked 1 (some .boolean), .fieldLink RX1 60 "BeamHouse$Device" "state" "I", .methodLink RX1 63 yX1_isLinked, .instanceMethod yX1_isLinked, .selects RX1 yX1_isLinked yX1_isLinked, .initialized RX1, .methodLink RX11 143 yX1_mayAsk, .instanceMethod yX1_mayAsk, .selects RX1 yX1_mayAsk yX1_mayAsk] : List Cond) ++ wsX110 ++ wsX10)
theorem g_c_put_yes_c_deviceAt_yes_22 : GoodIn w_c_put_yes (wsV RX11 22 RX11 yX11_deviceAt w_c_deviceAt_yes) := (goodIn_app (goodIn_r _ [3, 4, 5, 6] rfl rfl) (goodIn_ca (goodIn_r _ [1, 2] rfl rfl) (goodIn_sub (fun _ h => List.mem_cons_of_mem _ (List.mem_append_left _ (List.mem_append_right _ h))) gw_X11)))
theorem g_c_put_yes_c_mayAsk_143 : GoodIn w_c_put_yes (wsV RX11 143 RX1 yX1_mayAsk w_c_mayAsk) := (goodIn_app (goodIn_r _ [14, 15, 16, 13] rfl rfl) (goodIn_ca (goodIn_r _ [7, 8, 9, 10, 11, 12, 13] rfl rfl) (goodIn_sub (fun _ h => List.mem_cons_of_mem _ (List.mem_append_right _ h)) gw_X1)))
set_option maxHeartbeats 4000000 in
set_option maxRecDepth 100000 in
theorem c_put_yes (l : Launch) (D : va_G) (ca : Nat → ClassId) (sz : Nat) (h0 : Nat) (dv : Nat) (tp : Nat) (fd : Nat → Option Nat) (a : Nat → Nat) (k : Nat) (of : Int64) (n : Int32) (hk : k < 4) (hfd : fd k = some (a 0)) : Met l yX11_put w_c_put_yes ({ frames := 2, cells := 0, slots := 0, locals := 40 }) (Pre D ca [.ref h0, .int (nI k), .long of, .int n] [(h0, .inr (11, [.ref dv, .ref tp, .int 0])), (dv, .inl (ca 2, 4, .inr (.inr (.inr (.inr fd))))), ((a 0), .inr (1, [.ref (a 1), .ref (a 4), .ref (a 5), .ref (a 6), .ref (a 8), .ref (a 10), .int 0, .int (nI (k + 1)), .int (nI k)]))] sz) (va_Qi (fun (r : Int32) (_ : Unit) => r = -2) (fun (_ : Unit) (tt : State) => Wd D (va_A [(h0, .inr (11, [.ref dv, .ref tp, .int 0])), (dv, .inl (ca 2, 4, .inr (.inr (.inr (.inr fd))))), ((a 0), .inr (1, [.ref (a 1), .ref (a 4), .ref (a 5), .ref (a 6), .ref (a 8), .ref (a 10), .int 0, .int (nI (k + 1)), .int (nI k)]))] sz) [] tt) (va_A [(h0, .inr (11, [.ref dv, .ref tp, .int 0])), (dv, .inl (ca 2, 4, .inr (.inr (.inr (.inr fd))))), ((a 0), .inr (1, [.ref (a 1), .ref (a 4), .ref (a 5), .ref (a 6), .ref (a 8), .ref (a 10), .int 0, .int (nI (k + 1)), .int (nI k)]))] sz)) 0 0 (va_A [(h0, .inr (11, [.ref dv, .ref tp, .int 0])), (dv, .inl (ca 2, 4, .inr (.inr (.inr (.inr fd))))), ((a 0), .inr (1, [.ref (a 1), .ref (a 4), .ref (a 5), .ref (a 6), .ref (a 8), .ref (a 10), .int 0, .int (nI (k + 1)), .int (nI k)]))] sz) := by
  refine Met.ofW (cc := cX11_put) (maxL := 7) (ret := (some .int)) (by decide) rfl ?_
  intro p e s m args below meth c s₁ B hml hv
  obtain ⟨rfl, hsz, hP, hK, hD0, hN⟩ := hv
  have hx := B.exec
  have hb := B.bytes
  have hr := B.returns
  have hts := atoms_spec (ws := w_c_put_yes) B.pre
  have hown : s.vm.findClass RX11 = some m.cls := findClass_of_methodNamed B.named
  have hlocks := B.notSynchronized
  have hi_X11 : ∀ w ∈ wsX110, w ∈ w_c_put_yes := fun _ h => List.mem_cons_of_mem _ (List.mem_append_left _ (List.mem_append_right _ h))
  have hi_X1 : ∀ w ∈ wsX10, w ∈ w_c_put_yes := fun _ h => List.mem_cons_of_mem _ (List.mem_append_right _ h)
  subst hsz
  have hD := hD0.self (sz := s.heap.size)
  generalize hAe : va_A [(h0, .inr (11, [.ref dv, .ref tp, .int 0])), (dv, .inl (ca 2, 4, .inr (.inr (.inr (.inr fd))))), ((a 0), .inr (1, [.ref (a 1), .ref (a 4), .ref (a 5), .ref (a 6), .ref (a 8), .ref (a 10), .int 0, .int (nI (k + 1)), .int (nI k)]))] s.heap.size = A at hD ⊢
  have hA : ∀ q : Nat, s.heap.size ≤ q → A q := fun q h => by rw [← hAe]; exact Or.inr h
  have hS : va_S A s.heap s.heap [] := va_S.rf
  have hP : va_P D vwCl [(h0, .inr (11, [.ref dv, .ref tp, .int 0])), (dv, .inl (ca 2, 4, .inr (.inr (.inr (.inr fd))))), ((a 0), .inr (1, [.ref (a 1), .ref (a 4), .ref (a 5), .ref (a 6), .ref (a 8), .ref (a 10), .int 0, .int (nI (k + 1)), .int (nI k)]))] s.heap := hP
  have hl := lv_entry ([.ref h0, .int (nI k), .long of, .int n]) (n := 7) (Nat.le_of_ble_eq_true rfl)
  rw [lg_entry_eq]
  generalize (lg_sl ([.ref h0, .int (nI k), .long of, .int n]) ++ List.replicate (7 - (lg_sl ([.ref h0, .int (nI k), .long of, .int n])).length) Slot.unset).toArray = ls at hl ⊢
  have hl : lv_has ls 7 [(0, .ref h0), (1, .int (nI k)), (2, .long of), (4, .int n)] := hl
  refine lv_aload_n hx hb dX11_put_0 rfl (lv_at hl 0 rfl) ?_
  refine lv_iload_n hx hb dX11_put_1 rfl (lv_at hl 1 rfl) ?_
  refine kGo_q (wr := [((a 0), .inr (1, [.ref (a 1), .ref (a 4), .ref (a 5), .ref (a 6), .ref (a 8), .ref (a 10), .int 0, .int (nI (k + 1)), .int (nI k)]))]) (kRunV (As := [.int (nI k)]) (rest := []) ⟨hx, hb, hml, hown, hts⟩ (c_deviceAt_yes l D ca _ h0 dv tp fd a k hk hfd) (cwV 1 hts g_c_put_yes_c_deviceAt_yes_22 rfl rfl rfl (by decide +kernel) ⟨Nat.le_of_ble_eq_true rfl, Nat.le_of_ble_eq_true rfl⟩) hK hN hP hD [0, 1] rfl rfl rfl rfl rfl rfl hl.1 rfl (Nat.le_of_ble_eq_true rfl) dX11_put_2 ⟨Nat.le_of_ble_eq_true rfl, Nat.le_of_ble_eq_true rfl⟩) hP hD hS hA [0, 1] [2] rfl rfl rfl (by decide) (fun r_1 uu_ tt H locs hr_1 hB hj hS => ?_)
  have hWd := hB
  obtain ⟨hP, hD⟩ := hj _ hWd
  have hP : va_P D vwCl [((a 0), .inr (1, [.ref (a 1), .ref (a 4), .ref (a 5), .ref (a 6), .ref (a 8), .ref (a 10), .int 0, .int (nI (k + 1)), .int (nI k)])), (h0, .inr (11, [.ref dv, .ref tp, .int 0])), (dv, .inl (ca 2, 4, .inr (.inr (.inr (.inr fd)))))] H := hP
  have hD : va_D A [((a 0), .inr (1, [.ref (a 1), .ref (a 4), .ref (a 5), .ref (a 6), .ref (a 8), .ref (a 10), .int 0, .int (nI (k + 1)), .int (nI k)])), (h0, .inr (11, [.ref dv, .ref tp, .int 0])), (dv, .inl (ca 2, 4, .inr (.inr (.inr (.inr fd)))))] := hD
  subst hr_1
  refine W.eq (g2 := F0 m 5 ls [.ref (a 0)]) rfl ?_
  refine lv_astore (lv' := [(5, .ref (a 0)), (0, .ref h0), (1, .int (nI k)), (2, .long of), (4, .int n)]) hx hb dX11_put_5 hl (by decide) rfl (fun ls hl => ?_)
  refine lv_aload hx hb dX11_put_7 (lv_at hl 0 rfl) ?_
  refine lv_ifnonnull (tgt := 14) hx hb dX11_put_9 (by decide) ?_
  refine lv_aload hx hb dX11_put_14 (lv_at hl 0 rfl) ?_
  refine kGo_i (wr := [(h0, .inr (11, [.ref dv, .ref tp, .int 0])), (dv, .inl (ca 2, 4, .inr (.inr (.inr (.inr fd)))))]) (kRunV (As := []) (rest := []) ⟨hx, hb, hml, hown, hts⟩ (c_mayAsk l D ca _ a k) (cwV 0 hts g_c_put_yes_c_mayAsk_143 rfl rfl rfl (by decide +kernel) ⟨Nat.le_of_ble_eq_true rfl, Nat.le_of_ble_eq_true rfl⟩) hK hN hP hD [0] rfl rfl rfl rfl rfl rfl hl.1 rfl (Nat.le_of_ble_eq_true rfl) dX11_put_16 ⟨Nat.le_of_ble_eq_true rfl, Nat.le_of_ble_eq_true rfl⟩) hP hD hS hA [0] [1, 2] rfl rfl rfl (by decide) (fun r_2 uu_ tt H locs hr_2 hB hj hS => ?_)
  have hWd := hB
  obtain ⟨hP, hD⟩ := hj _ hWd
  have hP : va_P D vwCl [(h0, .inr (11, [.ref dv, .ref tp, .int 0])), (dv, .inl (ca 2, 4, .inr (.inr (.inr (.inr fd))))), ((a 0), .inr (1, [.ref (a 1), .ref (a 4), .ref (a 5), .ref (a 6), .ref (a 8), .ref (a 10), .int 0, .int (nI (k + 1)), .int (nI k)]))] H := hP
  have hD : va_D A [(h0, .inr (11, [.ref dv, .ref tp, .int 0])), (dv, .inl (ca 2, 4, .inr (.inr (.inr (.inr fd))))), ((a 0), .inr (1, [.ref (a 1), .ref (a 4), .ref (a 5), .ref (a 6), .ref (a 8), .ref (a 10), .int 0, .int (nI (k + 1)), .int (nI k)]))] := hD
  subst hr_2
  refine lv_if_ne (tgt := 25) hx hb dX11_put_19 (by decide) (fun h => absurd (by decide) h) (fun _ => ?_)
  refine lv_bipush (v := (-2)) hx hb dX11_put_22 (by decide) ?_
  exact W.iret (v := (-2)) hx hb hr (fun tt ht hW => ⟨⟨(-2), (), rfl, rfl, ⟨by rw [ht]; exact hP.sub [] rfl, hD.sub [] rfl rfl⟩⟩, hS.F ht⟩) hS.2.2 dX11_put_24
def w_c_get_no : List Cond := .code yX11_get cX11_get 8 (some .int) :: (([.code yX11_deviceAt cX11_deviceAt 2 (some (.object "BeamHouse$Device")), .methodLink RX11 22 yX11_deviceAt, .instanceMethod yX11_deviceAt, .selects RX11 yX11_deviceAt yX11_deviceAt, .initialized RX11] : List Cond))
theorem g_c_get_no_c_deviceAt_no_22 : GoodIn w_c_get_no (wsV RX11 22 RX11 yX11_deviceAt w_c_deviceAt_no) := (goodIn_app (goodIn_r _ [2, 3, 4, 5] rfl rfl) (goodIn_r _ [1] rfl rfl))
set_option maxHeartbeats 4000000 in
set_option maxRecDepth 100000 in
theorem c_get_no (l : Launch) (D : va_G) (ca : Nat → ClassId) (sz : Nat) (h0 : Nat) (dv : Nat) (tp : Nat) (d : Int32) (of : Int64) (n : Int32) (hd : d < 0 ∨ 4 ≤ d) : Met l yX11_get w_c_get_no ({ frames := 1, cells := 0, slots := 0, locals := 21 }) (Pre D ca [.ref h0, .int d, .long of, .int n] [(h0, .inr (11, [.ref dv, .ref tp, .int 0]))] sz) (va_Qi (fun (r : Int32) (_ : Unit) => r = -1) (fun (_ : Unit) (tt : State) => Wd D (va_A [(h0, .inr (11, [.ref dv, .ref tp, .int 0]))] sz) [] tt) (va_A [(h0, .inr (11, [.ref dv, .ref tp, .int 0]))] sz)) 0 0 (va_A [(h0, .inr (11, [.ref dv, .ref tp, .int 0]))] sz) := by
  refine Met.ofW (cc := cX11_get) (maxL := 8) (ret := (some .int)) (by decide) rfl ?_
  intro p e s m args below meth c s₁ B hml hv
  obtain ⟨rfl, hsz, hP, hK, hD0, hN⟩ := hv
  have hx := B.exec
  have hb := B.bytes
  have hr := B.returns
  have hts := atoms_spec (ws := w_c_get_no) B.pre
  have hown : s.vm.findClass RX11 = some m.cls := findClass_of_methodNamed B.named
  have hlocks := B.notSynchronized
  subst hsz
  have hD := hD0.self (sz := s.heap.size)
  generalize hAe : va_A [(h0, .inr (11, [.ref dv, .ref tp, .int 0]))] s.heap.size = A at hD ⊢
  have hA : ∀ q : Nat, s.heap.size ≤ q → A q := fun q h => by rw [← hAe]; exact Or.inr h
  have hS : va_S A s.heap s.heap [] := va_S.rf
  have hP : va_P D vwCl [(h0, .inr (11, [.ref dv, .ref tp, .int 0]))] s.heap := hP
  have hl := lv_entry ([.ref h0, .int d, .long of, .int n]) (n := 8) (Nat.le_of_ble_eq_true rfl)
  rw [lg_entry_eq]
  generalize (lg_sl ([.ref h0, .int d, .long of, .int n]) ++ List.replicate (8 - (lg_sl ([.ref h0, .int d, .long of, .int n])).length) Slot.unset).toArray = ls at hl ⊢
  have hl : lv_has ls 8 [(0, .ref h0), (1, .int d), (2, .long of), (4, .int n)] := hl
  refine lv_aload_n hx hb dX11_get_0 rfl (lv_at hl 0 rfl) ?_
  refine lv_iload_n hx hb dX11_get_1 rfl (lv_at hl 1 rfl) ?_
  refine kGo_q (wr := []) (kRunV (As := [.int d]) (rest := []) ⟨hx, hb, hml, hown, hts⟩ (c_deviceAt_no l D ca _ h0 dv tp d hd) (cwV 1 hts g_c_get_no_c_deviceAt_no_22 rfl rfl rfl (by decide +kernel) ⟨Nat.le_of_ble_eq_true rfl, Nat.le_of_ble_eq_true rfl⟩) hK hN hP hD [0] rfl rfl rfl rfl rfl rfl hl.1 rfl (Nat.le_of_ble_eq_true rfl) dX11_get_2 ⟨Nat.le_of_ble_eq_true rfl, Nat.le_of_ble_eq_true rfl⟩) hP hD hS hA [0] [] rfl rfl rfl (by decide) (fun r_1 uu_ tt H locs hr_1 hB hj hS => ?_)
  have hWd := hB
  obtain ⟨hP, hD⟩ := hj _ hWd
  have hP : va_P D vwCl [(h0, .inr (11, [.ref dv, .ref tp, .int 0]))] H := hP
  have hD : va_D A [(h0, .inr (11, [.ref dv, .ref tp, .int 0]))] := hD
  subst hr_1
  refine W.eq (g2 := F0 m 5 ls [.null]) rfl ?_
  refine lv_astoreN (lv' := [(5, .null), (0, .ref h0), (1, .int d), (2, .long of), (4, .int n)]) hx hb dX11_get_5 hl (by decide) rfl (fun ls hl => ?_)
  refine lv_aloadN hx hb dX11_get_7 (lv_at hl 0 rfl) ?_
  refine lv_ifnonnullN hx hb dX11_get_9 ?_
  refine lv_iconst (v := (-1)) hx hb dX11_get_12 (by decide) ?_
  exact W.iret (v := (-1)) hx hb hr (fun tt ht hW => ⟨⟨(-1), (), rfl, rfl, ⟨by rw [ht]; exact hP.sub [] rfl, hD.sub [] rfl rfl⟩⟩, hS.F ht⟩) hS.2.2 dX11_get_13
def w_c_get_yes : List Cond := .code yX11_get cX11_get 8 (some .int) :: (([.code yX11_deviceAt cX11_deviceAt 2 (some (.object "BeamHouse$Device")), .fieldLink RX11 11 "BeamHouse" "devices" "[LBeamHouse$Device;", .methodLink RX11 22 yX11_deviceAt, .instanceMethod yX11_deviceAt, .selects RX11 yX11_deviceAt yX11_deviceAt, .initialized RX11, .code yX1_mayAsk cX1_mayAsk 1 (some .boolean), .code yX1_isLinked cX1_isLinked 1 (some .boolean), .fieldLink RX1 60 "BeamHouse$Device" "state" "I", .methodLink RX1 63 yX1_isLinked, .instanceMethod yX1_isLinked, .selects RX1 yX1_isLinked yX1_isLinked, .initialized RX1, .methodLink RX11 143 yX1_mayAsk, .instanceMethod yX1_mayAsk, .selects RX1 yX1_mayAsk yX1_mayAsk] : List Cond) ++ wsX110 ++ wsX10)
theorem g_c_get_yes_c_deviceAt_yes_22 : GoodIn w_c_get_yes (wsV RX11 22 RX11 yX11_deviceAt w_c_deviceAt_yes) := (goodIn_app (goodIn_r _ [3, 4, 5, 6] rfl rfl) (goodIn_ca (goodIn_r _ [1, 2] rfl rfl) (goodIn_sub (fun _ h => List.mem_cons_of_mem _ (List.mem_append_left _ (List.mem_append_right _ h))) gw_X11)))
theorem g_c_get_yes_c_mayAsk_143 : GoodIn w_c_get_yes (wsV RX11 143 RX1 yX1_mayAsk w_c_mayAsk) := (goodIn_app (goodIn_r _ [14, 15, 16, 13] rfl rfl) (goodIn_ca (goodIn_r _ [7, 8, 9, 10, 11, 12, 13] rfl rfl) (goodIn_sub (fun _ h => List.mem_cons_of_mem _ (List.mem_append_right _ h)) gw_X1)))
set_option maxHeartbeats 4000000 in
set_option maxRecDepth 100000 in
theorem c_get_yes (l : Launch) (D : va_G) (ca : Nat → ClassId) (sz : Nat) (h0 : Nat) (dv : Nat) (tp : Nat) (fd : Nat → Option Nat) (a : Nat → Nat) (k : Nat) (of : Int64) (n : Int32) (hk : k < 4) (hfd : fd k = some (a 0)) : Met l yX11_get w_c_get_yes ({ frames := 2, cells := 0, slots := 0, locals := 40 }) (Pre D ca [.ref h0, .int (nI k), .long of, .int n] [(h0, .inr (11, [.ref dv, .ref tp, .int 0])), (dv, .inl (ca 2, 4, .inr (.inr (.inr (.inr fd))))), ((a 0), .inr (1, [.ref (a 1), .ref (a 4), .ref (a 5), .ref (a 6), .ref (a 8), .ref (a 10), .int 0, .int (nI (k + 1)), .int (nI k)]))] sz) (va_Qi (fun (r : Int32) (_ : Unit) => r = -2) (fun (_ : Unit) (tt : State) => Wd D (va_A [(h0, .inr (11, [.ref dv, .ref tp, .int 0])), (dv, .inl (ca 2, 4, .inr (.inr (.inr (.inr fd))))), ((a 0), .inr (1, [.ref (a 1), .ref (a 4), .ref (a 5), .ref (a 6), .ref (a 8), .ref (a 10), .int 0, .int (nI (k + 1)), .int (nI k)]))] sz) [] tt) (va_A [(h0, .inr (11, [.ref dv, .ref tp, .int 0])), (dv, .inl (ca 2, 4, .inr (.inr (.inr (.inr fd))))), ((a 0), .inr (1, [.ref (a 1), .ref (a 4), .ref (a 5), .ref (a 6), .ref (a 8), .ref (a 10), .int 0, .int (nI (k + 1)), .int (nI k)]))] sz)) 0 0 (va_A [(h0, .inr (11, [.ref dv, .ref tp, .int 0])), (dv, .inl (ca 2, 4, .inr (.inr (.inr (.inr fd))))), ((a 0), .inr (1, [.ref (a 1), .ref (a 4), .ref (a 5), .ref (a 6), .ref (a 8), .ref (a 10), .int 0, .int (nI (k + 1)), .int (nI k)]))] sz) := by
  refine Met.ofW (cc := cX11_get) (maxL := 8) (ret := (some .int)) (by decide) rfl ?_
  intro p e s m args below meth c s₁ B hml hv
  obtain ⟨rfl, hsz, hP, hK, hD0, hN⟩ := hv
  have hx := B.exec
  have hb := B.bytes
  have hr := B.returns
  have hts := atoms_spec (ws := w_c_get_yes) B.pre
  have hown : s.vm.findClass RX11 = some m.cls := findClass_of_methodNamed B.named
  have hlocks := B.notSynchronized
  have hi_X11 : ∀ w ∈ wsX110, w ∈ w_c_get_yes := fun _ h => List.mem_cons_of_mem _ (List.mem_append_left _ (List.mem_append_right _ h))
  have hi_X1 : ∀ w ∈ wsX10, w ∈ w_c_get_yes := fun _ h => List.mem_cons_of_mem _ (List.mem_append_right _ h)
  subst hsz
  have hD := hD0.self (sz := s.heap.size)
  generalize hAe : va_A [(h0, .inr (11, [.ref dv, .ref tp, .int 0])), (dv, .inl (ca 2, 4, .inr (.inr (.inr (.inr fd))))), ((a 0), .inr (1, [.ref (a 1), .ref (a 4), .ref (a 5), .ref (a 6), .ref (a 8), .ref (a 10), .int 0, .int (nI (k + 1)), .int (nI k)]))] s.heap.size = A at hD ⊢
  have hA : ∀ q : Nat, s.heap.size ≤ q → A q := fun q h => by rw [← hAe]; exact Or.inr h
  have hS : va_S A s.heap s.heap [] := va_S.rf
  have hP : va_P D vwCl [(h0, .inr (11, [.ref dv, .ref tp, .int 0])), (dv, .inl (ca 2, 4, .inr (.inr (.inr (.inr fd))))), ((a 0), .inr (1, [.ref (a 1), .ref (a 4), .ref (a 5), .ref (a 6), .ref (a 8), .ref (a 10), .int 0, .int (nI (k + 1)), .int (nI k)]))] s.heap := hP
  have hl := lv_entry ([.ref h0, .int (nI k), .long of, .int n]) (n := 8) (Nat.le_of_ble_eq_true rfl)
  rw [lg_entry_eq]
  generalize (lg_sl ([.ref h0, .int (nI k), .long of, .int n]) ++ List.replicate (8 - (lg_sl ([.ref h0, .int (nI k), .long of, .int n])).length) Slot.unset).toArray = ls at hl ⊢
  have hl : lv_has ls 8 [(0, .ref h0), (1, .int (nI k)), (2, .long of), (4, .int n)] := hl
  refine lv_aload_n hx hb dX11_get_0 rfl (lv_at hl 0 rfl) ?_
  refine lv_iload_n hx hb dX11_get_1 rfl (lv_at hl 1 rfl) ?_
  refine kGo_q (wr := [((a 0), .inr (1, [.ref (a 1), .ref (a 4), .ref (a 5), .ref (a 6), .ref (a 8), .ref (a 10), .int 0, .int (nI (k + 1)), .int (nI k)]))]) (kRunV (As := [.int (nI k)]) (rest := []) ⟨hx, hb, hml, hown, hts⟩ (c_deviceAt_yes l D ca _ h0 dv tp fd a k hk hfd) (cwV 1 hts g_c_get_yes_c_deviceAt_yes_22 rfl rfl rfl (by decide +kernel) ⟨Nat.le_of_ble_eq_true rfl, Nat.le_of_ble_eq_true rfl⟩) hK hN hP hD [0, 1] rfl rfl rfl rfl rfl rfl hl.1 rfl (Nat.le_of_ble_eq_true rfl) dX11_get_2 ⟨Nat.le_of_ble_eq_true rfl, Nat.le_of_ble_eq_true rfl⟩) hP hD hS hA [0, 1] [2] rfl rfl rfl (by decide) (fun r_1 uu_ tt H locs hr_1 hB hj hS => ?_)
  have hWd := hB
  obtain ⟨hP, hD⟩ := hj _ hWd
  have hP : va_P D vwCl [((a 0), .inr (1, [.ref (a 1), .ref (a 4), .ref (a 5), .ref (a 6), .ref (a 8), .ref (a 10), .int 0, .int (nI (k + 1)), .int (nI k)])), (h0, .inr (11, [.ref dv, .ref tp, .int 0])), (dv, .inl (ca 2, 4, .inr (.inr (.inr (.inr fd)))))] H := hP
  have hD : va_D A [((a 0), .inr (1, [.ref (a 1), .ref (a 4), .ref (a 5), .ref (a 6), .ref (a 8), .ref (a 10), .int 0, .int (nI (k + 1)), .int (nI k)])), (h0, .inr (11, [.ref dv, .ref tp, .int 0])), (dv, .inl (ca 2, 4, .inr (.inr (.inr (.inr fd)))))] := hD
  subst hr_1
  refine W.eq (g2 := F0 m 5 ls [.ref (a 0)]) rfl ?_
  refine lv_astore (lv' := [(5, .ref (a 0)), (0, .ref h0), (1, .int (nI k)), (2, .long of), (4, .int n)]) hx hb dX11_get_5 hl (by decide) rfl (fun ls hl => ?_)
  refine lv_aload hx hb dX11_get_7 (lv_at hl 0 rfl) ?_
  refine lv_ifnonnull (tgt := 14) hx hb dX11_get_9 (by decide) ?_
  refine lv_aload hx hb dX11_get_14 (lv_at hl 0 rfl) ?_
  refine kGo_i (wr := [(h0, .inr (11, [.ref dv, .ref tp, .int 0])), (dv, .inl (ca 2, 4, .inr (.inr (.inr (.inr fd)))))]) (kRunV (As := []) (rest := []) ⟨hx, hb, hml, hown, hts⟩ (c_mayAsk l D ca _ a k) (cwV 0 hts g_c_get_yes_c_mayAsk_143 rfl rfl rfl (by decide +kernel) ⟨Nat.le_of_ble_eq_true rfl, Nat.le_of_ble_eq_true rfl⟩) hK hN hP hD [0] rfl rfl rfl rfl rfl rfl hl.1 rfl (Nat.le_of_ble_eq_true rfl) dX11_get_16 ⟨Nat.le_of_ble_eq_true rfl, Nat.le_of_ble_eq_true rfl⟩) hP hD hS hA [0] [1, 2] rfl rfl rfl (by decide) (fun r_2 uu_ tt H locs hr_2 hB hj hS => ?_)
  have hWd := hB
  obtain ⟨hP, hD⟩ := hj _ hWd
  have hP : va_P D vwCl [(h0, .inr (11, [.ref dv, .ref tp, .int 0])), (dv, .inl (ca 2, 4, .inr (.inr (.inr (.inr fd))))), ((a 0), .inr (1, [.ref (a 1), .ref (a 4), .ref (a 5), .ref (a 6), .ref (a 8), .ref (a 10), .int 0, .int (nI (k + 1)), .int (nI k)]))] H := hP
  have hD : va_D A [(h0, .inr (11, [.ref dv, .ref tp, .int 0])), (dv, .inl (ca 2, 4, .inr (.inr (.inr (.inr fd))))), ((a 0), .inr (1, [.ref (a 1), .ref (a 4), .ref (a 5), .ref (a 6), .ref (a 8), .ref (a 10), .int 0, .int (nI (k + 1)), .int (nI k)]))] := hD
  subst hr_2
  refine lv_if_ne (tgt := 25) hx hb dX11_get_19 (by decide) (fun h => absurd (by decide) h) (fun _ => ?_)
  refine lv_bipush (v := (-2)) hx hb dX11_get_22 (by decide) ?_
  exact W.iret (v := (-2)) hx hb hr (fun tt ht hW => ⟨⟨(-2), (), rfl, rfl, ⟨by rw [ht]; exact hP.sub [] rfl, hD.sub [] rfl rfl⟩⟩, hS.F ht⟩) hS.2.2 dX11_get_24

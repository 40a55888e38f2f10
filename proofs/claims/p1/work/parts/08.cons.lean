def w_c_Thing_init : List Cond := .code yX9_init cX9_init 1 none :: (([.methodLink RX9 3 objectInit, .instanceMethod objectInit, .code objectInit ⟨#[0xb1]⟩ 1 none, .arrayClass .int, .fieldLink RX9 9 "BeamHouse$Thing" "bytes" "[I"] : List Cond) ++ wsX90)
set_option maxHeartbeats 4000000 in
set_option maxRecDepth 100000 in
theorem c_Thing_init (l : Launch) (D : va_G) (ca : Nat → ClassId) (sz : Nat) (h0 : Nat)  : Met l yX9_init w_c_Thing_init ({ frames := 1, cells := 1, slots := 120, locals := 12 }) (Pre D ca [.ref h0] [(h0, .inr (9, [.null, .long 0, .int 0]))] sz) (va_Qv (fun _ : Unit => True) (fun (_ : Unit) (tt : State) => ∃ (b : Nat), Wd D (va_A [(h0, .inr (9, [.null, .long 0, .int 0]))] sz) [(h0, .inr (9, [.ref b, .long 0, .int 0])), (b, .inl (ca 0, 120, .inl (fun _ => 0)))] tt) (va_A [(h0, .inr (9, [.null, .long 0, .int 0]))] sz)) 1 120 (va_A [(h0, .inr (9, [.null, .long 0, .int 0]))] sz) := by
  refine Met.ofW (cc := cX9_init) (maxL := 1) (ret := none) (by decide) rfl ?_
  intro p e s m args below meth c s₁ B hml hv
  obtain ⟨rfl, hsz, hP, hK, hD0, hN⟩ := hv
  have hx := B.exec
  have hb := B.bytes
  have hr := B.returns
  have hts := atoms_spec (ws := w_c_Thing_init) B.pre
  have hown : s.vm.findClass RX9 = some m.cls := findClass_of_methodNamed B.named
  have hlocks := B.notSynchronized
  have hin : meth.name = "<init>" := (name_of_methodNamed B.named B.method).1
  have hi_X9 : ∀ w ∈ wsX90, w ∈ w_c_Thing_init := fun _ h => List.mem_cons_of_mem _ (List.mem_append_right _ h)
  subst hsz
  have hD := hD0.self (sz := s.heap.size)
  generalize hAe : va_A [(h0, .inr (9, [.null, .long 0, .int 0]))] s.heap.size = A at hD ⊢
  have hA : ∀ q : Nat, s.heap.size ≤ q → A q := fun q h => by rw [← hAe]; exact Or.inr h
  have hS : va_S A s.heap s.heap [] := va_S.rf
  have hP : va_P D vwCl [(h0, .inr (9, [.null, .long 0, .int 0]))] s.heap := hP
  have hl := lv_entry ([.ref h0]) (n := 1) (Nat.le_of_ble_eq_true rfl)
  rw [lg_entry_eq]
  generalize (lg_sl ([.ref h0]) ++ List.replicate (1 - (lg_sl ([.ref h0])).length) Slot.unset).toArray = ls at hl ⊢
  have hl : lv_has ls 1 [(0, .ref h0)] := hl
  refine lv_aload_n hx hb dX9_init_0 rfl (lv_at hl 0 rfl) ?_
  refine W.objInit hx hb hown (hts (.methodLink RX9 3 objectInit) (List.mem_of_getElem? (i := 1) rfl)) (hts (.instanceMethod objectInit) (List.mem_of_getElem? (i := 2) rfl)) (hts (.code objectInit ⟨#[0xb1]⟩ 1 none) (List.mem_of_getElem? (i := 3) rfl)) rfl (by rw [hml]; exact hl.1) rfl dX9_init_1 (Nat.le_of_ble_eq_true rfl) (Nat.le_of_ble_eq_true rfl) ?_
  refine W.eq (g2 := F0 m 4 ls []) rfl ?_
  refine lv_aload_n hx hb dX9_init_4 rfl (lv_at hl 0 rfl) ?_
  refine lv_bipush (v := 120) hx hb dX9_init_5 (by decide) ?_
  refine va_newa (atype := .int) (a0 := (120, .inl (fun _ => 0))) hx hb (hts (.arrayClass .int) (List.mem_of_getElem? (i := 4) rfl)) rfl hK hP hD hS hA (fun _ => rfl) (by decide) (by decide) (by decide) (Nat.le_of_ble_eq_true rfl) (Nat.le_of_ble_eq_true rfl) dX9_init_7 (fun q_1 cA H hK1 hP hD hS => ?_)
  obtain rfl := k_ca (ca := ca) hK1 0 rfl (Or.inl rfl)
  have hP : va_P D vwCl [(h0, .inr (9, [.null, .long 0, .int 0])), (q_1, .inl (ca 0, 120, .inl (fun _ => 0)))] H := hP
  have hD : va_D A [(h0, .inr (9, [.null, .long 0, .int 0])), (q_1, .inl (ca 0, 120, .inl (fun _ => 0)))] := hD
  refine W.widen (k := 1) (n := 120) (Nat.le_of_ble_eq_true rfl) (Nat.le_of_ble_eq_true rfl) ?_
  refine va_putF (D := D) (ci := 9) (v := .ref q_1) (ty := .array .int) (C := RX9) (T := TX9) (N := 3) hx hb hts hi_X9 tyX9 tyX9_ok nmX9 hown hK hP hD hS 0 rfl rfl 0 (by decide) (hts (.fieldLink RX9 9 "BeamHouse$Thing" "bytes" "[I") (List.mem_of_getElem? (i := 5) rfl)) (fun _ h9 => h9) rfl hin rfl (by decide +kernel) rfl rfl (Nat.le_of_ble_eq_true rfl) dX9_init_9 (fun H locs hP hD hS => ?_)
  have hP : va_P D vwCl [(h0, .inr (9, [.ref q_1, .long 0, .int 0])), (q_1, .inl (ca 0, 120, .inl (fun _ => 0)))] H := hP
  have hD : va_D A [(h0, .inr (9, [.ref q_1, .long 0, .int 0])), (q_1, .inl (ca 0, 120, .inl (fun _ => 0)))] := hD
  exact W.vret hx hb hr (fun tt ht hW => ⟨⟨(), rfl, trivial, ⟨q_1, ⟨by rw [ht]; exact hP.sub [0, 1] rfl, hD.sub [0, 1] rfl rfl⟩⟩⟩, hS.F ht⟩) hS.2.2 dX9_init_12
def w_c_Row_init : List Cond := .code yX6_init cX6_init 1 none :: (([.methodLink RX6 3 objectInit, .instanceMethod objectInit, .code objectInit ⟨#[0xb1]⟩ 1 none, .arrayClass .int, .fieldLink RX6 9 "BeamHouse$Row" "bytes" "[I"] : List Cond) ++ wsX60)
set_option maxHeartbeats 4000000 in
set_option maxRecDepth 100000 in
theorem c_Row_init (l : Launch) (D : va_G) (ca : Nat → ClassId) (sz : Nat) (h0 : Nat)  : Met l yX6_init w_c_Row_init ({ frames := 1, cells := 1, slots := 60, locals := 12 }) (Pre D ca [.ref h0] [(h0, .inr (6, [.null, .int 0, .long 0, .int 0, .int 0, .int 0, .int 0]))] sz) (va_Qv (fun _ : Unit => True) (fun (_ : Unit) (tt : State) => Wd D (va_A [(h0, .inr (6, [.null, .int 0, .long 0, .int 0, .int 0, .int 0, .int 0]))] sz) [] tt) (va_A [(h0, .inr (6, [.null, .int 0, .long 0, .int 0, .int 0, .int 0, .int 0]))] sz)) 1 60 (va_A [(h0, .inr (6, [.null, .int 0, .long 0, .int 0, .int 0, .int 0, .int 0]))] sz) := by
  refine Met.ofW (cc := cX6_init) (maxL := 1) (ret := none) (by decide) rfl ?_
  intro p e s m args below meth c s₁ B hml hv
  obtain ⟨rfl, hsz, hP, hK, hD0, hN⟩ := hv
  have hx := B.exec
  have hb := B.bytes
  have hr := B.returns
  have hts := atoms_spec (ws := w_c_Row_init) B.pre
  have hown : s.vm.findClass RX6 = some m.cls := findClass_of_methodNamed B.named
  have hlocks := B.notSynchronized
  have hin : meth.name = "<init>" := (name_of_methodNamed B.named B.method).1
  have hi_X6 : ∀ w ∈ wsX60, w ∈ w_c_Row_init := fun _ h => List.mem_cons_of_mem _ (List.mem_append_right _ h)
  subst hsz
  have hD := hD0.self (sz := s.heap.size)
  generalize hAe : va_A [(h0, .inr (6, [.null, .int 0, .long 0, .int 0, .int 0, .int 0, .int 0]))] s.heap.size = A at hD ⊢
  have hA : ∀ q : Nat, s.heap.size ≤ q → A q := fun q h => by rw [← hAe]; exact Or.inr h
  have hS : va_S A s.heap s.heap [] := va_S.rf
  have hP : va_P D vwCl [(h0, .inr (6, [.null, .int 0, .long 0, .int 0, .int 0, .int 0, .int 0]))] s.heap := hP
  have hl := lv_entry ([.ref h0]) (n := 1) (Nat.le_of_ble_eq_true rfl)
  rw [lg_entry_eq]
  generalize (lg_sl ([.ref h0]) ++ List.replicate (1 - (lg_sl ([.ref h0])).length) Slot.unset).toArray = ls at hl ⊢
  have hl : lv_has ls 1 [(0, .ref h0)] := hl
  refine lv_aload_n hx hb dX6_init_0 rfl (lv_at hl 0 rfl) ?_
  refine W.objInit hx hb hown (hts (.methodLink RX6 3 objectInit) (List.mem_of_getElem? (i := 1) rfl)) (hts (.instanceMethod objectInit) (List.mem_of_getElem? (i := 2) rfl)) (hts (.code objectInit ⟨#[0xb1]⟩ 1 none) (List.mem_of_getElem? (i := 3) rfl)) rfl (by rw [hml]; exact hl.1) rfl dX6_init_1 (Nat.le_of_ble_eq_true rfl) (Nat.le_of_ble_eq_true rfl) ?_
  refine W.eq (g2 := F0 m 4 ls []) rfl ?_
  refine lv_aload_n hx hb dX6_init_4 rfl (lv_at hl 0 rfl) ?_
  refine lv_bipush (v := 60) hx hb dX6_init_5 (by decide) ?_
  refine va_newa (atype := .int) (a0 := (60, .inl (fun _ => 0))) hx hb (hts (.arrayClass .int) (List.mem_of_getElem? (i := 4) rfl)) rfl hK hP hD hS hA (fun _ => rfl) (by decide) (by decide) (by decide) (Nat.le_of_ble_eq_true rfl) (Nat.le_of_ble_eq_true rfl) dX6_init_7 (fun q_1 cA H hK1 hP hD hS => ?_)
  obtain rfl := k_ca (ca := ca) hK1 0 rfl (Or.inl rfl)
  have hP : va_P D vwCl [(h0, .inr (6, [.null, .int 0, .long 0, .int 0, .int 0, .int 0, .int 0])), (q_1, .inl (ca 0, 60, .inl (fun _ => 0)))] H := hP
  have hD : va_D A [(h0, .inr (6, [.null, .int 0, .long 0, .int 0, .int 0, .int 0, .int 0])), (q_1, .inl (ca 0, 60, .inl (fun _ => 0)))] := hD
  refine W.widen (k := 1) (n := 60) (Nat.le_of_ble_eq_true rfl) (Nat.le_of_ble_eq_true rfl) ?_
  refine va_putF (D := D) (ci := 6) (v := .ref q_1) (ty := .array .int) (C := RX6) (T := TX6) (N := 7) hx hb hts hi_X6 tyX6 tyX6_ok nmX6 hown hK hP hD hS 0 rfl rfl 0 (by decide) (hts (.fieldLink RX6 9 "BeamHouse$Row" "bytes" "[I") (List.mem_of_getElem? (i := 5) rfl)) (fun _ h9 => h9) rfl hin rfl (by decide +kernel) rfl rfl (Nat.le_of_ble_eq_true rfl) dX6_init_9 (fun H locs hP hD hS => ?_)
  have hP : va_P D vwCl [(h0, .inr (6, [.ref q_1, .int 0, .long 0, .int 0, .int 0, .int 0, .int 0])), (q_1, .inl (ca 0, 60, .inl (fun _ => 0)))] H := hP
  have hD : va_D A [(h0, .inr (6, [.ref q_1, .int 0, .long 0, .int 0, .int 0, .int 0, .int 0])), (q_1, .inl (ca 0, 60, .inl (fun _ => 0)))] := hD
  exact W.vret hx hb hr (fun tt ht hW => ⟨⟨(), rfl, trivial, ⟨by rw [ht]; exact hP.sub [] rfl, hD.sub [] rfl rfl⟩⟩, hS.F ht⟩) hS.2.2 dX6_init_12
def w_c_Queue_init_24 : List Cond := .code yX5_init cX5_init 3 none :: (([.methodLink RX5 1 objectInit, .instanceMethod objectInit, .code objectInit ⟨#[0xb1]⟩ 1 none, .fieldLink RX5 7 "BeamHouse$Queue" "most" "I", .fieldLink RX5 13 "BeamHouse$Queue" "width" "I", .methodLink RX5 16 Lib.Math.max.name, .static Lib.Math.max.name, .initialized "java/lang/Math", .code Lib.Math.max.name Lib.Math.max.code 2 (some .int), .arrayClass .int, .fieldLink RX5 22 "BeamHouse$Queue" "bytes" "[I", .fieldLink RX5 26 "BeamHouse$Queue" "lengths" "[I"] : List Cond) ++ wsX50)
set_option maxHeartbeats 4000000 in
set_option maxRecDepth 100000 in
theorem c_Queue_init_24 (l : Launch) (D : va_G) (ca : Nat → ClassId) (sz : Nat) (h0 : Nat)  : Met l yX5_init w_c_Queue_init_24 ({ frames := 1, cells := 2, slots := 792, locals := 15 }) (Pre D ca [.ref h0, .int 24, .int 32] [(h0, .inr (5, [.int 0, .int 0, .int 0, .null, .null, .int 0]))] sz) (va_Qv (fun _ : Unit => True) (fun (_ : Unit) (tt : State) => ∃ (b : Nat) (g : Nat), Wd D (va_A [(h0, .inr (5, [.int 0, .int 0, .int 0, .null, .null, .int 0]))] sz) [(h0, .inr (5, [.int 0, .int 24, .int 32, .ref b, .ref g, .int 0]))] tt) (va_A [(h0, .inr (5, [.int 0, .int 0, .int 0, .null, .null, .int 0]))] sz)) 2 792 (va_A [(h0, .inr (5, [.int 0, .int 0, .int 0, .null, .null, .int 0]))] sz) := by
  refine Met.ofW (cc := cX5_init) (maxL := 3) (ret := none) (by decide) rfl ?_
  intro p e s m args below meth c s₁ B hml hv
  obtain ⟨rfl, hsz, hP, hK, hD0, hN⟩ := hv
  have hx := B.exec
  have hb := B.bytes
  have hr := B.returns
  have hts := atoms_spec (ws := w_c_Queue_init_24) B.pre
  have hown : s.vm.findClass RX5 = some m.cls := findClass_of_methodNamed B.named
  have hlocks := B.notSynchronized
  have hin : meth.name = "<init>" := (name_of_methodNamed B.named B.method).1
  have hi_X5 : ∀ w ∈ wsX50, w ∈ w_c_Queue_init_24 := fun _ h => List.mem_cons_of_mem _ (List.mem_append_right _ h)
  subst hsz
  have hD := hD0.self (sz := s.heap.size)
  generalize hAe : va_A [(h0, .inr (5, [.int 0, .int 0, .int 0, .null, .null, .int 0]))] s.heap.size = A at hD ⊢
  have hA : ∀ q : Nat, s.heap.size ≤ q → A q := fun q h => by rw [← hAe]; exact Or.inr h
  have hS : va_S A s.heap s.heap [] := va_S.rf
  have hP : va_P D vwCl [(h0, .inr (5, [.int 0, .int 0, .int 0, .null, .null, .int 0]))] s.heap := hP
  have hl := lv_entry ([.ref h0, .int 24, .int 32]) (n := 3) (Nat.le_of_ble_eq_true rfl)
  rw [lg_entry_eq]
  generalize (lg_sl ([.ref h0, .int 24, .int 32]) ++ List.replicate (3 - (lg_sl ([.ref h0, .int 24, .int 32])).length) Slot.unset).toArray = ls at hl ⊢
  have hl : lv_has ls 3 [(0, .ref h0), (1, .int 24), (2, .int 32)] := hl
  refine lv_aload_n hx hb dX5_init_0 rfl (lv_at hl 0 rfl) ?_
  refine W.objInit hx hb hown (hts (.methodLink RX5 1 objectInit) (List.mem_of_getElem? (i := 1) rfl)) (hts (.instanceMethod objectInit) (List.mem_of_getElem? (i := 2) rfl)) (hts (.code objectInit ⟨#[0xb1]⟩ 1 none) (List.mem_of_getElem? (i := 3) rfl)) rfl (by rw [hml]; exact hl.1) rfl dX5_init_1 (Nat.le_of_ble_eq_true rfl) (Nat.le_of_ble_eq_true rfl) ?_
  refine W.eq (g2 := F0 m 4 ls []) rfl ?_
  refine lv_aload_n hx hb dX5_init_4 rfl (lv_at hl 0 rfl) ?_
  refine lv_iload_n hx hb dX5_init_5 rfl (lv_at hl 1 rfl) ?_
  refine va_putF (D := D) (ci := 5) (v := .int 24) (ty := .int) (C := RX5) (T := TX5) (N := 6) hx hb hts hi_X5 tyX5 tyX5_ok nmX5 hown hK hP hD hS 0 rfl rfl 1 (by decide) (hts (.fieldLink RX5 7 "BeamHouse$Queue" "most" "I") (List.mem_of_getElem? (i := 4) rfl)) (fun _ h9 => h9) rfl hin rfl (by decide +kernel) rfl rfl (Nat.le_of_ble_eq_true rfl) dX5_init_6 (fun H locs hP hD hS => ?_)
  have hP : va_P D vwCl [(h0, .inr (5, [.int 0, .int 24, .int 0, .null, .null, .int 0]))] H := hP
  have hD : va_D A [(h0, .inr (5, [.int 0, .int 24, .int 0, .null, .null, .int 0]))] := hD
  refine lv_aload_n hx hb dX5_init_9 rfl (lv_at hl 0 rfl) ?_
  refine lv_iload_n hx hb dX5_init_10 rfl (lv_at hl 2 rfl) ?_
  refine va_putF (D := D) (ci := 5) (v := .int 32) (ty := .int) (C := RX5) (T := TX5) (N := 6) hx hb hts hi_X5 tyX5 tyX5_ok nmX5 hown hK hP hD hS 0 rfl rfl 2 (by decide) (hts (.fieldLink RX5 13 "BeamHouse$Queue" "width" "I") (List.mem_of_getElem? (i := 5) rfl)) (fun _ h9 => h9) rfl hin rfl (by decide +kernel) rfl rfl (Nat.le_of_ble_eq_true rfl) dX5_init_11 (fun H locs hP hD hS => ?_)
  have hP : va_P D vwCl [(h0, .inr (5, [.int 0, .int 24, .int 32, .null, .null, .int 0]))] H := hP
  have hD : va_D A [(h0, .inr (5, [.int 0, .int 24, .int 32, .null, .null, .int 0]))] := hD
  refine lv_aload_n hx hb dX5_init_14 rfl (lv_at hl 0 rfl) ?_
  refine lv_iconst (v := 0) hx hb dX5_init_15 (by decide) ?_
  refine lv_iload_n hx hb dX5_init_16 rfl (lv_at hl 1 rfl) ?_
  refine lv_iload_n hx hb dX5_init_17 rfl (lv_at hl 2 rfl) ?_
  refine lv_imul hx hb dX5_init_18 ?_
  refine lv_topn 768 (by decide) ?_
  refine va_mmax hx hb (by rw [hml]; exact hl.1.symm) hown (hts (.methodLink RX5 16 Lib.Math.max.name) (List.mem_of_getElem? (i := 6) rfl)) (hts (.static Lib.Math.max.name) (List.mem_of_getElem? (i := 7) rfl)) (hts (.initialized "java/lang/Math") (List.mem_of_getElem? (i := 8) rfl)) (hts (.code Lib.Math.max.name Lib.Math.max.code 2 (some .int)) (List.mem_of_getElem? (i := 9) rfl)) (Nat.le_of_ble_eq_true rfl) (Nat.le_of_ble_eq_true rfl) (Nat.le_of_ble_eq_true rfl) (Nat.le_of_ble_eq_true rfl) dX5_init_19 ?_
  refine lv_topn 768 (by decide) ?_
  refine va_newa (atype := .int) (a0 := (768, .inl (fun _ => 0))) hx hb (hts (.arrayClass .int) (List.mem_of_getElem? (i := 10) rfl)) rfl hK hP hD hS hA (fun _ => rfl) (by decide) (by decide) (by decide) (Nat.le_of_ble_eq_true rfl) (Nat.le_of_ble_eq_true rfl) dX5_init_22 (fun q_1 cA H hK1 hP hD hS => ?_)
  obtain rfl := k_ca (ca := ca) hK1 0 rfl (Or.inl rfl)
  have hP : va_P D vwCl [(h0, .inr (5, [.int 0, .int 24, .int 32, .null, .null, .int 0])), (q_1, .inl (ca 0, 768, .inl (fun _ => 0)))] H := hP
  have hD : va_D A [(h0, .inr (5, [.int 0, .int 24, .int 32, .null, .null, .int 0])), (q_1, .inl (ca 0, 768, .inl (fun _ => 0)))] := hD
  refine W.widen (k := 1) (n := 768) (Nat.le_of_ble_eq_true rfl) (Nat.le_of_ble_eq_true rfl) ?_
  refine va_putF (D := D) (ci := 5) (v := .ref q_1) (ty := .array .int) (C := RX5) (T := TX5) (N := 6) hx hb hts hi_X5 tyX5 tyX5_ok nmX5 hown hK hP hD hS 0 rfl rfl 3 (by decide) (hts (.fieldLink RX5 22 "BeamHouse$Queue" "bytes" "[I") (List.mem_of_getElem? (i := 11) rfl)) (fun _ h9 => h9) rfl hin rfl (by decide +kernel) rfl rfl (Nat.le_of_ble_eq_true rfl) dX5_init_24 (fun H locs hP hD hS => ?_)
  have hP : va_P D vwCl [(h0, .inr (5, [.int 0, .int 24, .int 32, .ref q_1, .null, .int 0])), (q_1, .inl (ca 0, 768, .inl (fun _ => 0)))] H := hP
  have hD : va_D A [(h0, .inr (5, [.int 0, .int 24, .int 32, .ref q_1, .null, .int 0])), (q_1, .inl (ca 0, 768, .inl (fun _ => 0)))] := hD
  refine lv_aload_n hx hb dX5_init_27 rfl (lv_at hl 0 rfl) ?_
  refine lv_iconst (v := 0) hx hb dX5_init_28 (by decide) ?_
  refine lv_iload_n hx hb dX5_init_29 rfl (lv_at hl 1 rfl) ?_
  refine va_mmax hx hb (by rw [hml]; exact hl.1.symm) hown (hts (.methodLink RX5 16 Lib.Math.max.name) (List.mem_of_getElem? (i := 6) rfl)) (hts (.static Lib.Math.max.name) (List.mem_of_getElem? (i := 7) rfl)) (hts (.initialized "java/lang/Math") (List.mem_of_getElem? (i := 8) rfl)) (hts (.code Lib.Math.max.name Lib.Math.max.code 2 (some .int)) (List.mem_of_getElem? (i := 9) rfl)) (Nat.le_of_ble_eq_true rfl) (Nat.le_of_ble_eq_true rfl) (Nat.le_of_ble_eq_true rfl) (Nat.le_of_ble_eq_true rfl) dX5_init_30 ?_
  refine lv_topn 24 (by decide) ?_
  refine va_newa (atype := .int) (a0 := (24, .inl (fun _ => 0))) hx hb (hts (.arrayClass .int) (List.mem_of_getElem? (i := 10) rfl)) rfl hK hP hD hS hA (fun _ => rfl) (by decide) (by decide) (by decide) (Nat.le_of_ble_eq_true rfl) (Nat.le_of_ble_eq_true rfl) dX5_init_33 (fun q_2 cA H hK1 hP hD hS => ?_)
  obtain rfl := k_ca (ca := ca) hK1 0 rfl (Or.inl rfl)
  have hP : va_P D vwCl [(h0, .inr (5, [.int 0, .int 24, .int 32, .ref q_1, .null, .int 0])), (q_1, .inl (ca 0, 768, .inl (fun _ => 0))), (q_2, .inl (ca 0, 24, .inl (fun _ => 0)))] H := hP
  have hD : va_D A [(h0, .inr (5, [.int 0, .int 24, .int 32, .ref q_1, .null, .int 0])), (q_1, .inl (ca 0, 768, .inl (fun _ => 0))), (q_2, .inl (ca 0, 24, .inl (fun _ => 0)))] := hD
  refine W.widen (k := 2) (n := 792) (Nat.le_of_ble_eq_true rfl) (Nat.le_of_ble_eq_true rfl) ?_
  refine va_putF (D := D) (ci := 5) (v := .ref q_2) (ty := .array .int) (C := RX5) (T := TX5) (N := 6) hx hb hts hi_X5 tyX5 tyX5_ok nmX5 hown hK hP hD hS 0 rfl rfl 4 (by decide) (hts (.fieldLink RX5 26 "BeamHouse$Queue" "lengths" "[I") (List.mem_of_getElem? (i := 12) rfl)) (fun _ h9 => h9) rfl hin rfl (by decide +kernel) rfl rfl (Nat.le_of_ble_eq_true rfl) dX5_init_35 (fun H locs hP hD hS => ?_)
  have hP : va_P D vwCl [(h0, .inr (5, [.int 0, .int 24, .int 32, .ref q_1, .ref q_2, .int 0])), (q_1, .inl (ca 0, 768, .inl (fun _ => 0))), (q_2, .inl (ca 0, 24, .inl (fun _ => 0)))] H := hP
  have hD : va_D A [(h0, .inr (5, [.int 0, .int 24, .int 32, .ref q_1, .ref q_2, .int 0])), (q_1, .inl (ca 0, 768, .inl (fun _ => 0))), (q_2, .inl (ca 0, 24, .inl (fun _ => 0)))] := hD
  exact W.vret hx hb hr (fun tt ht hW => ⟨⟨(), rfl, trivial, ⟨q_1, q_2, ⟨by rw [ht]; exact hP.sub [0] rfl, hD.sub [0] rfl rfl⟩⟩⟩, hS.F ht⟩) hS.2.2 dX5_init_38
def w_c_Queue_init_8 : List Cond := .code yX5_init cX5_init 3 none :: (([.methodLink RX5 1 objectInit, .instanceMethod objectInit, .code objectInit ⟨#[0xb1]⟩ 1 none, .fieldLink RX5 7 "BeamHouse$Queue" "most" "I", .fieldLink RX5 13 "BeamHouse$Queue" "width" "I", .methodLink RX5 16 Lib.Math.max.name, .static Lib.Math.max.name, .initialized "java/lang/Math", .code Lib.Math.max.name Lib.Math.max.code 2 (some .int), .arrayClass .int, .fieldLink RX5 22 "BeamHouse$Queue" "bytes" "[I", .fieldLink RX5 26 "BeamHouse$Queue" "lengths" "[I"] : List Cond) ++ wsX50)
set_option maxHeartbeats 4000000 in
set_option maxRecDepth 100000 in
theorem c_Queue_init_8 (l : Launch) (D : va_G) (ca : Nat → ClassId) (sz : Nat) (h0 : Nat)  : Met l yX5_init w_c_Queue_init_8 ({ frames := 1, cells := 2, slots := 488, locals := 15 }) (Pre D ca [.ref h0, .int 8, .int 60] [(h0, .inr (5, [.int 0, .int 0, .int 0, .null, .null, .int 0]))] sz) (va_Qv (fun _ : Unit => True) (fun (_ : Unit) (tt : State) => ∃ (b : Nat) (g : Nat), Wd D (va_A [(h0, .inr (5, [.int 0, .int 0, .int 0, .null, .null, .int 0]))] sz) [(h0, .inr (5, [.int 0, .int 8, .int 60, .ref b, .ref g, .int 0]))] tt) (va_A [(h0, .inr (5, [.int 0, .int 0, .int 0, .null, .null, .int 0]))] sz)) 2 488 (va_A [(h0, .inr (5, [.int 0, .int 0, .int 0, .null, .null, .int 0]))] sz) := by
  refine Met.ofW (cc := cX5_init) (maxL := 3) (ret := none) (by decide) rfl ?_
  intro p e s m args below meth c s₁ B hml hv
  obtain ⟨rfl, hsz, hP, hK, hD0, hN⟩ := hv
  have hx := B.exec
  have hb := B.bytes
  have hr := B.returns
  have hts := atoms_spec (ws := w_c_Queue_init_8) B.pre
  have hown : s.vm.findClass RX5 = some m.cls := findClass_of_methodNamed B.named
  have hlocks := B.notSynchronized
  have hin : meth.name = "<init>" := (name_of_methodNamed B.named B.method).1
  have hi_X5 : ∀ w ∈ wsX50, w ∈ w_c_Queue_init_8 := fun _ h => List.mem_cons_of_mem _ (List.mem_append_right _ h)
  subst hsz
  have hD := hD0.self (sz := s.heap.size)
  generalize hAe : va_A [(h0, .inr (5, [.int 0, .int 0, .int 0, .null, .null, .int 0]))] s.heap.size = A at hD ⊢
  have hA : ∀ q : Nat, s.heap.size ≤ q → A q := fun q h => by rw [← hAe]; exact Or.inr h
  have hS : va_S A s.heap s.heap [] := va_S.rf
  have hP : va_P D vwCl [(h0, .inr (5, [.int 0, .int 0, .int 0, .null, .null, .int 0]))] s.heap := hP
  have hl := lv_entry ([.ref h0, .int 8, .int 60]) (n := 3) (Nat.le_of_ble_eq_true rfl)
  rw [lg_entry_eq]
  generalize (lg_sl ([.ref h0, .int 8, .int 60]) ++ List.replicate (3 - (lg_sl ([.ref h0, .int 8, .int 60])).length) Slot.unset).toArray = ls at hl ⊢
  have hl : lv_has ls 3 [(0, .ref h0), (1, .int 8), (2, .int 60)] := hl
  refine lv_aload_n hx hb dX5_init_0 rfl (lv_at hl 0 rfl) ?_
  refine W.objInit hx hb hown (hts (.methodLink RX5 1 objectInit) (List.mem_of_getElem? (i := 1) rfl)) (hts (.instanceMethod objectInit) (List.mem_of_getElem? (i := 2) rfl)) (hts (.code objectInit ⟨#[0xb1]⟩ 1 none) (List.mem_of_getElem? (i := 3) rfl)) rfl (by rw [hml]; exact hl.1) rfl dX5_init_1 (Nat.le_of_ble_eq_true rfl) (Nat.le_of_ble_eq_true rfl) ?_
  refine W.eq (g2 := F0 m 4 ls []) rfl ?_
  refine lv_aload_n hx hb dX5_init_4 rfl (lv_at hl 0 rfl) ?_
  refine lv_iload_n hx hb dX5_init_5 rfl (lv_at hl 1 rfl) ?_
  refine va_putF (D := D) (ci := 5) (v := .int 8) (ty := .int) (C := RX5) (T := TX5) (N := 6) hx hb hts hi_X5 tyX5 tyX5_ok nmX5 hown hK hP hD hS 0 rfl rfl 1 (by decide) (hts (.fieldLink RX5 7 "BeamHouse$Queue" "most" "I") (List.mem_of_getElem? (i := 4) rfl)) (fun _ h9 => h9) rfl hin rfl (by decide +kernel) rfl rfl (Nat.le_of_ble_eq_true rfl) dX5_init_6 (fun H locs hP hD hS => ?_)
  have hP : va_P D vwCl [(h0, .inr (5, [.int 0, .int 8, .int 0, .null, .null, .int 0]))] H := hP
  have hD : va_D A [(h0, .inr (5, [.int 0, .int 8, .int 0, .null, .null, .int 0]))] := hD
  refine lv_aload_n hx hb dX5_init_9 rfl (lv_at hl 0 rfl) ?_
  refine lv_iload_n hx hb dX5_init_10 rfl (lv_at hl 2 rfl) ?_
  refine va_putF (D := D) (ci := 5) (v := .int 60) (ty := .int) (C := RX5) (T := TX5) (N := 6) hx hb hts hi_X5 tyX5 tyX5_ok nmX5 hown hK hP hD hS 0 rfl rfl 2 (by decide) (hts (.fieldLink RX5 13 "BeamHouse$Queue" "width" "I") (List.mem_of_getElem? (i := 5) rfl)) (fun _ h9 => h9) rfl hin rfl (by decide +kernel) rfl rfl (Nat.le_of_ble_eq_true rfl) dX5_init_11 (fun H locs hP hD hS => ?_)
  have hP : va_P D vwCl [(h0, .inr (5, [.int 0, .int 8, .int 60, .null, .null, .int 0]))] H := hP
  have hD : va_D A [(h0, .inr (5, [.int 0, .int 8, .int 60, .null, .null, .int 0]))] := hD
  refine lv_aload_n hx hb dX5_init_14 rfl (lv_at hl 0 rfl) ?_
  refine lv_iconst (v := 0) hx hb dX5_init_15 (by decide) ?_
  refine lv_iload_n hx hb dX5_init_16 rfl (lv_at hl 1 rfl) ?_
  refine lv_iload_n hx hb dX5_init_17 rfl (lv_at hl 2 rfl) ?_
  refine lv_imul hx hb dX5_init_18 ?_
  refine lv_topn 480 (by decide) ?_
  refine va_mmax hx hb (by rw [hml]; exact hl.1.symm) hown (hts (.methodLink RX5 16 Lib.Math.max.name) (List.mem_of_getElem? (i := 6) rfl)) (hts (.static Lib.Math.max.name) (List.mem_of_getElem? (i := 7) rfl)) (hts (.initialized "java/lang/Math") (List.mem_of_getElem? (i := 8) rfl)) (hts (.code Lib.Math.max.name Lib.Math.max.code 2 (some .int)) (List.mem_of_getElem? (i := 9) rfl)) (Nat.le_of_ble_eq_true rfl) (Nat.le_of_ble_eq_true rfl) (Nat.le_of_ble_eq_true rfl) (Nat.le_of_ble_eq_true rfl) dX5_init_19 ?_
  refine lv_topn 480 (by decide) ?_
  refine va_newa (atype := .int) (a0 := (480, .inl (fun _ => 0))) hx hb (hts (.arrayClass .int) (List.mem_of_getElem? (i := 10) rfl)) rfl hK hP hD hS hA (fun _ => rfl) (by decide) (by decide) (by decide) (Nat.le_of_ble_eq_true rfl) (Nat.le_of_ble_eq_true rfl) dX5_init_22 (fun q_1 cA H hK1 hP hD hS => ?_)
  obtain rfl := k_ca (ca := ca) hK1 0 rfl (Or.inl rfl)
  have hP : va_P D vwCl [(h0, .inr (5, [.int 0, .int 8, .int 60, .null, .null, .int 0])), (q_1, .inl (ca 0, 480, .inl (fun _ => 0)))] H := hP
  have hD : va_D A [(h0, .inr (5, [.int 0, .int 8, .int 60, .null, .null, .int 0])), (q_1, .inl (ca 0, 480, .inl (fun _ => 0)))] := hD
  refine W.widen (k := 1) (n := 480) (Nat.le_of_ble_eq_true rfl) (Nat.le_of_ble_eq_true rfl) ?_
  refine va_putF (D := D) (ci := 5) (v := .ref q_1) (ty := .array .int) (C := RX5) (T := TX5) (N := 6) hx hb hts hi_X5 tyX5 tyX5_ok nmX5 hown hK hP hD hS 0 rfl rfl 3 (by decide) (hts (.fieldLink RX5 22 "BeamHouse$Queue" "bytes" "[I") (List.mem_of_getElem? (i := 11) rfl)) (fun _ h9 => h9) rfl hin rfl (by decide +kernel) rfl rfl (Nat.le_of_ble_eq_true rfl) dX5_init_24 (fun H locs hP hD hS => ?_)
  have hP : va_P D vwCl [(h0, .inr (5, [.int 0, .int 8, .int 60, .ref q_1, .null, .int 0])), (q_1, .inl (ca 0, 480, .inl (fun _ => 0)))] H := hP
  have hD : va_D A [(h0, .inr (5, [.int 0, .int 8, .int 60, .ref q_1, .null, .int 0])), (q_1, .inl (ca 0, 480, .inl (fun _ => 0)))] := hD
  refine lv_aload_n hx hb dX5_init_27 rfl (lv_at hl 0 rfl) ?_
  refine lv_iconst (v := 0) hx hb dX5_init_28 (by decide) ?_
  refine lv_iload_n hx hb dX5_init_29 rfl (lv_at hl 1 rfl) ?_
  refine va_mmax hx hb (by rw [hml]; exact hl.1.symm) hown (hts (.methodLink RX5 16 Lib.Math.max.name) (List.mem_of_getElem? (i := 6) rfl)) (hts (.static Lib.Math.max.name) (List.mem_of_getElem? (i := 7) rfl)) (hts (.initialized "java/lang/Math") (List.mem_of_getElem? (i := 8) rfl)) (hts (.code Lib.Math.max.name Lib.Math.max.code 2 (some .int)) (List.mem_of_getElem? (i := 9) rfl)) (Nat.le_of_ble_eq_true rfl) (Nat.le_of_ble_eq_true rfl) (Nat.le_of_ble_eq_true rfl) (Nat.le_of_ble_eq_true rfl) dX5_init_30 ?_
  refine lv_topn 8 (by decide) ?_
  refine va_newa (atype := .int) (a0 := (8, .inl (fun _ => 0))) hx hb (hts (.arrayClass .int) (List.mem_of_getElem? (i := 10) rfl)) rfl hK hP hD hS hA (fun _ => rfl) (by decide) (by decide) (by decide) (Nat.le_of_ble_eq_true rfl) (Nat.le_of_ble_eq_true rfl) dX5_init_33 (fun q_2 cA H hK1 hP hD hS => ?_)
  obtain rfl := k_ca (ca := ca) hK1 0 rfl (Or.inl rfl)
  have hP : va_P D vwCl [(h0, .inr (5, [.int 0, .int 8, .int 60, .ref q_1, .null, .int 0])), (q_1, .inl (ca 0, 480, .inl (fun _ => 0))), (q_2, .inl (ca 0, 8, .inl (fun _ => 0)))] H := hP
  have hD : va_D A [(h0, .inr (5, [.int 0, .int 8, .int 60, .ref q_1, .null, .int 0])), (q_1, .inl (ca 0, 480, .inl (fun _ => 0))), (q_2, .inl (ca 0, 8, .inl (fun _ => 0)))] := hD
  refine W.widen (k := 2) (n := 488) (Nat.le_of_ble_eq_true rfl) (Nat.le_of_ble_eq_true rfl) ?_
  refine va_putF (D := D) (ci := 5) (v := .ref q_2) (ty := .array .int) (C := RX5) (T := TX5) (N := 6) hx hb hts hi_X5 tyX5 tyX5_ok nmX5 hown hK hP hD hS 0 rfl rfl 4 (by decide) (hts (.fieldLink RX5 26 "BeamHouse$Queue" "lengths" "[I") (List.mem_of_getElem? (i := 12) rfl)) (fun _ h9 => h9) rfl hin rfl (by decide +kernel) rfl rfl (Nat.le_of_ble_eq_true rfl) dX5_init_35 (fun H locs hP hD hS => ?_)
  have hP : va_P D vwCl [(h0, .inr (5, [.int 0, .int 8, .int 60, .ref q_1, .ref q_2, .int 0])), (q_1, .inl (ca 0, 480, .inl (fun _ => 0))), (q_2, .inl (ca 0, 8, .inl (fun _ => 0)))] H := hP
  have hD : va_D A [(h0, .inr (5, [.int 0, .int 8, .int 60, .ref q_1, .ref q_2, .int 0])), (q_1, .inl (ca 0, 480, .inl (fun _ => 0))), (q_2, .inl (ca 0, 8, .inl (fun _ => 0)))] := hD
  exact W.vret hx hb hr (fun tt ht hW => ⟨⟨(), rfl, trivial, ⟨q_1, q_2, ⟨by rw [ht]; exact hP.sub [0] rfl, hD.sub [0] rfl rfl⟩⟩⟩, hS.F ht⟩) hS.2.2 dX5_init_38
def w_c_Ear_init : List Cond := .code yX2_init cX2_init 1 none :: (([.methodLink RX2 3 objectInit, .instanceMethod objectInit, .code objectInit ⟨#[0xb1]⟩ 1 none, .arrayClass .int, .fieldLink RX2 9 "BeamHouse$Ear" "bytes" "[I"] : List Cond) ++ wsX20)
set_option maxHeartbeats 4000000 in
set_option maxRecDepth 100000 in
theorem c_Ear_init (l : Launch) (D : va_G) (ca : Nat → ClassId) (sz : Nat) (h0 : Nat)  : Met l yX2_init w_c_Ear_init ({ frames := 1, cells := 1, slots := 74, locals := 12 }) (Pre D ca [.ref h0] [(h0, .inr (2, [.null, .int 0, .int 0, .int 0, .int 0, .int 0]))] sz) (va_Qv (fun _ : Unit => True) (fun (_ : Unit) (tt : State) => ∃ (b : Nat), Wd D (va_A [(h0, .inr (2, [.null, .int 0, .int 0, .int 0, .int 0, .int 0]))] sz) [(h0, .inr (2, [.ref b, .int 0, .int 0, .int 0, .int 0, .int 0]))] tt) (va_A [(h0, .inr (2, [.null, .int 0, .int 0, .int 0, .int 0, .int 0]))] sz)) 1 74 (va_A [(h0, .inr (2, [.null, .int 0, .int 0, .int 0, .int 0, .int 0]))] sz) := by
  refine Met.ofW (cc := cX2_init) (maxL := 1) (ret := none) (by decide) rfl ?_
  intro p e s m args below meth c s₁ B hml hv
  obtain ⟨rfl, hsz, hP, hK, hD0, hN⟩ := hv
  have hx := B.exec
  have hb := B.bytes
  have hr := B.returns
  have hts := atoms_spec (ws := w_c_Ear_init) B.pre
  have hown : s.vm.findClass RX2 = some m.cls := findClass_of_methodNamed B.named
  have hlocks := B.notSynchronized
  have hin : meth.name = "<init>" := (name_of_methodNamed B.named B.method).1
  have hi_X2 : ∀ w ∈ wsX20, w ∈ w_c_Ear_init := fun _ h => List.mem_cons_of_mem _ (List.mem_append_right _ h)
  subst hsz
  have hD := hD0.self (sz := s.heap.size)
  generalize hAe : va_A [(h0, .inr (2, [.null, .int 0, .int 0, .int 0, .int 0, .int 0]))] s.heap.size = A at hD ⊢
  have hA : ∀ q : Nat, s.heap.size ≤ q → A q := fun q h => by rw [← hAe]; exact Or.inr h
  have hS : va_S A s.heap s.heap [] := va_S.rf
  have hP : va_P D vwCl [(h0, .inr (2, [.null, .int 0, .int 0, .int 0, .int 0, .int 0]))] s.heap := hP
  have hl := lv_entry ([.ref h0]) (n := 1) (Nat.le_of_ble_eq_true rfl)
  rw [lg_entry_eq]
  generalize (lg_sl ([.ref h0]) ++ List.replicate (1 - (lg_sl ([.ref h0])).length) Slot.unset).toArray = ls at hl ⊢
  have hl : lv_has ls 1 [(0, .ref h0)] := hl
  refine lv_aload_n hx hb dX2_init_0 rfl (lv_at hl 0 rfl) ?_
  refine W.objInit hx hb hown (hts (.methodLink RX2 3 objectInit) (List.mem_of_getElem? (i := 1) rfl)) (hts (.instanceMethod objectInit) (List.mem_of_getElem? (i := 2) rfl)) (hts (.code objectInit ⟨#[0xb1]⟩ 1 none) (List.mem_of_getElem? (i := 3) rfl)) rfl (by rw [hml]; exact hl.1) rfl dX2_init_1 (Nat.le_of_ble_eq_true rfl) (Nat.le_of_ble_eq_true rfl) ?_
  refine W.eq (g2 := F0 m 4 ls []) rfl ?_
  refine lv_aload_n hx hb dX2_init_4 rfl (lv_at hl 0 rfl) ?_
  refine lv_bipush (v := 74) hx hb dX2_init_5 (by decide) ?_
  refine va_newa (atype := .int) (a0 := (74, .inl (fun _ => 0))) hx hb (hts (.arrayClass .int) (List.mem_of_getElem? (i := 4) rfl)) rfl hK hP hD hS hA (fun _ => rfl) (by decide) (by decide) (by decide) (Nat.le_of_ble_eq_true rfl) (Nat.le_of_ble_eq_true rfl) dX2_init_7 (fun q_1 cA H hK1 hP hD hS => ?_)
  obtain rfl := k_ca (ca := ca) hK1 0 rfl (Or.inl rfl)
  have hP : va_P D vwCl [(h0, .inr (2, [.null, .int 0, .int 0, .int 0, .int 0, .int 0])), (q_1, .inl (ca 0, 74, .inl (fun _ => 0)))] H := hP
  have hD : va_D A [(h0, .inr (2, [.null, .int 0, .int 0, .int 0, .int 0, .int 0])), (q_1, .inl (ca 0, 74, .inl (fun _ => 0)))] := hD
  refine W.widen (k := 1) (n := 74) (Nat.le_of_ble_eq_true rfl) (Nat.le_of_ble_eq_true rfl) ?_
  refine va_putF (D := D) (ci := 2) (v := .ref q_1) (ty := .array .int) (C := RX2) (T := TX2) (N := 6) hx hb hts hi_X2 tyX2 tyX2_ok nmX2 hown hK hP hD hS 0 rfl rfl 0 (by decide) (hts (.fieldLink RX2 9 "BeamHouse$Ear" "bytes" "[I") (List.mem_of_getElem? (i := 5) rfl)) (fun _ h9 => h9) rfl hin rfl (by decide +kernel) rfl rfl (Nat.le_of_ble_eq_true rfl) dX2_init_9 (fun H locs hP hD hS => ?_)
  have hP : va_P D vwCl [(h0, .inr (2, [.ref q_1, .int 0, .int 0, .int 0, .int 0, .int 0])), (q_1, .inl (ca 0, 74, .inl (fun _ => 0)))] H := hP
  have hD : va_D A [(h0, .inr (2, [.ref q_1, .int 0, .int 0, .int 0, .int 0, .int 0])), (q_1, .inl (ca 0, 74, .inl (fun _ => 0)))] := hD
  exact W.vret hx hb hr (fun tt ht hW => ⟨⟨(), rfl, trivial, ⟨q_1, ⟨by rw [ht]; exact hP.sub [0] rfl, hD.sub [0] rfl rfl⟩⟩⟩, hS.F ht⟩) hS.2.2 dX2_init_12
def w_c_Search_init : List Cond := .code yX7_init cX7_init 1 none :: (([.methodLink RX7 3 objectInit, .instanceMethod objectInit, .code objectInit ⟨#[0xb1]⟩ 1 none, .arrayClass .int, .fieldLink RX7 9 "BeamHouse$Search" "list" "[I"] : List Cond) ++ wsX70)
set_option maxHeartbeats 4000000 in
set_option maxRecDepth 100000 in
theorem c_Search_init (l : Launch) (D : va_G) (ca : Nat → ClassId) (sz : Nat) (h0 : Nat)  : Met l yX7_init w_c_Search_init ({ frames := 1, cells := 1, slots := 8, locals := 12 }) (Pre D ca [.ref h0] [(h0, .inr (7, [.null, .int 0, .int 0, .int 0, .int 0, .int 0, .int 0]))] sz) (va_Qv (fun _ : Unit => True) (fun (_ : Unit) (tt : State) => ∃ (b : Nat), Wd D (va_A [(h0, .inr (7, [.null, .int 0, .int 0, .int 0, .int 0, .int 0, .int 0]))] sz) [(h0, .inr (7, [.ref b, .int 0, .int 0, .int 0, .int 0, .int 0, .int 0]))] tt) (va_A [(h0, .inr (7, [.null, .int 0, .int 0, .int 0, .int 0, .int 0, .int 0]))] sz)) 1 8 (va_A [(h0, .inr (7, [.null, .int 0, .int 0, .int 0, .int 0, .int 0, .int 0]))] sz) := by
  refine Met.ofW (cc := cX7_init) (maxL := 1) (ret := none) (by decide) rfl ?_
  intro p e s m args below meth c s₁ B hml hv
  obtain ⟨rfl, hsz, hP, hK, hD0, hN⟩ := hv
  have hx := B.exec
  have hb := B.bytes
  have hr := B.returns
  have hts := atoms_spec (ws := w_c_Search_init) B.pre
  have hown : s.vm.findClass RX7 = some m.cls := findClass_of_methodNamed B.named
  have hlocks := B.notSynchronized
  have hin : meth.name = "<init>" := (name_of_methodNamed B.named B.method).1
  have hi_X7 : ∀ w ∈ wsX70, w ∈ w_c_Search_init := fun _ h => List.mem_cons_of_mem _ (List.mem_append_right _ h)
  subst hsz
  have hD := hD0.self (sz := s.heap.size)
  generalize hAe : va_A [(h0, .inr (7, [.null, .int 0, .int 0, .int 0, .int 0, .int 0, .int 0]))] s.heap.size = A at hD ⊢
  have hA : ∀ q : Nat, s.heap.size ≤ q → A q := fun q h => by rw [← hAe]; exact Or.inr h
  have hS : va_S A s.heap s.heap [] := va_S.rf
  have hP : va_P D vwCl [(h0, .inr (7, [.null, .int 0, .int 0, .int 0, .int 0, .int 0, .int 0]))] s.heap := hP
  have hl := lv_entry ([.ref h0]) (n := 1) (Nat.le_of_ble_eq_true rfl)
  rw [lg_entry_eq]
  generalize (lg_sl ([.ref h0]) ++ List.replicate (1 - (lg_sl ([.ref h0])).length) Slot.unset).toArray = ls at hl ⊢
  have hl : lv_has ls 1 [(0, .ref h0)] := hl
  refine lv_aload_n hx hb dX7_init_0 rfl (lv_at hl 0 rfl) ?_
  refine W.objInit hx hb hown (hts (.methodLink RX7 3 objectInit) (List.mem_of_getElem? (i := 1) rfl)) (hts (.instanceMethod objectInit) (List.mem_of_getElem? (i := 2) rfl)) (hts (.code objectInit ⟨#[0xb1]⟩ 1 none) (List.mem_of_getElem? (i := 3) rfl)) rfl (by rw [hml]; exact hl.1) rfl dX7_init_1 (Nat.le_of_ble_eq_true rfl) (Nat.le_of_ble_eq_true rfl) ?_
  refine W.eq (g2 := F0 m 4 ls []) rfl ?_
  refine lv_aload_n hx hb dX7_init_4 rfl (lv_at hl 0 rfl) ?_
  refine lv_bipush (v := 8) hx hb dX7_init_5 (by decide) ?_
  refine va_newa (atype := .int) (a0 := (8, .inl (fun _ => 0))) hx hb (hts (.arrayClass .int) (List.mem_of_getElem? (i := 4) rfl)) rfl hK hP hD hS hA (fun _ => rfl) (by decide) (by decide) (by decide) (Nat.le_of_ble_eq_true rfl) (Nat.le_of_ble_eq_true rfl) dX7_init_7 (fun q_1 cA H hK1 hP hD hS => ?_)
  obtain rfl := k_ca (ca := ca) hK1 0 rfl (Or.inl rfl)
  have hP : va_P D vwCl [(h0, .inr (7, [.null, .int 0, .int 0, .int 0, .int 0, .int 0, .int 0])), (q_1, .inl (ca 0, 8, .inl (fun _ => 0)))] H := hP
  have hD : va_D A [(h0, .inr (7, [.null, .int 0, .int 0, .int 0, .int 0, .int 0, .int 0])), (q_1, .inl (ca 0, 8, .inl (fun _ => 0)))] := hD
  refine W.widen (k := 1) (n := 8) (Nat.le_of_ble_eq_true rfl) (Nat.le_of_ble_eq_true rfl) ?_
  refine va_putF (D := D) (ci := 7) (v := .ref q_1) (ty := .array .int) (C := RX7) (T := TX7) (N := 7) hx hb hts hi_X7 tyX7 tyX7_ok nmX7 hown hK hP hD hS 0 rfl rfl 0 (by decide) (hts (.fieldLink RX7 9 "BeamHouse$Search" "list" "[I") (List.mem_of_getElem? (i := 5) rfl)) (fun _ h9 => h9) rfl hin rfl (by decide +kernel) rfl rfl (Nat.le_of_ble_eq_true rfl) dX7_init_9 (fun H locs hP hD hS => ?_)
  have hP : va_P D vwCl [(h0, .inr (7, [.ref q_1, .int 0, .int 0, .int 0, .int 0, .int 0, .int 0])), (q_1, .inl (ca 0, 8, .inl (fun _ => 0)))] H := hP
  have hD : va_D A [(h0, .inr (7, [.ref q_1, .int 0, .int 0, .int 0, .int 0, .int 0, .int 0])), (q_1, .inl (ca 0, 8, .inl (fun _ => 0)))] := hD
  exact W.vret hx hb hr (fun tt ht hW => ⟨⟨(), rfl, trivial, ⟨q_1, ⟨by rw [ht]; exact hP.sub [0] rfl, hD.sub [0] rfl rfl⟩⟩⟩, hS.F ht⟩) hS.2.2 dX7_init_12
def w_c_Air_init : List Cond := .code yX0_init cX0_init 1 none :: (([.methodLink RX0 3 objectInit, .instanceMethod objectInit, .code objectInit ⟨#[0xb1]⟩ 1 none, .arrayClass .int, .fieldLink RX0 9 "BeamHouse$Air" "bytes" "[I", .fieldLink RX0 15 "BeamHouse$Air" "frame" "[I"] : List Cond) ++ wsX00)
set_option maxHeartbeats 4000000 in
set_option maxRecDepth 100000 in
theorem c_Air_init (l : Launch) (D : va_G) (ca : Nat → ClassId) (sz : Nat) (h0 : Nat)  : Met l yX0_init w_c_Air_init ({ frames := 1, cells := 2, slots := 4074, locals := 12 }) (Pre D ca [.ref h0] [(h0, .inr (0, [.null, .int 0, .null, .int 0]))] sz) (va_Qv (fun _ : Unit => True) (fun (_ : Unit) (tt : State) => ∃ (b : Nat) (g : Nat), Wd D (va_A [(h0, .inr (0, [.null, .int 0, .null, .int 0]))] sz) [(h0, .inr (0, [.ref b, .int 0, .ref g, .int 0])), (b, .inl (ca 0, 4000, .inl (fun _ => 0))), (g, .inl (ca 0, 74, .inl (fun _ => 0)))] tt) (va_A [(h0, .inr (0, [.null, .int 0, .null, .int 0]))] sz)) 2 4074 (va_A [(h0, .inr (0, [.null, .int 0, .null, .int 0]))] sz) := by
  refine Met.ofW (cc := cX0_init) (maxL := 1) (ret := none) (by decide) rfl ?_
  intro p e s m args below meth c s₁ B hml hv
  obtain ⟨rfl, hsz, hP, hK, hD0, hN⟩ := hv
  have hx := B.exec
  have hb := B.bytes
  have hr := B.returns
  have hts := atoms_spec (ws := w_c_Air_init) B.pre
  have hown : s.vm.findClass RX0 = some m.cls := findClass_of_methodNamed B.named
  have hlocks := B.notSynchronized
  have hin : meth.name = "<init>" := (name_of_methodNamed B.named B.method).1
  have hi_X0 : ∀ w ∈ wsX00, w ∈ w_c_Air_init := fun _ h => List.mem_cons_of_mem _ (List.mem_append_right _ h)
  subst hsz
  have hD := hD0.self (sz := s.heap.size)
  generalize hAe : va_A [(h0, .inr (0, [.null, .int 0, .null, .int 0]))] s.heap.size = A at hD ⊢
  have hA : ∀ q : Nat, s.heap.size ≤ q → A q := fun q h => by rw [← hAe]; exact Or.inr h
  have hS : va_S A s.heap s.heap [] := va_S.rf
  have hP : va_P D vwCl [(h0, .inr (0, [.null, .int 0, .null, .int 0]))] s.heap := hP
  have hl := lv_entry ([.ref h0]) (n := 1) (Nat.le_of_ble_eq_true rfl)
  rw [lg_entry_eq]
  generalize (lg_sl ([.ref h0]) ++ List.replicate (1 - (lg_sl ([.ref h0])).length) Slot.unset).toArray = ls at hl ⊢
  have hl : lv_has ls 1 [(0, .ref h0)] := hl
  refine lv_aload_n hx hb dX0_init_0 rfl (lv_at hl 0 rfl) ?_
  refine W.objInit hx hb hown (hts (.methodLink RX0 3 objectInit) (List.mem_of_getElem? (i := 1) rfl)) (hts (.instanceMethod objectInit) (List.mem_of_getElem? (i := 2) rfl)) (hts (.code objectInit ⟨#[0xb1]⟩ 1 none) (List.mem_of_getElem? (i := 3) rfl)) rfl (by rw [hml]; exact hl.1) rfl dX0_init_1 (Nat.le_of_ble_eq_true rfl) (Nat.le_of_ble_eq_true rfl) ?_
  refine W.eq (g2 := F0 m 4 ls []) rfl ?_
  refine lv_aload_n hx hb dX0_init_4 rfl (lv_at hl 0 rfl) ?_
  refine lv_sipush (v := 4000) hx hb dX0_init_5 (by decide) ?_
  refine va_newa (atype := .int) (a0 := (4000, .inl (fun _ => 0))) hx hb (hts (.arrayClass .int) (List.mem_of_getElem? (i := 4) rfl)) rfl hK hP hD hS hA (fun _ => rfl) (by decide) (by decide) (by decide) (Nat.le_of_ble_eq_true rfl) (Nat.le_of_ble_eq_true rfl) dX0_init_8 (fun q_1 cA H hK1 hP hD hS => ?_)
  obtain rfl := k_ca (ca := ca) hK1 0 rfl (Or.inl rfl)
  have hP : va_P D vwCl [(h0, .inr (0, [.null, .int 0, .null, .int 0])), (q_1, .inl (ca 0, 4000, .inl (fun _ => 0)))] H := hP
  have hD : va_D A [(h0, .inr (0, [.null, .int 0, .null, .int 0])), (q_1, .inl (ca 0, 4000, .inl (fun _ => 0)))] := hD
  refine W.widen (k := 1) (n := 4000) (Nat.le_of_ble_eq_true rfl) (Nat.le_of_ble_eq_true rfl) ?_
  refine va_putF (D := D) (ci := 0) (v := .ref q_1) (ty := .array .int) (C := RX0) (T := TX0) (N := 4) hx hb hts hi_X0 tyX0 tyX0_ok nmX0 hown hK hP hD hS 0 rfl rfl 0 (by decide) (hts (.fieldLink RX0 9 "BeamHouse$Air" "bytes" "[I") (List.mem_of_getElem? (i := 5) rfl)) (fun _ h9 => h9) rfl hin rfl (by decide +kernel) rfl rfl (Nat.le_of_ble_eq_true rfl) dX0_init_10 (fun H locs hP hD hS => ?_)
  have hP : va_P D vwCl [(h0, .inr (0, [.ref q_1, .int 0, .null, .int 0])), (q_1, .inl (ca 0, 4000, .inl (fun _ => 0)))] H := hP
  have hD : va_D A [(h0, .inr (0, [.ref q_1, .int 0, .null, .int 0])), (q_1, .inl (ca 0, 4000, .inl (fun _ => 0)))] := hD
  refine lv_aload_n hx hb dX0_init_13 rfl (lv_at hl 0 rfl) ?_
  refine lv_bipush (v := 74) hx hb dX0_init_14 (by decide) ?_
  refine va_newa (atype := .int) (a0 := (74, .inl (fun _ => 0))) hx hb (hts (.arrayClass .int) (List.mem_of_getElem? (i := 4) rfl)) rfl hK hP hD hS hA (fun _ => rfl) (by decide) (by decide) (by decide) (Nat.le_of_ble_eq_true rfl) (Nat.le_of_ble_eq_true rfl) dX0_init_16 (fun q_2 cA H hK1 hP hD hS => ?_)
  obtain rfl := k_ca (ca := ca) hK1 0 rfl (Or.inl rfl)
  have hP : va_P D vwCl [(h0, .inr (0, [.ref q_1, .int 0, .null, .int 0])), (q_1, .inl (ca 0, 4000, .inl (fun _ => 0))), (q_2, .inl (ca 0, 74, .inl (fun _ => 0)))] H := hP
  have hD : va_D A [(h0, .inr (0, [.ref q_1, .int 0, .null, .int 0])), (q_1, .inl (ca 0, 4000, .inl (fun _ => 0))), (q_2, .inl (ca 0, 74, .inl (fun _ => 0)))] := hD
  refine W.widen (k := 2) (n := 4074) (Nat.le_of_ble_eq_true rfl) (Nat.le_of_ble_eq_true rfl) ?_
  refine va_putF (D := D) (ci := 0) (v := .ref q_2) (ty := .array .int) (C := RX0) (T := TX0) (N := 4) hx hb hts hi_X0 tyX0 tyX0_ok nmX0 hown hK hP hD hS 0 rfl rfl 2 (by decide) (hts (.fieldLink RX0 15 "BeamHouse$Air" "frame" "[I") (List.mem_of_getElem? (i := 6) rfl)) (fun _ h9 => h9) rfl hin rfl (by decide +kernel) rfl rfl (Nat.le_of_ble_eq_true rfl) dX0_init_18 (fun H locs hP hD hS => ?_)
  have hP : va_P D vwCl [(h0, .inr (0, [.ref q_1, .int 0, .ref q_2, .int 0])), (q_1, .inl (ca 0, 4000, .inl (fun _ => 0))), (q_2, .inl (ca 0, 74, .inl (fun _ => 0)))] H := hP
  have hD : va_D A [(h0, .inr (0, [.ref q_1, .int 0, .ref q_2, .int 0])), (q_1, .inl (ca 0, 4000, .inl (fun _ => 0))), (q_2, .inl (ca 0, 74, .inl (fun _ => 0)))] := hD
  exact W.vret hx hb hr (fun tt ht hW => ⟨⟨(), rfl, trivial, ⟨q_1, q_2, ⟨by rw [ht]; exact hP.sub [0, 1, 2] rfl, hD.sub [0, 1, 2] rfl rfl⟩⟩⟩, hS.F ht⟩) hS.2.2 dX0_init_21
def w_c_Link_init : List Cond := .code yX3_init cX3_init 1 none :: (([.methodLink RX3 3 objectInit, .instanceMethod objectInit, .code objectInit ⟨#[0xb1]⟩ 1 none, .classLink RX3 9 RX5, .instantiable RX5 6, .initialized RX5, .code yX5_init cX5_init 3 none, .methodLink RX5 1 objectInit, .fieldLink RX5 7 "BeamHouse$Queue" "most" "I", .fieldLink RX5 13 "BeamHouse$Queue" "width" "I", .methodLink RX5 16 Lib.Math.max.name, .static Lib.Math.max.name, .initialized "java/lang/Math", .code Lib.Math.max.name Lib.Math.max.code 2 (some .int), .arrayClass .int, .fieldLink RX5 22 "BeamHouse$Queue" "bytes" "[I", .fieldLink RX5 26 "BeamHouse$Queue" "lengths" "[I", .methodLink RX3 11 yX5_init, .instanceMethod yX5_init, .fieldLink RX3 14 "BeamHouse$Link" "parts" "LBeamHouse$Queue;"] : List Cond) ++ wsX50 ++ wsX30)
theorem g_c_Link_init_c_Queue_init_24_11 : GoodIn w_c_Link_init w_c_Queue_init_24 := (goodIn_ca (goodIn_r _ [7, 8, 2, 3, 9, 10, 11, 12, 13, 14, 15, 16, 17] rfl rfl) (goodIn_sub (fun _ h => List.mem_cons_of_mem _ (List.mem_append_left _ (List.mem_append_right _ h))) gw_X5))
set_option maxHeartbeats 4000000 in
set_option maxRecDepth 100000 in
theorem c_Link_init (l : Launch) (D : va_G) (ca : Nat → ClassId) (sz : Nat) (h0 : Nat)  : Met l yX3_init w_c_Link_init ({ frames := 2, cells := 3, slots := 798, locals := 37 }) (Pre D ca [.ref h0] [(h0, .inr (3, [.null, .int 0, .int 0, .int 0, .int 0, .int 0, .int 0, .int 0, .int 0, .int 0, .int 0, .int 0, .int 0, .int 0]))] sz) (va_Qv (fun _ : Unit => True) (fun (_ : Unit) (tt : State) => ∃ (q : Nat) (b : Nat) (g : Nat), Wd D (va_A [(h0, .inr (3, [.null, .int 0, .int 0, .int 0, .int 0, .int 0, .int 0, .int 0, .int 0, .int 0, .int 0, .int 0, .int 0, .int 0]))] sz) [(h0, .inr (3, [.ref q, .int 0, .int 0, .int 0, .int 0, .int 0, .int 0, .int 0, .int 0, .int 0, .int 0, .int 0, .int 0, .int 0])), (q, .inr (5, [.int 0, .int 24, .int 32, .ref b, .ref g, .int 0]))] tt) (va_A [(h0, .inr (3, [.null, .int 0, .int 0, .int 0, .int 0, .int 0, .int 0, .int 0, .int 0, .int 0, .int 0, .int 0, .int 0, .int 0]))] sz)) 3 798 (va_A [(h0, .inr (3, [.null, .int 0, .int 0, .int 0, .int 0, .int 0, .int 0, .int 0, .int 0, .int 0, .int 0, .int 0, .int 0, .int 0]))] sz) := by
  refine Met.ofW (cc := cX3_init) (maxL := 1) (ret := none) (by decide) rfl ?_
  intro p e s m args below meth c s₁ B hml hv
  obtain ⟨rfl, hsz, hP, hK, hD0, hN⟩ := hv
  have hx := B.exec
  have hb := B.bytes
  have hr := B.returns
  have hts := atoms_spec (ws := w_c_Link_init) B.pre
  have hown : s.vm.findClass RX3 = some m.cls := findClass_of_methodNamed B.named
  have hlocks := B.notSynchronized
  have hin : meth.name = "<init>" := (name_of_methodNamed B.named B.method).1
  have hi_X5 : ∀ w ∈ wsX50, w ∈ w_c_Link_init := fun _ h => List.mem_cons_of_mem _ (List.mem_append_left _ (List.mem_append_right _ h))
  have hi_X3 : ∀ w ∈ wsX30, w ∈ w_c_Link_init := fun _ h => List.mem_cons_of_mem _ (List.mem_append_right _ h)
  subst hsz
  have hD := hD0.self (sz := s.heap.size)
  generalize hAe : va_A [(h0, .inr (3, [.null, .int 0, .int 0, .int 0, .int 0, .int 0, .int 0, .int 0, .int 0, .int 0, .int 0, .int 0, .int 0, .int 0]))] s.heap.size = A at hD ⊢
  have hA : ∀ q : Nat, s.heap.size ≤ q → A q := fun q h => by rw [← hAe]; exact Or.inr h
  have hS : va_S A s.heap s.heap [] := va_S.rf
  have hP : va_P D vwCl [(h0, .inr (3, [.null, .int 0, .int 0, .int 0, .int 0, .int 0, .int 0, .int 0, .int 0, .int 0, .int 0, .int 0, .int 0, .int 0]))] s.heap := hP
  have hl := lv_entry ([.ref h0]) (n := 1) (Nat.le_of_ble_eq_true rfl)
  rw [lg_entry_eq]
  generalize (lg_sl ([.ref h0]) ++ List.replicate (1 - (lg_sl ([.ref h0])).length) Slot.unset).toArray = ls at hl ⊢
  have hl : lv_has ls 1 [(0, .ref h0)] := hl
  refine lv_aload_n hx hb dX3_init_0 rfl (lv_at hl 0 rfl) ?_
  refine W.objInit hx hb hown (hts (.methodLink RX3 3 objectInit) (List.mem_of_getElem? (i := 1) rfl)) (hts (.instanceMethod objectInit) (List.mem_of_getElem? (i := 2) rfl)) (hts (.code objectInit ⟨#[0xb1]⟩ 1 none) (List.mem_of_getElem? (i := 3) rfl)) rfl (by rw [hml]; exact hl.1) rfl dX3_init_1 (Nat.le_of_ble_eq_true rfl) (Nat.le_of_ble_eq_true rfl) ?_
  refine W.eq (g2 := F0 m 4 ls []) rfl ?_
  refine lv_aload_n hx hb dX3_init_4 rfl (lv_at hl 0 rfl) ?_
  refine va_new (ci := 5) (fs := [.int 0, .int 0, .int 0, .null, .null, .int 0]) (C := RX5) (T := TX5) (N := 6) hx hb hts hi_X5 tyX5 tyX5_ok hown (hts (.classLink RX3 9 RX5) (List.mem_of_getElem? (i := 4) rfl)) (hts (.instantiable RX5 6) (List.mem_of_getElem? (i := 5) rfl)) (hts (.initialized RX5) (List.mem_of_getElem? (i := 6) rfl)) hK hP hD hS hA rfl (by decide +kernel) (Nat.le_of_ble_eq_true rfl) (Nat.le_of_ble_eq_true rfl) dX3_init_5 (fun q_1 H hP hD hS => ?_)
  have hP : va_P D vwCl [(h0, .inr (3, [.null, .int 0, .int 0, .int 0, .int 0, .int 0, .int 0, .int 0, .int 0, .int 0, .int 0, .int 0, .int 0, .int 0])), (q_1, .inr (5, [.int 0, .int 0, .int 0, .null, .null, .int 0]))] H := hP
  have hD : va_D A [(h0, .inr (3, [.null, .int 0, .int 0, .int 0, .int 0, .int 0, .int 0, .int 0, .int 0, .int 0, .int 0, .int 0, .int 0, .int 0])), (q_1, .inr (5, [.int 0, .int 0, .int 0, .null, .null, .int 0]))] := hD
  refine W.widen (k := 1) (n := 6) (Nat.le_of_ble_eq_true rfl) (Nat.le_of_ble_eq_true rfl) ?_
  refine lv_dup hx hb dX3_init_8 rfl ?_
  refine lv_bipush (v := 24) hx hb dX3_init_9 (by decide) ?_
  refine lv_bipush (v := 32) hx hb dX3_init_11 (by decide) ?_
  refine kGo_v (wr := [(h0, .inr (3, [.null, .int 0, .int 0, .int 0, .int 0, .int 0, .int 0, .int 0, .int 0, .int 0, .int 0, .int 0, .int 0, .int 0]))]) (kRunI (As := [.int 24, .int 32]) (rest := [.ref q_1, .ref h0]) ⟨hx, hb, hml, hown, hts⟩ (c_Queue_init_24 l D ca _ q_1) (cwI 2 hts g_c_Link_init_c_Queue_init_24_11 rfl rfl rfl (hts (.initialized RX5) (List.mem_of_getElem? (i := 6) rfl)) (hts (.methodLink RX3 11 yX5_init) (List.mem_of_getElem? (i := 18) rfl)) (hts (.instanceMethod yX5_init) (List.mem_of_getElem? (i := 19) rfl)) rfl (by decide +kernel) ⟨Nat.le_of_ble_eq_true rfl, Nat.le_of_ble_eq_true rfl⟩) hK hN hP hD [1] rfl rfl rfl hl.1 rfl (Nat.le_of_ble_eq_true rfl) dX3_init_13 ⟨Nat.le_of_ble_eq_true rfl, Nat.le_of_ble_eq_true rfl⟩) hP hD hS hA [1] [0] rfl rfl rfl (by decide) (fun uu_ tt H locs hr_4 hB hj hS => ?_)
  obtain ⟨b_2, g_3, hWd⟩ := hB
  obtain ⟨hP, hD⟩ := hj _ hWd
  have hP : va_P D vwCl [(h0, .inr (3, [.null, .int 0, .int 0, .int 0, .int 0, .int 0, .int 0, .int 0, .int 0, .int 0, .int 0, .int 0, .int 0, .int 0])), (q_1, .inr (5, [.int 0, .int 24, .int 32, .ref b_2, .ref g_3, .int 0]))] H := hP
  have hD : va_D A [(h0, .inr (3, [.null, .int 0, .int 0, .int 0, .int 0, .int 0, .int 0, .int 0, .int 0, .int 0, .int 0, .int 0, .int 0, .int 0])), (q_1, .inr (5, [.int 0, .int 24, .int 32, .ref b_2, .ref g_3, .int 0]))] := hD
  refine W.widen (k := 3) (n := 798) (Nat.le_of_ble_eq_true rfl) (Nat.le_of_ble_eq_true rfl) ?_
  refine va_putF (D := D) (ci := 3) (v := .ref q_1) (ty := .object "BeamHouse$Queue") (C := RX3) (T := TX3) (N := 14) hx hb hts hi_X3 tyX3 tyX3_ok nmX3 hown hK hP hD hS 0 rfl rfl 0 (by decide) (hts (.fieldLink RX3 14 "BeamHouse$Link" "parts" "LBeamHouse$Queue;") (List.mem_of_getElem? (i := 20) rfl)) (fun _ h9 => h9) rfl hin rfl (by decide +kernel) rfl rfl (Nat.le_of_ble_eq_true rfl) dX3_init_16 (fun H locs hP hD hS => ?_)
  have hP : va_P D vwCl [(h0, .inr (3, [.ref q_1, .int 0, .int 0, .int 0, .int 0, .int 0, .int 0, .int 0, .int 0, .int 0, .int 0, .int 0, .int 0, .int 0])), (q_1, .inr (5, [.int 0, .int 24, .int 32, .ref b_2, .ref g_3, .int 0]))] H := hP
  have hD : va_D A [(h0, .inr (3, [.ref q_1, .int 0, .int 0, .int 0, .int 0, .int 0, .int 0, .int 0, .int 0, .int 0, .int 0, .int 0, .int 0, .int 0])), (q_1, .inr (5, [.int 0, .int 24, .int 32, .ref b_2, .ref g_3, .int 0]))] := hD
  exact W.vret hx hb hr (fun tt ht hW => ⟨⟨(), rfl, trivial, ⟨q_1, b_2, g_3, ⟨by rw [ht]; exact hP.sub [0, 1] rfl, hD.sub [0, 1] rfl rfl⟩⟩⟩, hS.F ht⟩) hS.2.2 dX3_init_19
def w_c_Up_init : List Cond := .code yX10_init cX10_init 1 none :: (([.methodLink RX10 3 objectInit, .instanceMethod objectInit, .code objectInit ⟨#[0xb1]⟩ 1 none, .classLink RX10 9 RX5, .instantiable RX5 6, .initialized RX5, .code yX5_init cX5_init 3 none, .methodLink RX5 1 objectInit, .fieldLink RX5 7 "BeamHouse$Queue" "most" "I", .fieldLink RX5 13 "BeamHouse$Queue" "width" "I", .methodLink RX5 16 Lib.Math.max.name, .static Lib.Math.max.name, .initialized "java/lang/Math", .code Lib.Math.max.name Lib.Math.max.code 2 (some .int), .arrayClass .int, .fieldLink RX5 22 "BeamHouse$Queue" "bytes" "[I", .fieldLink RX5 26 "BeamHouse$Queue" "lengths" "[I", .methodLink RX10 11 yX5_init, .instanceMethod yX5_init, .fieldLink RX10 14 "BeamHouse$Up" "rows" "LBeamHouse$Queue;", .classLink RX10 20 RX6, .instantiable RX6 7, .initialized RX6, .code yX6_init cX6_init 1 none, .methodLink RX6 3 objectInit, .fieldLink RX6 9 "BeamHouse$Row" "bytes" "[I", .instanceMethod yX6_init, .fieldLink RX10 23 "BeamHouse$Up" "came" "LBeamHouse$Row;", .fieldLink RX10 27 "BeamHouse$Up" "part" "[I"] : List Cond) ++ wsX50 ++ wsX100 ++ wsX60)
theorem g_c_Up_init_c_Queue_init_8_11 : GoodIn w_c_Up_init w_c_Queue_init_8 := (goodIn_ca (goodIn_r _ [7, 8, 2, 3, 9, 10, 11, 12, 13, 14, 15, 16, 17] rfl rfl) (goodIn_sub (fun _ h => List.mem_cons_of_mem _ (List.mem_append_left _ (List.mem_append_left _ (List.mem_append_right _ h)))) gw_X5))
theorem g_c_Up_init_c_Row_init_22 : GoodIn w_c_Up_init w_c_Row_init := (goodIn_ca (goodIn_r _ [24, 25, 2, 3, 15, 26] rfl rfl) (goodIn_sub (fun _ h => List.mem_cons_of_mem _ (List.mem_append_right _ h)) gw_X6))
set_option maxHeartbeats 4000000 in
set_option maxRecDepth 100000 in
theorem c_Up_init (l : Launch) (D : va_G) (ca : Nat → ClassId) (sz : Nat) (h0 : Nat)  : Met l yX10_init w_c_Up_init ({ frames := 2, cells := 6, slots := 593, locals := 37 }) (Pre D ca [.ref h0] [(h0, .inr (10, [.null, .null, .int 0, .int 0, .null, .int 0, .int 0, .int 0]))] sz) (va_Qv (fun _ : Unit => True) (fun (_ : Unit) (tt : State) => ∃ (q : Nat) (b : Nat) (g : Nat) (cm : Nat) (pt : Nat), Wd D (va_A [(h0, .inr (10, [.null, .null, .int 0, .int 0, .null, .int 0, .int 0, .int 0]))] sz) [(h0, .inr (10, [.ref q, .ref cm, .int 0, .int 0, .ref pt, .int 0, .int 0, .int 0])), (q, .inr (5, [.int 0, .int 8, .int 60, .ref b, .ref g, .int 0]))] tt) (va_A [(h0, .inr (10, [.null, .null, .int 0, .int 0, .null, .int 0, .int 0, .int 0]))] sz)) 6 593 (va_A [(h0, .inr (10, [.null, .null, .int 0, .int 0, .null, .int 0, .int 0, .int 0]))] sz) := by
  refine Met.ofW (cc := cX10_init) (maxL := 1) (ret := none) (by decide) rfl ?_
  intro p e s m args below meth c s₁ B hml hv
  obtain ⟨rfl, hsz, hP, hK, hD0, hN⟩ := hv
  have hx := B.exec
  have hb := B.bytes
  have hr := B.returns
  have hts := atoms_spec (ws := w_c_Up_init) B.pre
  have hown : s.vm.findClass RX10 = some m.cls := findClass_of_methodNamed B.named
  have hlocks := B.notSynchronized
  have hin : meth.name = "<init>" := (name_of_methodNamed B.named B.method).1
  have hi_X5 : ∀ w ∈ wsX50, w ∈ w_c_Up_init := fun _ h => List.mem_cons_of_mem _ (List.mem_append_left _ (List.mem_append_left _ (List.mem_append_right _ h)))
  have hi_X10 : ∀ w ∈ wsX100, w ∈ w_c_Up_init := fun _ h => List.mem_cons_of_mem _ (List.mem_append_left _ (List.mem_append_right _ h))
  have hi_X6 : ∀ w ∈ wsX60, w ∈ w_c_Up_init := fun _ h => List.mem_cons_of_mem _ (List.mem_append_right _ h)
  subst hsz
  have hD := hD0.self (sz := s.heap.size)
  generalize hAe : va_A [(h0, .inr (10, [.null, .null, .int 0, .int 0, .null, .int 0, .int 0, .int 0]))] s.heap.size = A at hD ⊢
  have hA : ∀ q : Nat, s.heap.size ≤ q → A q := fun q h => by rw [← hAe]; exact Or.inr h
  have hS : va_S A s.heap s.heap [] := va_S.rf
  have hP : va_P D vwCl [(h0, .inr (10, [.null, .null, .int 0, .int 0, .null, .int 0, .int 0, .int 0]))] s.heap := hP
  have hl := lv_entry ([.ref h0]) (n := 1) (Nat.le_of_ble_eq_true rfl)
  rw [lg_entry_eq]
  generalize (lg_sl ([.ref h0]) ++ List.replicate (1 - (lg_sl ([.ref h0])).length) Slot.unset).toArray = ls at hl ⊢
  have hl : lv_has ls 1 [(0, .ref h0)] := hl
  refine lv_aload_n hx hb dX10_init_0 rfl (lv_at hl 0 rfl) ?_
  refine W.objInit hx hb hown (hts (.methodLink RX10 3 objectInit) (List.mem_of_getElem? (i := 1) rfl)) (hts (.instanceMethod objectInit) (List.mem_of_getElem? (i := 2) rfl)) (hts (.code objectInit ⟨#[0xb1]⟩ 1 none) (List.mem_of_getElem? (i := 3) rfl)) rfl (by rw [hml]; exact hl.1) rfl dX10_init_1 (Nat.le_of_ble_eq_true rfl) (Nat.le_of_ble_eq_true rfl) ?_
  refine W.eq (g2 := F0 m 4 ls []) rfl ?_
  refine lv_aload_n hx hb dX10_init_4 rfl (lv_at hl 0 rfl) ?_
  refine va_new (ci := 5) (fs := [.int 0, .int 0, .int 0, .null, .null, .int 0]) (C := RX5) (T := TX5) (N := 6) hx hb hts hi_X5 tyX5 tyX5_ok hown (hts (.classLink RX10 9 RX5) (List.mem_of_getElem? (i := 4) rfl)) (hts (.instantiable RX5 6) (List.mem_of_getElem? (i := 5) rfl)) (hts (.initialized RX5) (List.mem_of_getElem? (i := 6) rfl)) hK hP hD hS hA rfl (by decide +kernel) (Nat.le_of_ble_eq_true rfl) (Nat.le_of_ble_eq_true rfl) dX10_init_5 (fun q_1 H hP hD hS => ?_)
  have hP : va_P D vwCl [(h0, .inr (10, [.null, .null, .int 0, .int 0, .null, .int 0, .int 0, .int 0])), (q_1, .inr (5, [.int 0, .int 0, .int 0, .null, .null, .int 0]))] H := hP
  have hD : va_D A [(h0, .inr (10, [.null, .null, .int 0, .int 0, .null, .int 0, .int 0, .int 0])), (q_1, .inr (5, [.int 0, .int 0, .int 0, .null, .null, .int 0]))] := hD
  refine W.widen (k := 1) (n := 6) (Nat.le_of_ble_eq_true rfl) (Nat.le_of_ble_eq_true rfl) ?_
  refine lv_dup hx hb dX10_init_8 rfl ?_
  refine lv_bipush (v := 8) hx hb dX10_init_9 (by decide) ?_
  refine lv_bipush (v := 60) hx hb dX10_init_11 (by decide) ?_
  refine kGo_v (wr := [(h0, .inr (10, [.null, .null, .int 0, .int 0, .null, .int 0, .int 0, .int 0]))]) (kRunI (As := [.int 8, .int 60]) (rest := [.ref q_1, .ref h0]) ⟨hx, hb, hml, hown, hts⟩ (c_Queue_init_8 l D ca _ q_1) (cwI 2 hts g_c_Up_init_c_Queue_init_8_11 rfl rfl rfl (hts (.initialized RX5) (List.mem_of_getElem? (i := 6) rfl)) (hts (.methodLink RX10 11 yX5_init) (List.mem_of_getElem? (i := 18) rfl)) (hts (.instanceMethod yX5_init) (List.mem_of_getElem? (i := 19) rfl)) rfl (by decide +kernel) ⟨Nat.le_of_ble_eq_true rfl, Nat.le_of_ble_eq_true rfl⟩) hK hN hP hD [1] rfl rfl rfl hl.1 rfl (Nat.le_of_ble_eq_true rfl) dX10_init_13 ⟨Nat.le_of_ble_eq_true rfl, Nat.le_of_ble_eq_true rfl⟩) hP hD hS hA [1] [0] rfl rfl rfl (by decide) (fun uu_ tt H locs hr_4 hB hj hS => ?_)
  obtain ⟨b_2, g_3, hWd⟩ := hB
  obtain ⟨hP, hD⟩ := hj _ hWd
  have hP : va_P D vwCl [(h0, .inr (10, [.null, .null, .int 0, .int 0, .null, .int 0, .int 0, .int 0])), (q_1, .inr (5, [.int 0, .int 8, .int 60, .ref b_2, .ref g_3, .int 0]))] H := hP
  have hD : va_D A [(h0, .inr (10, [.null, .null, .int 0, .int 0, .null, .int 0, .int 0, .int 0])), (q_1, .inr (5, [.int 0, .int 8, .int 60, .ref b_2, .ref g_3, .int 0]))] := hD
  refine W.widen (k := 3) (n := 494) (Nat.le_of_ble_eq_true rfl) (Nat.le_of_ble_eq_true rfl) ?_
  refine va_putF (D := D) (ci := 10) (v := .ref q_1) (ty := .object "BeamHouse$Queue") (C := RX10) (T := TX10) (N := 8) hx hb hts hi_X10 tyX10 tyX10_ok nmX10 hown hK hP hD hS 0 rfl rfl 0 (by decide) (hts (.fieldLink RX10 14 "BeamHouse$Up" "rows" "LBeamHouse$Queue;") (List.mem_of_getElem? (i := 20) rfl)) (fun _ h9 => h9) rfl hin rfl (by decide +kernel) rfl rfl (Nat.le_of_ble_eq_true rfl) dX10_init_16 (fun H locs hP hD hS => ?_)
  have hP : va_P D vwCl [(h0, .inr (10, [.ref q_1, .null, .int 0, .int 0, .null, .int 0, .int 0, .int 0])), (q_1, .inr (5, [.int 0, .int 8, .int 60, .ref b_2, .ref g_3, .int 0]))] H := hP
  have hD : va_D A [(h0, .inr (10, [.ref q_1, .null, .int 0, .int 0, .null, .int 0, .int 0, .int 0])), (q_1, .inr (5, [.int 0, .int 8, .int 60, .ref b_2, .ref g_3, .int 0]))] := hD
  refine lv_aload_n hx hb dX10_init_19 rfl (lv_at hl 0 rfl) ?_
  refine va_new (ci := 6) (fs := [.null, .int 0, .long 0, .int 0, .int 0, .int 0, .int 0]) (C := RX6) (T := TX6) (N := 7) hx hb hts hi_X6 tyX6 tyX6_ok hown (hts (.classLink RX10 20 RX6) (List.mem_of_getElem? (i := 21) rfl)) (hts (.instantiable RX6 7) (List.mem_of_getElem? (i := 22) rfl)) (hts (.initialized RX6) (List.mem_of_getElem? (i := 23) rfl)) hK hP hD hS hA rfl (by decide +kernel) (Nat.le_of_ble_eq_true rfl) (Nat.le_of_ble_eq_true rfl) dX10_init_20 (fun q_5 H hP hD hS => ?_)
  have hP : va_P D vwCl [(h0, .inr (10, [.ref q_1, .null, .int 0, .int 0, .null, .int 0, .int 0, .int 0])), (q_1, .inr (5, [.int 0, .int 8, .int 60, .ref b_2, .ref g_3, .int 0])), (q_5, .inr (6, [.null, .int 0, .long 0, .int 0, .int 0, .int 0, .int 0]))] H := hP
  have hD : va_D A [(h0, .inr (10, [.ref q_1, .null, .int 0, .int 0, .null, .int 0, .int 0, .int 0])), (q_1, .inr (5, [.int 0, .int 8, .int 60, .ref b_2, .ref g_3, .int 0])), (q_5, .inr (6, [.null, .int 0, .long 0, .int 0, .int 0, .int 0, .int 0]))] := hD
  refine W.widen (k := 4) (n := 501) (Nat.le_of_ble_eq_true rfl) (Nat.le_of_ble_eq_true rfl) ?_
  refine lv_dup hx hb dX10_init_23 rfl ?_
  refine kGo_v (wr := [(h0, .inr (10, [.ref q_1, .null, .int 0, .int 0, .null, .int 0, .int 0, .int 0])), (q_1, .inr (5, [.int 0, .int 8, .int 60, .ref b_2, .ref g_3, .int 0]))]) (kRunIN (As := []) (rest := [.ref q_5, .ref h0]) ⟨hx, hb, hml, hown, hts⟩ (c_Row_init l D ca _ q_5) ⟨va_cnB 0 hts g_c_Up_init_c_Row_init_22 rfl rfl rfl (hN.1 (RX10, 22, yX6_init) (List.mem_of_getElem? (i := 10) rfl)) (hts (.initialized RX6) (List.mem_of_getElem? (i := 23) rfl)) (by decide +kernel) ⟨Nat.le_of_ble_eq_true rfl, Nat.le_of_ble_eq_true rfl⟩, rfl, (hts (.instanceMethod yX6_init) (List.mem_of_getElem? (i := 27) rfl))⟩ hK hN hP hD [2] rfl rfl rfl hl.1 rfl (Nat.le_of_ble_eq_true rfl) dX10_init_24 ⟨Nat.le_of_ble_eq_true rfl, Nat.le_of_ble_eq_true rfl⟩) hP hD hS hA [2] [0, 1] rfl rfl rfl (by decide) (fun uu_ tt H locs hr_6 hB hj hS => ?_)
  have hWd := hB
  obtain ⟨hP, hD⟩ := hj _ hWd
  have hP : va_P D vwCl [(h0, .inr (10, [.ref q_1, .null, .int 0, .int 0, .null, .int 0, .int 0, .int 0])), (q_1, .inr (5, [.int 0, .int 8, .int 60, .ref b_2, .ref g_3, .int 0]))] H := hP
  have hD : va_D A [(h0, .inr (10, [.ref q_1, .null, .int 0, .int 0, .null, .int 0, .int 0, .int 0])), (q_1, .inr (5, [.int 0, .int 8, .int 60, .ref b_2, .ref g_3, .int 0]))] := hD
  refine W.widen (k := 5) (n := 561) (Nat.le_of_ble_eq_true rfl) (Nat.le_of_ble_eq_true rfl) ?_
  refine va_putF (D := D) (ci := 10) (v := .ref q_5) (ty := .object "BeamHouse$Row") (C := RX10) (T := TX10) (N := 8) hx hb hts hi_X10 tyX10 tyX10_ok nmX10 hown hK hP hD hS 0 rfl rfl 1 (by decide) (hts (.fieldLink RX10 23 "BeamHouse$Up" "came" "LBeamHouse$Row;") (List.mem_of_getElem? (i := 28) rfl)) (fun _ h9 => h9) rfl hin rfl (by decide +kernel) rfl rfl (Nat.le_of_ble_eq_true rfl) dX10_init_27 (fun H locs hP hD hS => ?_)
  have hP : va_P D vwCl [(h0, .inr (10, [.ref q_1, .ref q_5, .int 0, .int 0, .null, .int 0, .int 0, .int 0])), (q_1, .inr (5, [.int 0, .int 8, .int 60, .ref b_2, .ref g_3, .int 0]))] H := hP
  have hD : va_D A [(h0, .inr (10, [.ref q_1, .ref q_5, .int 0, .int 0, .null, .int 0, .int 0, .int 0])), (q_1, .inr (5, [.int 0, .int 8, .int 60, .ref b_2, .ref g_3, .int 0]))] := hD
  refine lv_aload_n hx hb dX10_init_30 rfl (lv_at hl 0 rfl) ?_
  refine lv_bipush (v := 32) hx hb dX10_init_31 (by decide) ?_
  refine va_newa (atype := .int) (a0 := (32, .inl (fun _ => 0))) hx hb (hts (.arrayClass .int) (List.mem_of_getElem? (i := 15) rfl)) rfl hK hP hD hS hA (fun _ => rfl) (by decide) (by decide) (by decide) (Nat.le_of_ble_eq_true rfl) (Nat.le_of_ble_eq_true rfl) dX10_init_33 (fun q_7 cA H hK1 hP hD hS => ?_)
  obtain rfl := k_ca (ca := ca) hK1 0 rfl (Or.inl rfl)
  have hP : va_P D vwCl [(h0, .inr (10, [.ref q_1, .ref q_5, .int 0, .int 0, .null, .int 0, .int 0, .int 0])), (q_1, .inr (5, [.int 0, .int 8, .int 60, .ref b_2, .ref g_3, .int 0])), (q_7, .inl (ca 0, 32, .inl (fun _ => 0)))] H := hP
  have hD : va_D A [(h0, .inr (10, [.ref q_1, .ref q_5, .int 0, .int 0, .null, .int 0, .int 0, .int 0])), (q_1, .inr (5, [.int 0, .int 8, .int 60, .ref b_2, .ref g_3, .int 0])), (q_7, .inl (ca 0, 32, .inl (fun _ => 0)))] := hD
  refine W.widen (k := 6) (n := 593) (Nat.le_of_ble_eq_true rfl) (Nat.le_of_ble_eq_true rfl) ?_
  refine va_putF (D := D) (ci := 10) (v := .ref q_7) (ty := .array .int) (C := RX10) (T := TX10) (N := 8) hx hb hts hi_X10 tyX10 tyX10_ok nmX10 hown hK hP hD hS 0 rfl rfl 4 (by decide) (hts (.fieldLink RX10 27 "BeamHouse$Up" "part" "[I") (List.mem_of_getElem? (i := 29) rfl)) (fun _ h9 => h9) rfl hin rfl (by decide +kernel) rfl rfl (Nat.le_of_ble_eq_true rfl) dX10_init_35 (fun H locs hP hD hS => ?_)
  have hP : va_P D vwCl [(h0, .inr (10, [.ref q_1, .ref q_5, .int 0, .int 0, .ref q_7, .int 0, .int 0, .int 0])), (q_1, .inr (5, [.int 0, .int 8, .int 60, .ref b_2, .ref g_3, .int 0])), (q_7, .inl (ca 0, 32, .inl (fun _ => 0)))] H := hP
  have hD : va_D A [(h0, .inr (10, [.ref q_1, .ref q_5, .int 0, .int 0, .ref q_7, .int 0, .int 0, .int 0])), (q_1, .inr (5, [.int 0, .int 8, .int 60, .ref b_2, .ref g_3, .int 0])), (q_7, .inl (ca 0, 32, .inl (fun _ => 0)))] := hD
  exact W.vret hx hb hr (fun tt ht hW => ⟨⟨(), rfl, trivial, ⟨q_1, b_2, g_3, q_5, q_7, ⟨by rw [ht]; exact hP.sub [0, 1] rfl, hD.sub [0, 1] rfl rfl⟩⟩⟩, hS.F ht⟩) hS.2.2 dX10_init_38

def w_c_nameKey : List Cond := .code yX11_nameKey cX11_nameKey 8 (some .long) :: (([.constantLong RX11 232 (255)] : List Cond))
set_option maxHeartbeats 4000000 in
set_option maxRecDepth 100000 in
theorem c_nameKey (l : Launch) (D : va_G) (ca : Nat → ClassId) (sz : Nat) (nm : Int64) (n : Int32)  : Met l yX11_nameKey w_c_nameKey ({ frames := 0, cells := 0, slots := 0, locals := 0 }) (Pre D ca [.long nm, .int n] [] sz) (va_Ql (fun (r : Int64) (_ : Unit) => (r ≠ 0 ↔ okN nm n)) (fun (_ : Unit) (tt : State) => Wd D (va_A [] sz) [] tt) (va_A [] sz)) 0 0 (va_A [] sz) := by
  refine Met.ofW (cc := cX11_nameKey) (maxL := 8) (ret := (some .long)) (by decide) rfl ?_
  intro p e s m args below meth c s₁ B hml hv
  obtain ⟨rfl, hsz, hP, hK, hD0, hN⟩ := hv
  have hx := B.exec
  have hb := B.bytes
  have hr := B.returns
  have hts := atoms_spec (ws := w_c_nameKey) B.pre
  have hown : s.vm.findClass RX11 = some m.cls := findClass_of_methodNamed B.named
  have hlocks := B.notSynchronized
  subst hsz
  have hD := hD0.self (sz := s.heap.size)
  generalize hAe : va_A [] s.heap.size = A at hD ⊢
  have hA : ∀ q : Nat, s.heap.size ≤ q → A q := fun q h => by rw [← hAe]; exact Or.inr h
  have hS : va_S A s.heap s.heap [] := va_S.rf
  have hP : va_P D vwCl [] s.heap := hP
  have hl := lv_entry ([.long nm, .int n]) (n := 8) (Nat.le_of_ble_eq_true rfl)
  rw [lg_entry_eq]
  generalize (lg_sl ([.long nm, .int n]) ++ List.replicate (8 - (lg_sl ([.long nm, .int n])).length) Slot.unset).toArray = ls at hl ⊢
  have hl : lv_has ls 8 [(0, .long nm), (2, .int n)] := hl
  refine lv_iload_n hx hb dX11_nameKey_0 rfl (lv_at hl 1 rfl) ?_
  refine lv_iconst (v := 1) hx hb dX11_nameKey_1 (by decide) ?_
  refine lv_icmp_lt (tgt := 11) hx hb dX11_nameKey_2 (by decide) (fun c_2 => ?_) (fun c_2 => ?_)
  · refine lv_lconst (v := 0) hx hb dX11_nameKey_11 (by decide) ?_
    exact W.lret (v := 0) hx hb hr (fun tt ht hW => ⟨⟨0, (), rfl, ⟨fun h => absurd rfl h, fun h => absurd h (okN_lt c_2)⟩, ⟨by rw [ht]; exact hP.sub [] rfl, hD.sub [] rfl rfl⟩⟩, hS.F ht⟩) hS.2.2 dX11_nameKey_12
  · refine lv_iload_n hx hb dX11_nameKey_5 rfl (lv_at hl 1 rfl) ?_
    refine lv_bipush (v := 8) hx hb dX11_nameKey_6 (by decide) ?_
    refine lv_icmp_le (tgt := 13) hx hb dX11_nameKey_8 (by decide) (fun c_8 => ?_) (fun c_8 => ?_)
    · obtain ⟨nn, hn8, rfl⟩ := nI_of2 (M := 8) (n := 8) (by decide) (fun h => c_2 (Int32.lt_trans h (by decide))) c_8
      have hn1 : 1 ≤ nn := Nat.pos_of_ne_zero (fun h => c_2 (by rw [h]; decide))
      refine lv_lconst (v := 0) hx hb dX11_nameKey_13 (by decide) ?_
      refine lv_lstore_n (lv' := [(3, .long 0), (0, .long nm), (2, .int (nI nn))]) hx hb dX11_nameKey_14 rfl hl (by decide) rfl (fun ls hl => ?_)
      refine lv_bipush (v := 8) hx hb dX11_nameKey_15 (by decide) ?_
      refine lv_iload_n hx hb dX11_nameKey_17 rfl (lv_at hl 2 rfl) ?_
      refine lv_iconst (v := 1) hx hb dX11_nameKey_18 (by decide) ?_
      refine lv_isub hx hb dX11_nameKey_19 ?_
      refine lv_topi (fun x_1 ex_1 => ?_)
      refine lv_imul hx hb dX11_nameKey_20 ?_
      refine lv_topn (nI (8 * nn) - 8) (by rw [ex_1]; exact sh0 hn8) ?_
      refine lv_istore (lv' := [(5, .int (nI (8 * nn) - 8)), (3, .long 0), (0, .long nm), (2, .int (nI nn))]) hx hb dX11_nameKey_21 hl (by decide) rfl (fun ls hl => ?_)
      have key_23 : ∀ (fu : Nat) (j : Nat) (ky : Int64) (hj : j ≤ nn) (hky : j < nn → ky ≠ 0) (hal : ∀ q : Nat, j ≤ q → q < nn → oct8 nm (nI (8 * q)) ≠ 0) (hm_23 : j + 1 ≤ fu) (H : Heap) (locs : List Loc) (ls : Array Slot), va_P D vwCl [] H → va_D A [] → va_S A s.heap H locs → lv_has ls 8 [(5, .int (nI (8 * j) - 8)), (3, .long ky), (2, .int (nI nn)), (0, .long nm)] → W p l e (headSpec w_c_nameKey ({ frames := 0, cells := 0, slots := 0, locals := 0 })).room s m [.long nm, .int (nI nn)].toArray below meth c H locs 0 0 (MQ below (va_Ql (fun (r : Int64) (_ : Unit) => (r ≠ 0 ↔ okN nm (nI nn))) (fun (_ : Unit) (tt : State) => Wd D (A) [] tt) (A)) [.long nm, .int (nI nn)].toArray s 0 0 A) (F0 m 23 ls []) := by
        intro fu
        induction fu with
        | zero =>
          intro j ky hj hky hal hm_23
          exact absurd hm_23 (by omega)
        | succ fu ih_23 =>
          intro j ky hj hky hal hm_23 H locs ls hP hD hS hl
          refine lv_iload hx hb dX11_nameKey_23 (lv_at hl 0 rfl) ?_
          refine lv_if_lt (tgt := 61) hx hb dX11_nameKey_25 (by decide) (fun c_25 => ?_) (fun c_25 => ?_)
          · refine lv_lload_n hx hb dX11_nameKey_61 rfl (lv_at hl 1 rfl) ?_
            exact W.lret (v := ky) hx hb hr (fun tt ht hW => ⟨⟨ky, (), rfl, ⟨fun _ => ⟨nn, rfl, hn1, hn8, fun q hq => hal q (by have := sh_zero (by omega) c_25; omega) hq⟩, fun _ => hky (by have := sh_zero (by omega) c_25; omega)⟩, ⟨by rw [ht]; exact hP.sub [] rfl, hD.sub [] rfl rfl⟩⟩, hS.F ht⟩) hS.2.2 dX11_nameKey_62
          · obtain ⟨i, rfl⟩ := sh_pos c_25
            rw [sh_eq (by omega)] at hl
            refine lv_lload_n hx hb dX11_nameKey_28 rfl (lv_at hl 3 rfl) ?_
            refine lv_iload hx hb dX11_nameKey_29 (lv_at hl 0 rfl) ?_
            refine lv_lushr hx hb dX11_nameKey_31 rfl ?_
            refine lv_topl (fun y_2 ey_2 => ?_)
            refine lv_ldc2 (v := 255) hx hb hown (hts (.constantLong RX11 232 (255)) (List.mem_of_getElem? (i := 1) rfl)) dX11_nameKey_32 ?_
            refine lv_land hx hb dX11_nameKey_35 ?_
            refine lv_topl (fun y_3 ey_3 => ?_)
            refine lv_lstore (lv' := [(6, .long y_3), (5, .int (nI (8 * i))), (3, .long ky), (2, .int (nI nn)), (0, .long nm)]) hx hb dX11_nameKey_36 hl (by decide) rfl (fun ls hl => ?_)
            have hy8 : y_3 = oct8 nm (nI (8 * i)) := by rw [ey_3, ey_2]; rfl
            refine lv_lload hx hb dX11_nameKey_38 (lv_at hl 0 rfl) ?_
            refine lv_lconst (v := 0) hx hb dX11_nameKey_40 (by decide) ?_
            refine W.lcmp hx hb dX11_nameKey_41 ?_
            refine lv_topi (fun x_4 ex_4 => ?_)
            refine lv_if_ne (tgt := 47) hx hb dX11_nameKey_42 (by decide) (fun c_42 => ?_) (fun c_42 => ?_)
            · have hoct : y_3 ≠ 0 := fun h => c_42 (by rw [ex_4, h]; exact lg0.mpr rfl)
              have hoct8 : oct8 nm (nI (8 * i)) ≠ 0 := fun h => hoct (hy8.trans h)
              refine lv_lload_n hx hb dX11_nameKey_47 rfl (lv_at hl 2 rfl) ?_
              refine lv_bipush (v := 8) hx hb dX11_nameKey_48 (by decide) ?_
              refine lv_lshl hx hb dX11_nameKey_50 rfl ?_
              refine lv_topl (fun y_5 ey_5 => ?_)
              refine lv_lload hx hb dX11_nameKey_51 (lv_at hl 0 rfl) ?_
              refine lv_lor hx hb dX11_nameKey_53 ?_
              refine lv_topl (fun y_6 ey_6 => ?_)
              refine lv_lstore_n (lv' := [(3, .long y_6), (6, .long y_3), (5, .int (nI (8 * i))), (2, .int (nI nn)), (0, .long nm)]) hx hb dX11_nameKey_54 rfl hl (by decide) rfl (fun ls hl => ?_)
              refine lv_iinc (v := (nI (8 * i) - 8)) (lv' := [(5, .int (nI (8 * i) - 8)), (3, .long y_6), (6, .long y_3), (2, .int (nI nn)), (0, .long nm)]) hx hb dX11_nameKey_55 hl (k := 2) rfl (sh_dec _) (by decide) rfl (fun ls hl => ?_)
              refine lv_goto (tgt := 23) hx hb dX11_nameKey_58 (by decide) ?_
              exact ih_23 i y_6 (by omega) (fun _ => by rw [ey_6]; exact or_ne0 hoct) (fun q h1 h2 => by rcases Nat.lt_or_ge q (i + 1) with z | z; exact (show q = i by omega) ▸ hoct8; exact hal q z h2) (by omega) _ _ _ hP hD hS (lv_sub hl [0, 1, 3, 4] rfl)
            · refine lv_lconst (v := 0) hx hb dX11_nameKey_45 (by decide) ?_
              exact W.lret (v := 0) hx hb hr (fun tt ht hW => ⟨⟨0, (), rfl, ⟨fun h => absurd rfl h, fun h => absurd h (okN_at hn8 (by omega) (hy8.symm.trans (lg0.mp (ex_4.symm.trans c_42))))⟩, ⟨by rw [ht]; exact hP.sub [] rfl, hD.sub [] rfl rfl⟩⟩, hS.F ht⟩) hS.2.2 dX11_nameKey_46
      exact key_23 (nn + 1) nn 0 (by omega) (fun h => absurd h (by omega)) (fun q h1 h2 => absurd h2 (by omega)) (by omega) _ _ _ hP hD hS (lv_sub hl [0, 1, 3, 2] rfl)
    · refine lv_lconst (v := 0) hx hb dX11_nameKey_11 (by decide) ?_
      exact W.lret (v := 0) hx hb hr (fun tt ht hW => ⟨⟨0, (), rfl, ⟨fun h => absurd rfl h, fun h => absurd h (okN_gt c_8)⟩, ⟨by rw [ht]; exact hP.sub [] rfl, hD.sub [] rfl rfl⟩⟩, hS.F ht⟩) hS.2.2 dX11_nameKey_12
def w_c_find : List Cond := .code yX8_find cX8_find 4 (some (.object "BeamHouse$Thing")) :: (([.fieldLink RX8 18 "BeamHouse$Store" "count" "I"] : List Cond) ++ wsX80)
set_option maxHeartbeats 4000000 in
set_option maxRecDepth 100000 in
theorem c_find (l : Launch) (D : va_G) (ca : Nat → ClassId) (sz : Nat) (a : Nat → Nat) (ky : Int64)  : Met l yX8_find w_c_find ({ frames := 0, cells := 0, slots := 0, locals := 0 }) (Pre D ca [.ref (a 11), .long ky] [((a 11), .inr (8, [.int 0, .ref (a 12)]))] sz) (va_Qq (fun (r : Option Nat) (_ : Unit) => r = none) (fun (_ : Unit) (tt : State) => Wd D (va_A [((a 11), .inr (8, [.int 0, .ref (a 12)]))] sz) [] tt) (va_A [((a 11), .inr (8, [.int 0, .ref (a 12)]))] sz)) 0 0 (va_A [((a 11), .inr (8, [.int 0, .ref (a 12)]))] sz) := by
  refine Met.ofW (cc := cX8_find) (maxL := 4) (ret := (some (.object "BeamHouse$Thing"))) (by decide) rfl ?_
  intro p e s m args below meth c s₁ B hml hv
  obtain ⟨rfl, hsz, hP, hK, hD0, hN⟩ := hv
  have hx := B.exec
  have hb := B.bytes
  have hr := B.returns
  have hts := atoms_spec (ws := w_c_find) B.pre
  have hown : s.vm.findClass RX8 = some m.cls := findClass_of_methodNamed B.named
  have hlocks := B.notSynchronized
  have hi_X8 : ∀ w ∈ wsX80, w ∈ w_c_find := fun _ h => List.mem_cons_of_mem _ (List.mem_append_right _ h)
  subst hsz
  have hD := hD0.self (sz := s.heap.size)
  generalize hAe : va_A [((a 11), .inr (8, [.int 0, .ref (a 12)]))] s.heap.size = A at hD ⊢
  have hA : ∀ q : Nat, s.heap.size ≤ q → A q := fun q h => by rw [← hAe]; exact Or.inr h
  have hS : va_S A s.heap s.heap [] := va_S.rf
  have hP : va_P D vwCl [((a 11), .inr (8, [.int 0, .ref (a 12)]))] s.heap := hP
  have hl := lv_entry ([.ref (a 11), .long ky]) (n := 4) (Nat.le_of_ble_eq_true rfl)
  rw [lg_entry_eq]
  generalize (lg_sl ([.ref (a 11), .long ky]) ++ List.replicate (4 - (lg_sl ([.ref (a 11), .long ky])).length) Slot.unset).toArray = ls at hl ⊢
  have hl : lv_has ls 4 [(0, .ref (a 11)), (1, .long ky)] := hl
  refine lv_iconst (v := 0) hx hb dX8_find_0 (by decide) ?_
  refine lv_istore_n (lv' := [(3, .int 0), (0, .ref (a 11)), (1, .long ky)]) hx hb dX8_find_1 rfl hl (by decide) rfl (fun ls hl => ?_)
  refine lv_iload_n hx hb dX8_find_2 rfl (lv_at hl 0 rfl) ?_
  refine lv_aload_n hx hb dX8_find_3 rfl (lv_at hl 1 rfl) ?_
  refine va_get (D := D) (ci := 8) (v := .int 0) (C := RX8) (T := TX8) (N := 2) hx hb hts hi_X8 hown hK hP 0 rfl rfl 0 (by decide) (hts (.fieldLink RX8 18 "BeamHouse$Store" "count" "I") (List.mem_of_getElem? (i := 1) rfl)) (fun _ h9 => h9) rfl dX8_find_4 ?_
  refine lv_icmp_ge (tgt := 49) hx hb dX8_find_7 (by decide) (fun _ => ?_) (fun h => absurd (by decide) h)
  refine lv_null hx hb dX8_find_49 ?_
  exact W.aret (v := .null) hx hb hr (Or.inl ⟨_, rfl⟩) (Or.inl rfl) (fun tt ht hW => ⟨⟨none, (), rfl, rfl, ⟨by rw [ht]; exact hP.sub [] rfl, hD.sub [] rfl rfl⟩⟩, hS.F ht⟩) hS.2.2 dX8_find_50
def w_c_thingAt_no : List Cond := .code yX11_thingAt cX11_thingAt 6 (some (.object "BeamHouse$Thing")) :: (([.code yX11_deviceAt cX11_deviceAt 2 (some (.object "BeamHouse$Device")), .methodLink RX11 22 yX11_deviceAt, .instanceMethod yX11_deviceAt, .selects RX11 yX11_deviceAt yX11_deviceAt, .initialized RX11] : List Cond))
theorem g_c_thingAt_no_c_deviceAt_no_22 : GoodIn w_c_thingAt_no (wsV RX11 22 RX11 yX11_deviceAt w_c_deviceAt_no) := (goodIn_app (goodIn_r _ [2, 3, 4, 5] rfl rfl) (goodIn_r _ [1] rfl rfl))
set_option maxHeartbeats 4000000 in
set_option maxRecDepth 100000 in
theorem c_thingAt_no (l : Launch) (D : va_G) (ca : Nat → ClassId) (sz : Nat) (h0 : Nat) (dv : Nat) (tp : Nat) (d : Int32) (nm : Int64) (n : Int32) (hd : d < 0 ∨ 4 ≤ d) : Met l yX11_thingAt w_c_thingAt_no ({ frames := 1, cells := 0, slots := 0, locals := 21 }) (Pre D ca [.ref h0, .int d, .long nm, .int n] [(h0, .inr (11, [.ref dv, .ref tp, .int 0]))] sz) (va_Qq (fun (r : Option Nat) (_ : Unit) => r = none) (fun (_ : Unit) (tt : State) => Wd D (va_A [(h0, .inr (11, [.ref dv, .ref tp, .int 0]))] sz) [] tt) (va_A [(h0, .inr (11, [.ref dv, .ref tp, .int 0]))] sz)) 0 0 (va_A [(h0, .inr (11, [.ref dv, .ref tp, .int 0]))] sz) := by
  refine Met.ofW (cc := cX11_thingAt) (maxL := 6) (ret := (some (.object "BeamHouse$Thing"))) (by decide) rfl ?_
  intro p e s m args below meth c s₁ B hml hv
  obtain ⟨rfl, hsz, hP, hK, hD0, hN⟩ := hv
  have hx := B.exec
  have hb := B.bytes
  have hr := B.returns
  have hts := atoms_spec (ws := w_c_thingAt_no) B.pre
  have hown : s.vm.findClass RX11 = some m.cls := findClass_of_methodNamed B.named
  have hlocks := B.notSynchronized
  subst hsz
  have hD := hD0.self (sz := s.heap.size)
  generalize hAe : va_A [(h0, .inr (11, [.ref dv, .ref tp, .int 0]))] s.heap.size = A at hD ⊢
  have hA : ∀ q : Nat, s.heap.size ≤ q → A q := fun q h => by rw [← hAe]; exact Or.inr h
  have hS : va_S A s.heap s.heap [] := va_S.rf
  have hP : va_P D vwCl [(h0, .inr (11, [.ref dv, .ref tp, .int 0]))] s.heap := hP
  have hl := lv_entry ([.ref h0, .int d, .long nm, .int n]) (n := 6) (Nat.le_of_ble_eq_true rfl)
  rw [lg_entry_eq]
  generalize (lg_sl ([.ref h0, .int d, .long nm, .int n]) ++ List.replicate (6 - (lg_sl ([.ref h0, .int d, .long nm, .int n])).length) Slot.unset).toArray = ls at hl ⊢
  have hl : lv_has ls 6 [(0, .ref h0), (1, .int d), (2, .long nm), (4, .int n)] := hl
  refine lv_aload_n hx hb dX11_thingAt_0 rfl (lv_at hl 0 rfl) ?_
  refine lv_iload_n hx hb dX11_thingAt_1 rfl (lv_at hl 1 rfl) ?_
  refine kGo_q (wr := []) (kRunV (As := [.int d]) (rest := []) ⟨hx, hb, hml, hown, hts⟩ (c_deviceAt_no l D ca _ h0 dv tp d hd) (cwV 1 hts g_c_thingAt_no_c_deviceAt_no_22 rfl rfl rfl (by decide +kernel) ⟨Nat.le_of_ble_eq_true rfl, Nat.le_of_ble_eq_true rfl⟩) hK hN hP hD [0] rfl rfl rfl rfl rfl rfl hl.1 rfl (Nat.le_of_ble_eq_true rfl) dX11_thingAt_2 ⟨Nat.le_of_ble_eq_true rfl, Nat.le_of_ble_eq_true rfl⟩) hP hD hS hA [0] [] rfl rfl rfl (by decide) (fun r_1 uu_ tt H locs hr_1 hB hj hS => ?_)
  have hWd := hB
  obtain ⟨hP, hD⟩ := hj _ hWd
  have hP : va_P D vwCl [(h0, .inr (11, [.ref dv, .ref tp, .int 0]))] H := hP
  have hD : va_D A [(h0, .inr (11, [.ref dv, .ref tp, .int 0]))] := hD
  subst hr_1
  refine W.eq (g2 := F0 m 5 ls [.null]) rfl ?_
  refine lv_astoreN (lv' := [(5, .null), (0, .ref h0), (1, .int d), (2, .long nm), (4, .int n)]) hx hb dX11_thingAt_5 hl (by decide) rfl (fun ls hl => ?_)
  refine lv_aloadN hx hb dX11_thingAt_7 (lv_at hl 0 rfl) ?_
  refine lv_ifnonnullN hx hb dX11_thingAt_9 ?_
  refine lv_null hx hb dX11_thingAt_12 ?_
  refine lv_goto (tgt := 33) hx hb dX11_thingAt_13 (by decide) ?_
  exact W.aret (v := .null) hx hb hr (Or.inl ⟨_, rfl⟩) (Or.inl rfl) (fun tt ht hW => ⟨⟨none, (), rfl, rfl, ⟨by rw [ht]; exact hP.sub [] rfl, hD.sub [] rfl rfl⟩⟩, hS.F ht⟩) hS.2.2 dX11_thingAt_33
def w_c_thingAt_yes : List Cond := .code yX11_thingAt cX11_thingAt 6 (some (.object "BeamHouse$Thing")) :: (([.code yX11_deviceAt cX11_deviceAt 2 (some (.object "BeamHouse$Device")), .fieldLink RX11 11 "BeamHouse" "devices" "[LBeamHouse$Device;", .methodLink RX11 22 yX11_deviceAt, .instanceMethod yX11_deviceAt, .selects RX11 yX11_deviceAt yX11_deviceAt, .initialized RX11, .fieldLink RX11 119 "BeamHouse$Device" "objects" "LBeamHouse$Objects;", .fieldLink RX11 123 "BeamHouse$Objects" "store" "LBeamHouse$Store;", .code yX11_nameKey cX11_nameKey 8 (some .long), .constantLong RX11 232 (255), .methodLink RX11 115 yX11_nameKey, .static yX11_nameKey, .code yX8_find cX8_find 4 (some (.object "BeamHouse$Thing")), .fieldLink RX8 18 "BeamHouse$Store" "count" "I", .methodLink RX11 147 yX8_find, .instanceMethod yX8_find, .selects RX8 yX8_find yX8_find, .initialized RX8] : List Cond) ++ wsX110 ++ wsX10 ++ wsX40 ++ wsX80)
theorem g_c_thingAt_yes_c_deviceAt_yes_22 : GoodIn w_c_thingAt_yes (wsV RX11 22 RX11 yX11_deviceAt w_c_deviceAt_yes) := (goodIn_app (goodIn_r _ [3, 4, 5, 6] rfl rfl) (goodIn_ca (goodIn_r _ [1, 2] rfl rfl) (goodIn_sub (fun _ h => List.mem_cons_of_mem _ (List.mem_append_left _ (List.mem_append_left _ (List.mem_append_left _ (List.mem_append_right _ h))))) gw_X11)))
theorem g_c_thingAt_yes_c_nameKey_115 : GoodIn w_c_thingAt_yes (va_wsS RX11 115 yX11_nameKey w_c_nameKey) := (goodIn_app (goodIn_r _ [11, 12, 6] rfl rfl) (goodIn_r _ [9, 10] rfl rfl))
theorem g_c_thingAt_yes_c_find_147 : GoodIn w_c_thingAt_yes (wsV RX11 147 RX8 yX8_find w_c_find) := (goodIn_app (goodIn_r _ [15, 16, 17, 18] rfl rfl) (goodIn_ca (goodIn_r _ [13, 14] rfl rfl) (goodIn_sub (fun _ h => List.mem_cons_of_mem _ (List.mem_append_right _ h)) gw_X8)))
set_option maxHeartbeats 4000000 in
set_option maxRecDepth 100000 in
theorem c_thingAt_yes (l : Launch) (D : va_G) (ca : Nat → ClassId) (sz : Nat) (h0 : Nat) (dv : Nat) (tp : Nat) (fd : Nat → Option Nat) (a : Nat → Nat) (k : Nat) (nm : Int64) (n : Int32) (hk : k < 4) (hfd : fd k = some (a 0)) : Met l yX11_thingAt w_c_thingAt_yes ({ frames := 1, cells := 0, slots := 0, locals := 27 }) (Pre D ca [.ref h0, .int (nI k), .long nm, .int n] [(h0, .inr (11, [.ref dv, .ref tp, .int 0])), (dv, .inl (ca 2, 4, .inr (.inr (.inr (.inr fd))))), ((a 0), .inr (1, [.ref (a 1), .ref (a 4), .ref (a 5), .ref (a 6), .ref (a 8), .ref (a 10), .int 0, .int (nI (k + 1)), .int (nI k)])), ((a 10), .inr (4, [.ref (a 11), .ref (a 23), .int 0, .ref (a 24), .int 0, .int 0, .int 0, .ref (a 25), .int 0, .ref (a 26), .int 0, .int 0])), ((a 11), .inr (8, [.int 0, .ref (a 12)]))] sz) (va_Qq (fun (r : Option Nat) (_ : Unit) => r = none) (fun (_ : Unit) (tt : State) => Wd D (va_A [(h0, .inr (11, [.ref dv, .ref tp, .int 0])), (dv, .inl (ca 2, 4, .inr (.inr (.inr (.inr fd))))), ((a 0), .inr (1, [.ref (a 1), .ref (a 4), .ref (a 5), .ref (a 6), .ref (a 8), .ref (a 10), .int 0, .int (nI (k + 1)), .int (nI k)])), ((a 10), .inr (4, [.ref (a 11), .ref (a 23), .int 0, .ref (a 24), .int 0, .int 0, .int 0, .ref (a 25), .int 0, .ref (a 26), .int 0, .int 0])), ((a 11), .inr (8, [.int 0, .ref (a 12)]))] sz) [] tt) (va_A [(h0, .inr (11, [.ref dv, .ref tp, .int 0])), (dv, .inl (ca 2, 4, .inr (.inr (.inr (.inr fd))))), ((a 0), .inr (1, [.ref (a 1), .ref (a 4), .ref (a 5), .ref (a 6), .ref (a 8), .ref (a 10), .int 0, .int (nI (k + 1)), .int (nI k)])), ((a 10), .inr (4, [.ref (a 11), .ref (a 23), .int 0, .ref (a 24), .int 0, .int 0, .int 0, .ref (a 25), .int 0, .ref (a 26), .int 0, .int 0])), ((a 11), .inr (8, [.int 0, .ref (a 12)]))] sz)) 0 0 (va_A [(h0, .inr (11, [.ref dv, .ref tp, .int 0])), (dv, .inl (ca 2, 4, .inr (.inr (.inr (.inr fd))))), ((a 0), .inr (1, [.ref (a 1), .ref (a 4), .ref (a 5), .ref (a 6), .ref (a 8), .ref (a 10), .int 0, .int (nI (k + 1)), .int (nI k)])), ((a 10), .inr (4, [.ref (a 11), .ref (a 23), .int 0, .ref (a 24), .int 0, .int 0, .int 0, .ref (a 25), .int 0, .ref (a 26), .int 0, .int 0])), ((a 11), .inr (8, [.int 0, .ref (a 12)]))] sz) := by
  refine Met.ofW (cc := cX11_thingAt) (maxL := 6) (ret := (some (.object "BeamHouse$Thing"))) (by decide) rfl ?_
  intro p e s m args below meth c s₁ B hml hv
  obtain ⟨rfl, hsz, hP, hK, hD0, hN⟩ := hv
  have hx := B.exec
  have hb := B.bytes
  have hr := B.returns
  have hts := atoms_spec (ws := w_c_thingAt_yes) B.pre
  have hown : s.vm.findClass RX11 = some m.cls := findClass_of_methodNamed B.named
  have hlocks := B.notSynchronized
  have hi_X11 : ∀ w ∈ wsX110, w ∈ w_c_thingAt_yes := fun _ h => List.mem_cons_of_mem _ (List.mem_append_left _ (List.mem_append_left _ (List.mem_append_left _ (List.mem_append_right _ h))))
  have hi_X1 : ∀ w ∈ wsX10, w ∈ w_c_thingAt_yes := fun _ h => List.mem_cons_of_mem _ (List.mem_append_left _ (List.mem_append_left _ (List.mem_append_right _ h)))
  have hi_X4 : ∀ w ∈ wsX40, w ∈ w_c_thingAt_yes := fun _ h => List.mem_cons_of_mem _ (List.mem_append_left _ (List.mem_append_right _ h))
  have hi_X8 : ∀ w ∈ wsX80, w ∈ w_c_thingAt_yes := fun _ h => List.mem_cons_of_mem _ (List.mem_append_right _ h)
  subst hsz
  have hD := hD0.self (sz := s.heap.size)
  generalize hAe : va_A [(h0, .inr (11, [.ref dv, .ref tp, .int 0])), (dv, .inl (ca 2, 4, .inr (.inr (.inr (.inr fd))))), ((a 0), .inr (1, [.ref (a 1), .ref (a 4), .ref (a 5), .ref (a 6), .ref (a 8), .ref (a 10), .int 0, .int (nI (k + 1)), .int (nI k)])), ((a 10), .inr (4, [.ref (a 11), .ref (a 23), .int 0, .ref (a 24), .int 0, .int 0, .int 0, .ref (a 25), .int 0, .ref (a 26), .int 0, .int 0])), ((a 11), .inr (8, [.int 0, .ref (a 12)]))] s.heap.size = A at hD ⊢
  have hA : ∀ q : Nat, s.heap.size ≤ q → A q := fun q h => by rw [← hAe]; exact Or.inr h
  have hS : va_S A s.heap s.heap [] := va_S.rf
  have hP : va_P D vwCl [(h0, .inr (11, [.ref dv, .ref tp, .int 0])), (dv, .inl (ca 2, 4, .inr (.inr (.inr (.inr fd))))), ((a 0), .inr (1, [.ref (a 1), .ref (a 4), .ref (a 5), .ref (a 6), .ref (a 8), .ref (a 10), .int 0, .int (nI (k + 1)), .int (nI k)])), ((a 10), .inr (4, [.ref (a 11), .ref (a 23), .int 0, .ref (a 24), .int 0, .int 0, .int 0, .ref (a 25), .int 0, .ref (a 26), .int 0, .int 0])), ((a 11), .inr (8, [.int 0, .ref (a 12)]))] s.heap := hP
  have hl := lv_entry ([.ref h0, .int (nI k), .long nm, .int n]) (n := 6) (Nat.le_of_ble_eq_true rfl)
  rw [lg_entry_eq]
  generalize (lg_sl ([.ref h0, .int (nI k), .long nm, .int n]) ++ List.replicate (6 - (lg_sl ([.ref h0, .int (nI k), .long nm, .int n])).length) Slot.unset).toArray = ls at hl ⊢
  have hl : lv_has ls 6 [(0, .ref h0), (1, .int (nI k)), (2, .long nm), (4, .int n)] := hl
  refine lv_aload_n hx hb dX11_thingAt_0 rfl (lv_at hl 0 rfl) ?_
  refine lv_iload_n hx hb dX11_thingAt_1 rfl (lv_at hl 1 rfl) ?_
  refine kGo_q (wr := [((a 0), .inr (1, [.ref (a 1), .ref (a 4), .ref (a 5), .ref (a 6), .ref (a 8), .ref (a 10), .int 0, .int (nI (k + 1)), .int (nI k)])), ((a 10), .inr (4, [.ref (a 11), .ref (a 23), .int 0, .ref (a 24), .int 0, .int 0, .int 0, .ref (a 25), .int 0, .ref (a 26), .int 0, .int 0])), ((a 11), .inr (8, [.int 0, .ref (a 12)]))]) (kRunV (As := [.int (nI k)]) (rest := []) ⟨hx, hb, hml, hown, hts⟩ (c_deviceAt_yes l D ca _ h0 dv tp fd a k hk hfd) (cwV 1 hts g_c_thingAt_yes_c_deviceAt_yes_22 rfl rfl rfl (by decide +kernel) ⟨Nat.le_of_ble_eq_true rfl, Nat.le_of_ble_eq_true rfl⟩) hK hN hP hD [0, 1] rfl rfl rfl rfl rfl rfl hl.1 rfl (Nat.le_of_ble_eq_true rfl) dX11_thingAt_2 ⟨Nat.le_of_ble_eq_true rfl, Nat.le_of_ble_eq_true rfl⟩) hP hD hS hA [0, 1] [2, 3, 4] rfl rfl rfl (by decide) (fun r_1 uu_ tt H locs hr_1 hB hj hS => ?_)
  have hWd := hB
  obtain ⟨hP, hD⟩ := hj _ hWd
  have hP : va_P D vwCl [((a 0), .inr (1, [.ref (a 1), .ref (a 4), .ref (a 5), .ref (a 6), .ref (a 8), .ref (a 10), .int 0, .int (nI (k + 1)), .int (nI k)])), ((a 10), .inr (4, [.ref (a 11), .ref (a 23), .int 0, .ref (a 24), .int 0, .int 0, .int 0, .ref (a 25), .int 0, .ref (a 26), .int 0, .int 0])), ((a 11), .inr (8, [.int 0, .ref (a 12)])), (h0, .inr (11, [.ref dv, .ref tp, .int 0])), (dv, .inl (ca 2, 4, .inr (.inr (.inr (.inr fd)))))] H := hP
  have hD : va_D A [((a 0), .inr (1, [.ref (a 1), .ref (a 4), .ref (a 5), .ref (a 6), .ref (a 8), .ref (a 10), .int 0, .int (nI (k + 1)), .int (nI k)])), ((a 10), .inr (4, [.ref (a 11), .ref (a 23), .int 0, .ref (a 24), .int 0, .int 0, .int 0, .ref (a 25), .int 0, .ref (a 26), .int 0, .int 0])), ((a 11), .inr (8, [.int 0, .ref (a 12)])), (h0, .inr (11, [.ref dv, .ref tp, .int 0])), (dv, .inl (ca 2, 4, .inr (.inr (.inr (.inr fd)))))] := hD
  subst hr_1
  refine W.eq (g2 := F0 m 5 ls [.ref (a 0)]) rfl ?_
  refine lv_astore (lv' := [(5, .ref (a 0)), (0, .ref h0), (1, .int (nI k)), (2, .long nm), (4, .int n)]) hx hb dX11_thingAt_5 hl (by decide) rfl (fun ls hl => ?_)
  refine lv_aload hx hb dX11_thingAt_7 (lv_at hl 0 rfl) ?_
  refine lv_ifnonnull (tgt := 16) hx hb dX11_thingAt_9 (by decide) ?_
  refine lv_aload hx hb dX11_thingAt_16 (lv_at hl 0 rfl) ?_
  refine va_get (D := D) (ci := 1) (v := .ref (a 10)) (C := RX1) (T := TX1) (N := 9) hx hb hts hi_X1 hown hK hP 0 rfl rfl 5 (by decide) (hts (.fieldLink RX11 119 "BeamHouse$Device" "objects" "LBeamHouse$Objects;") (List.mem_of_getElem? (i := 7) rfl)) (fun _ h9 => h9) rfl dX11_thingAt_18 ?_
  refine va_get (D := D) (ci := 4) (v := .ref (a 11)) (C := RX4) (T := TX4) (N := 12) hx hb hts hi_X4 hown hK hP 1 rfl rfl 0 (by decide) (hts (.fieldLink RX11 123 "BeamHouse$Objects" "store" "LBeamHouse$Store;") (List.mem_of_getElem? (i := 8) rfl)) (fun _ h9 => h9) rfl dX11_thingAt_21 ?_
  refine lv_lload_n hx hb dX11_thingAt_24 rfl (lv_at hl 3 rfl) ?_
  refine lv_iload hx hb dX11_thingAt_25 (lv_at hl 4 rfl) ?_
  refine kGo_l (wr := [((a 0), .inr (1, [.ref (a 1), .ref (a 4), .ref (a 5), .ref (a 6), .ref (a 8), .ref (a 10), .int 0, .int (nI (k + 1)), .int (nI k)])), ((a 10), .inr (4, [.ref (a 11), .ref (a 23), .int 0, .ref (a 24), .int 0, .int 0, .int 0, .ref (a 25), .int 0, .ref (a 26), .int 0, .int 0])), ((a 11), .inr (8, [.int 0, .ref (a 12)])), (h0, .inr (11, [.ref dv, .ref tp, .int 0])), (dv, .inl (ca 2, 4, .inr (.inr (.inr (.inr fd)))))]) (kRunS (As := [.long nm, .int n]) (rest := [.ref (a 11)]) ⟨hx, hb, hml, hown, hts⟩ (c_nameKey l D ca _ nm n) (va_cwS 2 hts g_c_thingAt_yes_c_nameKey_115 rfl rfl rfl (by decide +kernel) ⟨Nat.le_of_ble_eq_true rfl, Nat.le_of_ble_eq_true rfl⟩) hK hN hP hD [] rfl rfl rfl hl.1 rfl (Nat.le_of_ble_eq_true rfl) dX11_thingAt_27 ⟨Nat.le_of_ble_eq_true rfl, Nat.le_of_ble_eq_true rfl⟩) hP hD hS hA [] [0, 1, 2, 3, 4] rfl rfl rfl (by decide) (fun r_2 uu_ tt H locs hr_2 hB hj hS => ?_)
  have hWd := hB
  obtain ⟨hP, hD⟩ := hj _ hWd
  have hP : va_P D vwCl [((a 0), .inr (1, [.ref (a 1), .ref (a 4), .ref (a 5), .ref (a 6), .ref (a 8), .ref (a 10), .int 0, .int (nI (k + 1)), .int (nI k)])), ((a 10), .inr (4, [.ref (a 11), .ref (a 23), .int 0, .ref (a 24), .int 0, .int 0, .int 0, .ref (a 25), .int 0, .ref (a 26), .int 0, .int 0])), ((a 11), .inr (8, [.int 0, .ref (a 12)])), (h0, .inr (11, [.ref dv, .ref tp, .int 0])), (dv, .inl (ca 2, 4, .inr (.inr (.inr (.inr fd)))))] H := hP
  have hD : va_D A [((a 0), .inr (1, [.ref (a 1), .ref (a 4), .ref (a 5), .ref (a 6), .ref (a 8), .ref (a 10), .int 0, .int (nI (k + 1)), .int (nI k)])), ((a 10), .inr (4, [.ref (a 11), .ref (a 23), .int 0, .ref (a 24), .int 0, .int 0, .int 0, .ref (a 25), .int 0, .ref (a 26), .int 0, .int 0])), ((a 11), .inr (8, [.int 0, .ref (a 12)])), (h0, .inr (11, [.ref dv, .ref tp, .int 0])), (dv, .inl (ca 2, 4, .inr (.inr (.inr (.inr fd)))))] := hD
  refine kGo_q (wr := [((a 0), .inr (1, [.ref (a 1), .ref (a 4), .ref (a 5), .ref (a 6), .ref (a 8), .ref (a 10), .int 0, .int (nI (k + 1)), .int (nI k)])), ((a 10), .inr (4, [.ref (a 11), .ref (a 23), .int 0, .ref (a 24), .int 0, .int 0, .int 0, .ref (a 25), .int 0, .ref (a 26), .int 0, .int 0])), (h0, .inr (11, [.ref dv, .ref tp, .int 0])), (dv, .inl (ca 2, 4, .inr (.inr (.inr (.inr fd)))))]) (kRunV (As := [.long r_2]) (rest := []) ⟨hx, hb, hml, hown, hts⟩ (c_find l D ca _ a r_2) (cwV 1 hts g_c_thingAt_yes_c_find_147 rfl rfl rfl (by decide +kernel) ⟨Nat.le_of_ble_eq_true rfl, Nat.le_of_ble_eq_true rfl⟩) hK hN hP hD [2] rfl rfl rfl rfl rfl rfl hl.1 rfl (Nat.le_of_ble_eq_true rfl) dX11_thingAt_30 ⟨Nat.le_of_ble_eq_true rfl, Nat.le_of_ble_eq_true rfl⟩) hP hD hS hA [2] [0, 1, 3, 4] rfl rfl rfl (by decide) (fun r_3 uu_ tt H locs hr_3 hB hj hS => ?_)
  have hWd := hB
  obtain ⟨hP, hD⟩ := hj _ hWd
  have hP : va_P D vwCl [((a 0), .inr (1, [.ref (a 1), .ref (a 4), .ref (a 5), .ref (a 6), .ref (a 8), .ref (a 10), .int 0, .int (nI (k + 1)), .int (nI k)])), ((a 10), .inr (4, [.ref (a 11), .ref (a 23), .int 0, .ref (a 24), .int 0, .int 0, .int 0, .ref (a 25), .int 0, .ref (a 26), .int 0, .int 0])), (h0, .inr (11, [.ref dv, .ref tp, .int 0])), (dv, .inl (ca 2, 4, .inr (.inr (.inr (.inr fd)))))] H := hP
  have hD : va_D A [((a 0), .inr (1, [.ref (a 1), .ref (a 4), .ref (a 5), .ref (a 6), .ref (a 8), .ref (a 10), .int 0, .int (nI (k + 1)), .int (nI k)])), ((a 10), .inr (4, [.ref (a 11), .ref (a 23), .int 0, .ref (a 24), .int 0, .int 0, .int 0, .ref (a 25), .int 0, .ref (a 26), .int 0, .int 0])), (h0, .inr (11, [.ref dv, .ref tp, .int 0])), (dv, .inl (ca 2, 4, .inr (.inr (.inr (.inr fd)))))] := hD
  subst hr_3
  refine W.eq (g2 := F0 m 33 ls [.null]) rfl ?_
  exact W.aret (v := .null) hx hb hr (Or.inl ⟨_, rfl⟩) (Or.inl rfl) (fun tt ht hW => ⟨⟨none, (), rfl, rfl, ⟨by rw [ht]; exact hP.sub [] rfl, hD.sub [] rfl rfl⟩⟩, hS.F ht⟩) hS.2.2 dX11_thingAt_33
def w_c_size_no : List Cond := .code yX11_size cX11_size 6 (some .int) :: (([.code yX11_thingAt cX11_thingAt 6 (some (.object "BeamHouse$Thing")), .code yX11_deviceAt cX11_deviceAt 2 (some (.object "BeamHouse$Device")), .methodLink RX11 22 yX11_deviceAt, .instanceMethod yX11_deviceAt, .selects RX11 yX11_deviceAt yX11_deviceAt, .initialized RX11, .methodLink RX11 160 yX11_thingAt, .instanceMethod yX11_thingAt, .selects RX11 yX11_thingAt yX11_thingAt] : List Cond))
theorem g_c_size_no_c_thingAt_no_160 : GoodIn w_c_size_no (wsV RX11 160 RX11 yX11_thingAt w_c_thingAt_no) := (goodIn_app (goodIn_r _ [7, 8, 9, 6] rfl rfl) (goodIn_r _ [1, 2, 3, 4, 5, 6] rfl rfl))
set_option maxHeartbeats 4000000 in
set_option maxRecDepth 100000 in
theorem c_size_no (l : Launch) (D : va_G) (ca : Nat → ClassId) (sz : Nat) (h0 : Nat) (dv : Nat) (tp : Nat) (d : Int32) (nm : Int64) (n : Int32) (hd : d < 0 ∨ 4 ≤ d) : Met l yX11_size w_c_size_no ({ frames := 2, cells := 0, slots := 0, locals := 46 }) (Pre D ca [.ref h0, .int d, .long nm, .int n] [(h0, .inr (11, [.ref dv, .ref tp, .int 0]))] sz) (va_Qi (fun (r : Int32) (_ : Unit) => r = -1) (fun (_ : Unit) (tt : State) => Wd D (va_A [(h0, .inr (11, [.ref dv, .ref tp, .int 0]))] sz) [] tt) (va_A [(h0, .inr (11, [.ref dv, .ref tp, .int 0]))] sz)) 0 0 (va_A [(h0, .inr (11, [.ref dv, .ref tp, .int 0]))] sz) := by
  refine Met.ofW (cc := cX11_size) (maxL := 6) (ret := (some .int)) (by decide) rfl ?_
  intro p e s m args below meth c s₁ B hml hv
  obtain ⟨rfl, hsz, hP, hK, hD0, hN⟩ := hv
  have hx := B.exec
  have hb := B.bytes
  have hr := B.returns
  have hts := atoms_spec (ws := w_c_size_no) B.pre
  have hown : s.vm.findClass RX11 = some m.cls := findClass_of_methodNamed B.named
  have hlocks := B.notSynchronized
  subst hsz
  have hD := hD0.self (sz := s.heap.size)
  generalize hAe : va_A [(h0, .inr (11, [.ref dv, .ref tp, .int 0]))] s.heap.size = A at hD ⊢
  have hA : ∀ q : Nat, s.heap.size ≤ q → A q := fun q h => by rw [← hAe]; exact Or.inr h
  have hS : va_S A s.heap s.heap [] := va_S.rf
  have hP : va_P D vwCl [(h0, .inr (11, [.ref dv, .ref tp, .int 0]))] s.heap := hP
  have hl := lv_entry ([.ref h0, .int d, .long nm, .int n]) (n := 6) (Nat.le_of_ble_eq_true rfl)
  rw [lg_entry_eq]
  generalize (lg_sl ([.ref h0, .int d, .long nm, .int n]) ++ List.replicate (6 - (lg_sl ([.ref h0, .int d, .long nm, .int n])).length) Slot.unset).toArray = ls at hl ⊢
  have hl : lv_has ls 6 [(0, .ref h0), (1, .int d), (2, .long nm), (4, .int n)] := hl
  refine lv_aload_n hx hb dX11_size_0 rfl (lv_at hl 0 rfl) ?_
  refine lv_iload_n hx hb dX11_size_1 rfl (lv_at hl 1 rfl) ?_
  refine lv_lload_n hx hb dX11_size_2 rfl (lv_at hl 2 rfl) ?_
  refine lv_iload hx hb dX11_size_3 (lv_at hl 3 rfl) ?_
  refine kGo_q (wr := []) (kRunV (As := [.int d, .long nm, .int n]) (rest := []) ⟨hx, hb, hml, hown, hts⟩ (c_thingAt_no l D ca _ h0 dv tp d nm n hd) (cwV 3 hts g_c_size_no_c_thingAt_no_160 rfl rfl rfl (by decide +kernel) ⟨Nat.le_of_ble_eq_true rfl, Nat.le_of_ble_eq_true rfl⟩) hK hN hP hD [0] rfl rfl rfl rfl rfl rfl hl.1 rfl (Nat.le_of_ble_eq_true rfl) dX11_size_5 ⟨Nat.le_of_ble_eq_true rfl, Nat.le_of_ble_eq_true rfl⟩) hP hD hS hA [0] [] rfl rfl rfl (by decide) (fun r_1 uu_ tt H locs hr_1 hB hj hS => ?_)
  have hWd := hB
  obtain ⟨hP, hD⟩ := hj _ hWd
  have hP : va_P D vwCl [] H := hP
  have hD : va_D A [] := hD
  subst hr_1
  refine W.eq (g2 := F0 m 8 ls [.null]) rfl ?_
  refine lv_astoreN (lv' := [(5, .null), (0, .ref h0), (1, .int d), (2, .long nm), (4, .int n)]) hx hb dX11_size_8 hl (by decide) rfl (fun ls hl => ?_)
  refine lv_aloadN hx hb dX11_size_10 (lv_at hl 0 rfl) ?_
  refine lv_ifnonnullN hx hb dX11_size_12 ?_
  refine lv_iconst (v := (-1)) hx hb dX11_size_15 (by decide) ?_
  refine lv_goto (tgt := 24) hx hb dX11_size_16 (by decide) ?_
  exact W.iret (v := (-1)) hx hb hr (fun tt ht hW => ⟨⟨(-1), (), rfl, rfl, ⟨by rw [ht]; exact hP.sub [] rfl, hD.sub [] rfl rfl⟩⟩, hS.F ht⟩) hS.2.2 dX11_size_24
def w_c_size_yes : List Cond := .code yX11_size cX11_size 6 (some .int) :: (([.code yX11_thingAt cX11_thingAt 6 (some (.object "BeamHouse$Thing")), .code yX11_deviceAt cX11_deviceAt 2 (some (.object "BeamHouse$Device")), .fieldLink RX11 11 "BeamHouse" "devices" "[LBeamHouse$Device;", .methodLink RX11 22 yX11_deviceAt, .instanceMethod yX11_deviceAt, .selects RX11 yX11_deviceAt yX11_deviceAt, .initialized RX11, .fieldLink RX11 119 "BeamHouse$Device" "objects" "LBeamHouse$Objects;", .fieldLink RX11 123 "BeamHouse$Objects" "store" "LBeamHouse$Store;", .code yX11_nameKey cX11_nameKey 8 (some .long), .constantLong RX11 232 (255), .methodLink RX11 115 yX11_nameKey, .static yX11_nameKey, .code yX8_find cX8_find 4 (some (.object "BeamHouse$Thing")), .fieldLink RX8 18 "BeamHouse$Store" "count" "I", .methodLink RX11 147 yX8_find, .instanceMethod yX8_find, .selects RX8 yX8_find yX8_find, .initialized RX8, .methodLink RX11 160 yX11_thingAt, .instanceMethod yX11_thingAt, .selects RX11 yX11_thingAt yX11_thingAt] : List Cond) ++ wsX110 ++ wsX10 ++ wsX40 ++ wsX80)
theorem g_c_size_yes_c_thingAt_yes_160 : GoodIn w_c_size_yes (wsV RX11 160 RX11 yX11_thingAt w_c_thingAt_yes) := (goodIn_app (goodIn_r _ [20, 21, 22, 7] rfl rfl) (goodIn_ca (goodIn_ca (goodIn_ca (goodIn_ca (goodIn_r _ [1, 2, 3, 4, 5, 6, 7, 8, 9, 10, 11, 12, 13, 14, 15, 16, 17, 18, 19] rfl rfl) (goodIn_sub (fun _ h => List.mem_cons_of_mem _ (List.mem_append_left _ (List.mem_append_left _ (List.mem_append_left _ (List.mem_append_right _ h))))) gw_X11)) (goodIn_sub (fun _ h => List.mem_cons_of_mem _ (List.mem_append_left _ (List.mem_append_left _ (List.mem_append_right _ h)))) gw_X1)) (goodIn_sub (fun _ h => List.mem_cons_of_mem _ (List.mem_append_left _ (List.mem_append_right _ h))) gw_X4)) (goodIn_sub (fun _ h => List.mem_cons_of_mem _ (List.mem_append_right _ h)) gw_X8)))
set_option maxHeartbeats 4000000 in
set_option maxRecDepth 100000 in
theorem c_size_yes (l : Launch) (D : va_G) (ca : Nat → ClassId) (sz : Nat) (h0 : Nat) (dv : Nat) (tp : Nat) (fd : Nat → Option Nat) (a : Nat → Nat) (k : Nat) (nm : Int64) (n : Int32) (hk : k < 4) (hfd : fd k = some (a 0)) : Met l yX11_size w_c_size_yes ({ frames := 2, cells := 0, slots := 0, locals := 52 }) (Pre D ca [.ref h0, .int (nI k), .long nm, .int n] [(h0, .inr (11, [.ref dv, .ref tp, .int 0])), (dv, .inl (ca 2, 4, .inr (.inr (.inr (.inr fd))))), ((a 0), .inr (1, [.ref (a 1), .ref (a 4), .ref (a 5), .ref (a 6), .ref (a 8), .ref (a 10), .int 0, .int (nI (k + 1)), .int (nI k)])), ((a 10), .inr (4, [.ref (a 11), .ref (a 23), .int 0, .ref (a 24), .int 0, .int 0, .int 0, .ref (a 25), .int 0, .ref (a 26), .int 0, .int 0])), ((a 11), .inr (8, [.int 0, .ref (a 12)]))] sz) (va_Qi (fun (r : Int32) (_ : Unit) => r = -1) (fun (_ : Unit) (tt : State) => Wd D (va_A [(h0, .inr (11, [.ref dv, .ref tp, .int 0])), (dv, .inl (ca 2, 4, .inr (.inr (.inr (.inr fd))))), ((a 0), .inr (1, [.ref (a 1), .ref (a 4), .ref (a 5), .ref (a 6), .ref (a 8), .ref (a 10), .int 0, .int (nI (k + 1)), .int (nI k)])), ((a 10), .inr (4, [.ref (a 11), .ref (a 23), .int 0, .ref (a 24), .int 0, .int 0, .int 0, .ref (a 25), .int 0, .ref (a 26), .int 0, .int 0])), ((a 11), .inr (8, [.int 0, .ref (a 12)]))] sz) [] tt) (va_A [(h0, .inr (11, [.ref dv, .ref tp, .int 0])), (dv, .inl (ca 2, 4, .inr (.inr (.inr (.inr fd))))), ((a 0), .inr (1, [.ref (a 1), .ref (a 4), .ref (a 5), .ref (a 6), .ref (a 8), .ref (a 10), .int 0, .int (nI (k + 1)), .int (nI k)])), ((a 10), .inr (4, [.ref (a 11), .ref (a 23), .int 0, .ref (a 24), .int 0, .int 0, .int 0, .ref (a 25), .int 0, .ref (a 26), .int 0, .int 0])), ((a 11), .inr (8, [.int 0, .ref (a 12)]))] sz)) 0 0 (va_A [(h0, .inr (11, [.ref dv, .ref tp, .int 0])), (dv, .inl (ca 2, 4, .inr (.inr (.inr (.inr fd))))), ((a 0), .inr (1, [.ref (a 1), .ref (a 4), .ref (a 5), .ref (a 6), .ref (a 8), .ref (a 10), .int 0, .int (nI (k + 1)), .int (nI k)])), ((a 10), .inr (4, [.ref (a 11), .ref (a 23), .int 0, .ref (a 24), .int 0, .int 0, .int 0, .ref (a 25), .int 0, .ref (a 26), .int 0, .int 0])), ((a 11), .inr (8, [.int 0, .ref (a 12)]))] sz) := by
  refine Met.ofW (cc := cX11_size) (maxL := 6) (ret := (some .int)) (by decide) rfl ?_
  intro p e s m args below meth c s₁ B hml hv
  obtain ⟨rfl, hsz, hP, hK, hD0, hN⟩ := hv
  have hx := B.exec
  have hb := B.bytes
  have hr := B.returns
  have hts := atoms_spec (ws := w_c_size_yes) B.pre
  have hown : s.vm.findClass RX11 = some m.cls := findClass_of_methodNamed B.named
  have hlocks := B.notSynchronized
  have hi_X11 : ∀ w ∈ wsX110, w ∈ w_c_size_yes := fun _ h => List.mem_cons_of_mem _ (List.mem_append_left _ (List.mem_append_left _ (List.mem_append_left _ (List.mem_append_right _ h))))
  have hi_X1 : ∀ w ∈ wsX10, w ∈ w_c_size_yes := fun _ h => List.mem_cons_of_mem _ (List.mem_append_left _ (List.mem_append_left _ (List.mem_append_right _ h)))
  have hi_X4 : ∀ w ∈ wsX40, w ∈ w_c_size_yes := fun _ h => List.mem_cons_of_mem _ (List.mem_append_left _ (List.mem_append_right _ h))
  have hi_X8 : ∀ w ∈ wsX80, w ∈ w_c_size_yes := fun _ h => List.mem_cons_of_mem _ (List.mem_append_right _ h)
  subst hsz
  have hD := hD0.self (sz := s.heap.size)
  generalize hAe : va_A [(h0, .inr (11, [.ref dv, .ref tp, .int 0])), (dv, .inl (ca 2, 4, .inr (.inr (.inr (.inr fd))))), ((a 0), .inr (1, [.ref (a 1), .ref (a 4), .ref (a 5), .ref (a 6), .ref (a 8), .ref (a 10), .int 0, .int (nI (k + 1)), .int (nI k)])), ((a 10), .inr (4, [.ref (a 11), .ref (a 23), .int 0, .ref (a 24), .int 0, .int 0, .int 0, .ref (a 25), .int 0, .ref (a 26), .int 0, .int 0])), ((a 11), .inr (8, [.int 0, .ref (a 12)]))] s.heap.size = A at hD ⊢
  have hA : ∀ q : Nat, s.heap.size ≤ q → A q := fun q h => by rw [← hAe]; exact Or.inr h
  have hS : va_S A s.heap s.heap [] := va_S.rf
  have hP : va_P D vwCl [(h0, .inr (11, [.ref dv, .ref tp, .int 0])), (dv, .inl (ca 2, 4, .inr (.inr (.inr (.inr fd))))), ((a 0), .inr (1, [.ref (a 1), .ref (a 4), .ref (a 5), .ref (a 6), .ref (a 8), .ref (a 10), .int 0, .int (nI (k + 1)), .int (nI k)])), ((a 10), .inr (4, [.ref (a 11), .ref (a 23), .int 0, .ref (a 24), .int 0, .int 0, .int 0, .ref (a 25), .int 0, .ref (a 26), .int 0, .int 0])), ((a 11), .inr (8, [.int 0, .ref (a 12)]))] s.heap := hP
  have hl := lv_entry ([.ref h0, .int (nI k), .long nm, .int n]) (n := 6) (Nat.le_of_ble_eq_true rfl)
  rw [lg_entry_eq]
  generalize (lg_sl ([.ref h0, .int (nI k), .long nm, .int n]) ++ List.replicate (6 - (lg_sl ([.ref h0, .int (nI k), .long nm, .int n])).length) Slot.unset).toArray = ls at hl ⊢
  have hl : lv_has ls 6 [(0, .ref h0), (1, .int (nI k)), (2, .long nm), (4, .int n)] := hl
  refine lv_aload_n hx hb dX11_size_0 rfl (lv_at hl 0 rfl) ?_
  refine lv_iload_n hx hb dX11_size_1 rfl (lv_at hl 1 rfl) ?_
  refine lv_lload_n hx hb dX11_size_2 rfl (lv_at hl 2 rfl) ?_
  refine lv_iload hx hb dX11_size_3 (lv_at hl 3 rfl) ?_
  refine kGo_q (wr := []) (kRunV (As := [.int (nI k), .long nm, .int n]) (rest := []) ⟨hx, hb, hml, hown, hts⟩ (c_thingAt_yes l D ca _ h0 dv tp fd a k nm n hk hfd) (cwV 3 hts g_c_size_yes_c_thingAt_yes_160 rfl rfl rfl (by decide +kernel) ⟨Nat.le_of_ble_eq_true rfl, Nat.le_of_ble_eq_true rfl⟩) hK hN hP hD [0, 1, 2, 3, 4] rfl rfl rfl rfl rfl rfl hl.1 rfl (Nat.le_of_ble_eq_true rfl) dX11_size_5 ⟨Nat.le_of_ble_eq_true rfl, Nat.le_of_ble_eq_true rfl⟩) hP hD hS hA [0, 1, 2, 3, 4] [] rfl rfl rfl (by decide) (fun r_1 uu_ tt H locs hr_1 hB hj hS => ?_)
  have hWd := hB
  obtain ⟨hP, hD⟩ := hj _ hWd
  have hP : va_P D vwCl [] H := hP
  have hD : va_D A [] := hD
  subst hr_1
  refine W.eq (g2 := F0 m 8 ls [.null]) rfl ?_
  refine lv_astoreN (lv' := [(5, .null), (0, .ref h0), (1, .int (nI k)), (2, .long nm), (4, .int n)]) hx hb dX11_size_8 hl (by decide) rfl (fun ls hl => ?_)
  refine lv_aloadN hx hb dX11_size_10 (lv_at hl 0 rfl) ?_
  refine lv_ifnonnullN hx hb dX11_size_12 ?_
  refine lv_iconst (v := (-1)) hx hb dX11_size_15 (by decide) ?_
  refine lv_goto (tgt := 24) hx hb dX11_size_16 (by decide) ?_
  exact W.iret (v := (-1)) hx hb hr (fun tt ht hW => ⟨⟨(-1), (), rfl, rfl, ⟨by rw [ht]; exact hP.sub [] rfl, hD.sub [] rfl rfl⟩⟩, hS.F ht⟩) hS.2.2 dX11_size_24
def w_c_octet_no : List Cond := .code yX11_octet cX11_octet 7 (some .int) :: (([.code yX11_thingAt cX11_thingAt 6 (some (.object "BeamHouse$Thing")), .code yX11_deviceAt cX11_deviceAt 2 (some (.object "BeamHouse$Device")), .methodLink RX11 22 yX11_deviceAt, .instanceMethod yX11_deviceAt, .selects RX11 yX11_deviceAt yX11_deviceAt, .initialized RX11, .methodLink RX11 160 yX11_thingAt, .instanceMethod yX11_thingAt, .selects RX11 yX11_thingAt yX11_thingAt] : List Cond))
theorem g_c_octet_no_c_thingAt_no_160 : GoodIn w_c_octet_no (wsV RX11 160 RX11 yX11_thingAt w_c_thingAt_no) := (goodIn_app (goodIn_r _ [7, 8, 9, 6] rfl rfl) (goodIn_r _ [1, 2, 3, 4, 5, 6] rfl rfl))
set_option maxHeartbeats 4000000 in
set_option maxRecDepth 100000 in
theorem c_octet_no (l : Launch) (D : va_G) (ca : Nat → ClassId) (sz : Nat) (h0 : Nat) (dv : Nat) (tp : Nat) (d : Int32) (nm : Int64) (n : Int32) (i : Int32) (hd : d < 0 ∨ 4 ≤ d) : Met l yX11_octet w_c_octet_no ({ frames := 2, cells := 0, slots := 0, locals := 46 }) (Pre D ca [.ref h0, .int d, .long nm, .int n, .int i] [(h0, .inr (11, [.ref dv, .ref tp, .int 0]))] sz) (va_Qi (fun (r : Int32) (_ : Unit) => r = -1) (fun (_ : Unit) (tt : State) => Wd D (va_A [(h0, .inr (11, [.ref dv, .ref tp, .int 0]))] sz) [] tt) (va_A [(h0, .inr (11, [.ref dv, .ref tp, .int 0]))] sz)) 0 0 (va_A [(h0, .inr (11, [.ref dv, .ref tp, .int 0]))] sz) := by
  refine Met.ofW (cc := cX11_octet) (maxL := 7) (ret := (some .int)) (by decide) rfl ?_
  intro p e s m args below meth c s₁ B hml hv
  obtain ⟨rfl, hsz, hP, hK, hD0, hN⟩ := hv
  have hx := B.exec
  have hb := B.bytes
  have hr := B.returns
  have hts := atoms_spec (ws := w_c_octet_no) B.pre
  have hown : s.vm.findClass RX11 = some m.cls := findClass_of_methodNamed B.named
  have hlocks := B.notSynchronized
  subst hsz
  have hD := hD0.self (sz := s.heap.size)
  generalize hAe : va_A [(h0, .inr (11, [.ref dv, .ref tp, .int 0]))] s.heap.size = A at hD ⊢
  have hA : ∀ q : Nat, s.heap.size ≤ q → A q := fun q h => by rw [← hAe]; exact Or.inr h
  have hS : va_S A s.heap s.heap [] := va_S.rf
  have hP : va_P D vwCl [(h0, .inr (11, [.ref dv, .ref tp, .int 0]))] s.heap := hP
  have hl := lv_entry ([.ref h0, .int d, .long nm, .int n, .int i]) (n := 7) (Nat.le_of_ble_eq_true rfl)
  rw [lg_entry_eq]
  generalize (lg_sl ([.ref h0, .int d, .long nm, .int n, .int i]) ++ List.replicate (7 - (lg_sl ([.ref h0, .int d, .long nm, .int n, .int i])).length) Slot.unset).toArray = ls at hl ⊢
  have hl : lv_has ls 7 [(0, .ref h0), (1, .int d), (2, .long nm), (4, .int n), (5, .int i)] := hl
  refine lv_aload_n hx hb dX11_octet_0 rfl (lv_at hl 0 rfl) ?_
  refine lv_iload_n hx hb dX11_octet_1 rfl (lv_at hl 1 rfl) ?_
  refine lv_lload_n hx hb dX11_octet_2 rfl (lv_at hl 2 rfl) ?_
  refine lv_iload hx hb dX11_octet_3 (lv_at hl 3 rfl) ?_
  refine kGo_q (wr := []) (kRunV (As := [.int d, .long nm, .int n]) (rest := []) ⟨hx, hb, hml, hown, hts⟩ (c_thingAt_no l D ca _ h0 dv tp d nm n hd) (cwV 3 hts g_c_octet_no_c_thingAt_no_160 rfl rfl rfl (by decide +kernel) ⟨Nat.le_of_ble_eq_true rfl, Nat.le_of_ble_eq_true rfl⟩) hK hN hP hD [0] rfl rfl rfl rfl rfl rfl hl.1 rfl (Nat.le_of_ble_eq_true rfl) dX11_octet_5 ⟨Nat.le_of_ble_eq_true rfl, Nat.le_of_ble_eq_true rfl⟩) hP hD hS hA [0] [] rfl rfl rfl (by decide) (fun r_1 uu_ tt H locs hr_1 hB hj hS => ?_)
  have hWd := hB
  obtain ⟨hP, hD⟩ := hj _ hWd
  have hP : va_P D vwCl [] H := hP
  have hD : va_D A [] := hD
  subst hr_1
  refine W.eq (g2 := F0 m 8 ls [.null]) rfl ?_
  refine lv_astoreN (lv' := [(6, .null), (0, .ref h0), (1, .int d), (2, .long nm), (4, .int n), (5, .int i)]) hx hb dX11_octet_8 hl (by decide) rfl (fun ls hl => ?_)
  refine lv_aloadN hx hb dX11_octet_10 (lv_at hl 0 rfl) ?_
  refine lv_ifnullN (tgt := 37) hx hb dX11_octet_12 (by decide) ?_
  refine lv_iconst (v := (-1)) hx hb dX11_octet_37 (by decide) ?_
  exact W.iret (v := (-1)) hx hb hr (fun tt ht hW => ⟨⟨(-1), (), rfl, rfl, ⟨by rw [ht]; exact hP.sub [] rfl, hD.sub [] rfl rfl⟩⟩, hS.F ht⟩) hS.2.2 dX11_octet_38
def w_c_octet_yes : List Cond := .code yX11_octet cX11_octet 7 (some .int) :: (([.code yX11_thingAt cX11_thingAt 6 (some (.object "BeamHouse$Thing")), .code yX11_deviceAt cX11_deviceAt 2 (some (.object "BeamHouse$Device")), .fieldLink RX11 11 "BeamHouse" "devices" "[LBeamHouse$Device;", .methodLink RX11 22 yX11_deviceAt, .instanceMethod yX11_deviceAt, .selects RX11 yX11_deviceAt yX11_deviceAt, .initialized RX11, .fieldLink RX11 119 "BeamHouse$Device" "objects" "LBeamHouse$Objects;", .fieldLink RX11 123 "BeamHouse$Objects" "store" "LBeamHouse$Store;", .code yX11_nameKey cX11_nameKey 8 (some .long), .constantLong RX11 232 (255), .methodLink RX11 115 yX11_nameKey, .static yX11_nameKey, .code yX8_find cX8_find 4 (some (.object "BeamHouse$Thing")), .fieldLink RX8 18 "BeamHouse$Store" "count" "I", .methodLink RX11 147 yX8_find, .instanceMethod yX8_find, .selects RX8 yX8_find yX8_find, .initialized RX8, .methodLink RX11 160 yX11_thingAt, .instanceMethod yX11_thingAt, .selects RX11 yX11_thingAt yX11_thingAt] : List Cond) ++ wsX110 ++ wsX10 ++ wsX40 ++ wsX80)
theorem g_c_octet_yes_c_thingAt_yes_160 : GoodIn w_c_octet_yes (wsV RX11 160 RX11 yX11_thingAt w_c_thingAt_yes) := (goodIn_app (goodIn_r _ [20, 21, 22, 7] rfl rfl) (goodIn_ca (goodIn_ca (goodIn_ca (goodIn_ca (goodIn_r _ [1, 2, 3, 4, 5, 6, 7, 8, 9, 10, 11, 12, 13, 14, 15, 16, 17, 18, 19] rfl rfl) (goodIn_sub (fun _ h => List.mem_cons_of_mem _ (List.mem_append_left _ (List.mem_append_left _ (List.mem_append_left _ (List.mem_append_right _ h))))) gw_X11)) (goodIn_sub (fun _ h => List.mem_cons_of_mem _ (List.mem_append_left _ (List.mem_append_left _ (List.mem_append_right _ h)))) gw_X1)) (goodIn_sub (fun _ h => List.mem_cons_of_mem _ (List.mem_append_left _ (List.mem_append_right _ h))) gw_X4)) (goodIn_sub (fun _ h => List.mem_cons_of_mem _ (List.mem_append_right _ h)) gw_X8)))
set_option maxHeartbeats 4000000 in
set_option maxRecDepth 100000 in
theorem c_octet_yes (l : Launch) (D : va_G) (ca : Nat → ClassId) (sz : Nat) (h0 : Nat) (dv : Nat) (tp : Nat) (fd : Nat → Option Nat) (a : Nat → Nat) (k : Nat) (nm : Int64) (n : Int32) (i : Int32) (hk : k < 4) (hfd : fd k = some (a 0)) : Met l yX11_octet w_c_octet_yes ({ frames := 2, cells := 0, slots := 0, locals := 52 }) (Pre D ca [.ref h0, .int (nI k), .long nm, .int n, .int i] [(h0, .inr (11, [.ref dv, .ref tp, .int 0])), (dv, .inl (ca 2, 4, .inr (.inr (.inr (.inr fd))))), ((a 0), .inr (1, [.ref (a 1), .ref (a 4), .ref (a 5), .ref (a 6), .ref (a 8), .ref (a 10), .int 0, .int (nI (k + 1)), .int (nI k)])), ((a 10), .inr (4, [.ref (a 11), .ref (a 23), .int 0, .ref (a 24), .int 0, .int 0, .int 0, .ref (a 25), .int 0, .ref (a 26), .int 0, .int 0])), ((a 11), .inr (8, [.int 0, .ref (a 12)]))] sz) (va_Qi (fun (r : Int32) (_ : Unit) => r = -1) (fun (_ : Unit) (tt : State) => Wd D (va_A [(h0, .inr (11, [.ref dv, .ref tp, .int 0])), (dv, .inl (ca 2, 4, .inr (.inr (.inr (.inr fd))))), ((a 0), .inr (1, [.ref (a 1), .ref (a 4), .ref (a 5), .ref (a 6), .ref (a 8), .ref (a 10), .int 0, .int (nI (k + 1)), .int (nI k)])), ((a 10), .inr (4, [.ref (a 11), .ref (a 23), .int 0, .ref (a 24), .int 0, .int 0, .int 0, .ref (a 25), .int 0, .ref (a 26), .int 0, .int 0])), ((a 11), .inr (8, [.int 0, .ref (a 12)]))] sz) [] tt) (va_A [(h0, .inr (11, [.ref dv, .ref tp, .int 0])), (dv, .inl (ca 2, 4, .inr (.inr (.inr (.inr fd))))), ((a 0), .inr (1, [.ref (a 1), .ref (a 4), .ref (a 5), .ref (a 6), .ref (a 8), .ref (a 10), .int 0, .int (nI (k + 1)), .int (nI k)])), ((a 10), .inr (4, [.ref (a 11), .ref (a 23), .int 0, .ref (a 24), .int 0, .int 0, .int 0, .ref (a 25), .int 0, .ref (a 26), .int 0, .int 0])), ((a 11), .inr (8, [.int 0, .ref (a 12)]))] sz)) 0 0 (va_A [(h0, .inr (11, [.ref dv, .ref tp, .int 0])), (dv, .inl (ca 2, 4, .inr (.inr (.inr (.inr fd))))), ((a 0), .inr (1, [.ref (a 1), .ref (a 4), .ref (a 5), .ref (a 6), .ref (a 8), .ref (a 10), .int 0, .int (nI (k + 1)), .int (nI k)])), ((a 10), .inr (4, [.ref (a 11), .ref (a 23), .int 0, .ref (a 24), .int 0, .int 0, .int 0, .ref (a 25), .int 0, .ref (a 26), .int 0, .int 0])), ((a 11), .inr (8, [.int 0, .ref (a 12)]))] sz) := by
  refine Met.ofW (cc := cX11_octet) (maxL := 7) (ret := (some .int)) (by decide) rfl ?_
  intro p e s m args below meth c s₁ B hml hv
  obtain ⟨rfl, hsz, hP, hK, hD0, hN⟩ := hv
  have hx := B.exec
  have hb := B.bytes
  have hr := B.returns
  have hts := atoms_spec (ws := w_c_octet_yes) B.pre
  have hown : s.vm.findClass RX11 = some m.cls := findClass_of_methodNamed B.named
  have hlocks := B.notSynchronized
  have hi_X11 : ∀ w ∈ wsX110, w ∈ w_c_octet_yes := fun _ h => List.mem_cons_of_mem _ (List.mem_append_left _ (List.mem_append_left _ (List.mem_append_left _ (List.mem_append_right _ h))))
  have hi_X1 : ∀ w ∈ wsX10, w ∈ w_c_octet_yes := fun _ h => List.mem_cons_of_mem _ (List.mem_append_left _ (List.mem_append_left _ (List.mem_append_right _ h)))
  have hi_X4 : ∀ w ∈ wsX40, w ∈ w_c_octet_yes := fun _ h => List.mem_cons_of_mem _ (List.mem_append_left _ (List.mem_append_right _ h))
  have hi_X8 : ∀ w ∈ wsX80, w ∈ w_c_octet_yes := fun _ h => List.mem_cons_of_mem _ (List.mem_append_right _ h)
  subst hsz
  have hD := hD0.self (sz := s.heap.size)
  generalize hAe : va_A [(h0, .inr (11, [.ref dv, .ref tp, .int 0])), (dv, .inl (ca 2, 4, .inr (.inr (.inr (.inr fd))))), ((a 0), .inr (1, [.ref (a 1), .ref (a 4), .ref (a 5), .ref (a 6), .ref (a 8), .ref (a 10), .int 0, .int (nI (k + 1)), .int (nI k)])), ((a 10), .inr (4, [.ref (a 11), .ref (a 23), .int 0, .ref (a 24), .int 0, .int 0, .int 0, .ref (a 25), .int 0, .ref (a 26), .int 0, .int 0])), ((a 11), .inr (8, [.int 0, .ref (a 12)]))] s.heap.size = A at hD ⊢
  have hA : ∀ q : Nat, s.heap.size ≤ q → A q := fun q h => by rw [← hAe]; exact Or.inr h
  have hS : va_S A s.heap s.heap [] := va_S.rf
  have hP : va_P D vwCl [(h0, .inr (11, [.ref dv, .ref tp, .int 0])), (dv, .inl (ca 2, 4, .inr (.inr (.inr (.inr fd))))), ((a 0), .inr (1, [.ref (a 1), .ref (a 4), .ref (a 5), .ref (a 6), .ref (a 8), .ref (a 10), .int 0, .int (nI (k + 1)), .int (nI k)])), ((a 10), .inr (4, [.ref (a 11), .ref (a 23), .int 0, .ref (a 24), .int 0, .int 0, .int 0, .ref (a 25), .int 0, .ref (a 26), .int 0, .int 0])), ((a 11), .inr (8, [.int 0, .ref (a 12)]))] s.heap := hP
  have hl := lv_entry ([.ref h0, .int (nI k), .long nm, .int n, .int i]) (n := 7) (Nat.le_of_ble_eq_true rfl)
  rw [lg_entry_eq]
  generalize (lg_sl ([.ref h0, .int (nI k), .long nm, .int n, .int i]) ++ List.replicate (7 - (lg_sl ([.ref h0, .int (nI k), .long nm, .int n, .int i])).length) Slot.unset).toArray = ls at hl ⊢
  have hl : lv_has ls 7 [(0, .ref h0), (1, .int (nI k)), (2, .long nm), (4, .int n), (5, .int i)] := hl
  refine lv_aload_n hx hb dX11_octet_0 rfl (lv_at hl 0 rfl) ?_
  refine lv_iload_n hx hb dX11_octet_1 rfl (lv_at hl 1 rfl) ?_
  refine lv_lload_n hx hb dX11_octet_2 rfl (lv_at hl 2 rfl) ?_
  refine lv_iload hx hb dX11_octet_3 (lv_at hl 3 rfl) ?_
  refine kGo_q (wr := []) (kRunV (As := [.int (nI k), .long nm, .int n]) (rest := []) ⟨hx, hb, hml, hown, hts⟩ (c_thingAt_yes l D ca _ h0 dv tp fd a k nm n hk hfd) (cwV 3 hts g_c_octet_yes_c_thingAt_yes_160 rfl rfl rfl (by decide +kernel) ⟨Nat.le_of_ble_eq_true rfl, Nat.le_of_ble_eq_true rfl⟩) hK hN hP hD [0, 1, 2, 3, 4] rfl rfl rfl rfl rfl rfl hl.1 rfl (Nat.le_of_ble_eq_true rfl) dX11_octet_5 ⟨Nat.le_of_ble_eq_true rfl, Nat.le_of_ble_eq_true rfl⟩) hP hD hS hA [0, 1, 2, 3, 4] [] rfl rfl rfl (by decide) (fun r_1 uu_ tt H locs hr_1 hB hj hS => ?_)
  have hWd := hB
  obtain ⟨hP, hD⟩ := hj _ hWd
  have hP : va_P D vwCl [] H := hP
  have hD : va_D A [] := hD
  subst hr_1
  refine W.eq (g2 := F0 m 8 ls [.null]) rfl ?_
  refine lv_astoreN (lv' := [(6, .null), (0, .ref h0), (1, .int (nI k)), (2, .long nm), (4, .int n), (5, .int i)]) hx hb dX11_octet_8 hl (by decide) rfl (fun ls hl => ?_)
  refine lv_aloadN hx hb dX11_octet_10 (lv_at hl 0 rfl) ?_
  refine lv_ifnullN (tgt := 37) hx hb dX11_octet_12 (by decide) ?_
  refine lv_iconst (v := (-1)) hx hb dX11_octet_37 (by decide) ?_
  exact W.iret (v := (-1)) hx hb hr (fun tt ht hW => ⟨⟨(-1), (), rfl, rfl, ⟨by rw [ht]; exact hP.sub [] rfl, hD.sub [] rfl rfl⟩⟩, hS.F ht⟩) hS.2.2 dX11_octet_38
def w_c_placeFor : List Cond := .code yX8_placeFor cX8_placeFor 4 (some (.object "BeamHouse$Thing")) :: (([.fieldLink RX8 18 "BeamHouse$Store" "count" "I", .fieldLink RX8 11 "BeamHouse$Store" "things" "[LBeamHouse$Thing;"] : List Cond) ++ wsX80)
set_option maxHeartbeats 4000000 in
set_option maxRecDepth 100000 in
theorem c_placeFor (l : Launch) (D : va_G) (ca : Nat → ClassId) (sz : Nat) (a : Nat → Nat) (ft : Nat → Option Nat) (ky : Int64) (hft : ft 0 = some (a 13)) : Met l yX8_placeFor w_c_placeFor ({ frames := 0, cells := 0, slots := 0, locals := 0 }) (Pre D ca [.ref (a 11), .long ky] [((a 11), .inr (8, [.int 0, .ref (a 12)])), ((a 12), .inl (ca 3, 6, .inr (.inr (.inr (.inr ft)))))] sz) (va_Qq (fun (r : Option Nat) (_ : Unit) => r = some (a 13)) (fun (_ : Unit) (tt : State) => Wd D (va_A [((a 11), .inr (8, [.int 0, .ref (a 12)])), ((a 12), .inl (ca 3, 6, .inr (.inr (.inr (.inr ft)))))] sz) [] tt) (va_A [((a 11), .inr (8, [.int 0, .ref (a 12)])), ((a 12), .inl (ca 3, 6, .inr (.inr (.inr (.inr ft)))))] sz)) 0 0 (va_A [((a 11), .inr (8, [.int 0, .ref (a 12)])), ((a 12), .inl (ca 3, 6, .inr (.inr (.inr (.inr ft)))))] sz) := by
  refine Met.ofW (cc := cX8_placeFor) (maxL := 4) (ret := (some (.object "BeamHouse$Thing"))) (by decide) rfl ?_
  intro p e s m args below meth c s₁ B hml hv
  obtain ⟨rfl, hsz, hP, hK, hD0, hN⟩ := hv
  have hx := B.exec
  have hb := B.bytes
  have hr := B.returns
  have hts := atoms_spec (ws := w_c_placeFor) B.pre
  have hown : s.vm.findClass RX8 = some m.cls := findClass_of_methodNamed B.named
  have hlocks := B.notSynchronized
  have hi_X8 : ∀ w ∈ wsX80, w ∈ w_c_placeFor := fun _ h => List.mem_cons_of_mem _ (List.mem_append_right _ h)
  subst hsz
  have hD := hD0.self (sz := s.heap.size)
  generalize hAe : va_A [((a 11), .inr (8, [.int 0, .ref (a 12)])), ((a 12), .inl (ca 3, 6, .inr (.inr (.inr (.inr ft)))))] s.heap.size = A at hD ⊢
  have hA : ∀ q : Nat, s.heap.size ≤ q → A q := fun q h => by rw [← hAe]; exact Or.inr h
  have hS : va_S A s.heap s.heap [] := va_S.rf
  have hP : va_P D vwCl [((a 11), .inr (8, [.int 0, .ref (a 12)])), ((a 12), .inl (ca 3, 6, .inr (.inr (.inr (.inr ft)))))] s.heap := hP
  have hl := lv_entry ([.ref (a 11), .long ky]) (n := 4) (Nat.le_of_ble_eq_true rfl)
  rw [lg_entry_eq]
  generalize (lg_sl ([.ref (a 11), .long ky]) ++ List.replicate (4 - (lg_sl ([.ref (a 11), .long ky])).length) Slot.unset).toArray = ls at hl ⊢
  have hl : lv_has ls 4 [(0, .ref (a 11)), (1, .long ky)] := hl
  refine lv_iconst (v := 0) hx hb dX8_placeFor_0 (by decide) ?_
  refine lv_istore_n (lv' := [(3, .int 0), (0, .ref (a 11)), (1, .long ky)]) hx hb dX8_placeFor_1 rfl hl (by decide) rfl (fun ls hl => ?_)
  refine lv_iload_n hx hb dX8_placeFor_2 rfl (lv_at hl 0 rfl) ?_
  refine lv_aload_n hx hb dX8_placeFor_3 rfl (lv_at hl 1 rfl) ?_
  refine va_get (D := D) (ci := 8) (v := .int 0) (C := RX8) (T := TX8) (N := 2) hx hb hts hi_X8 hown hK hP 0 rfl rfl 0 (by decide) (hts (.fieldLink RX8 18 "BeamHouse$Store" "count" "I") (List.mem_of_getElem? (i := 1) rfl)) (fun _ h9 => h9) rfl dX8_placeFor_4 ?_
  refine lv_icmp_ge (tgt := 36) hx hb dX8_placeFor_7 (by decide) (fun _ => ?_) (fun h => absurd (by decide) h)
  refine lv_iload_n hx hb dX8_placeFor_36 rfl (lv_at hl 0 rfl) ?_
  refine lv_bipush (v := 6) hx hb dX8_placeFor_37 (by decide) ?_
  refine lv_icmp_lt (tgt := 44) hx hb dX8_placeFor_39 (by decide) (fun _ => ?_) (fun h => absurd (by decide) h)
  refine lv_iload_n hx hb dX8_placeFor_44 rfl (lv_at hl 0 rfl) ?_
  refine lv_aload_n hx hb dX8_placeFor_45 rfl (lv_at hl 1 rfl) ?_
  refine va_get (D := D) (ci := 8) (v := .int 0) (C := RX8) (T := TX8) (N := 2) hx hb hts hi_X8 hown hK hP 0 rfl rfl 0 (by decide) (hts (.fieldLink RX8 18 "BeamHouse$Store" "count" "I") (List.mem_of_getElem? (i := 1) rfl)) (fun _ h9 => h9) rfl dX8_placeFor_46 ?_
  refine lv_icmp_ne (tgt := 62) hx hb dX8_placeFor_49 (by decide) (fun h => absurd (by decide) h) (fun _ => ?_)
  refine lv_aload_n hx hb dX8_placeFor_52 rfl (lv_at hl 1 rfl) ?_
  refine lv_dup hx hb dX8_placeFor_53 rfl ?_
  refine va_get (D := D) (ci := 8) (v := .int 0) (C := RX8) (T := TX8) (N := 2) hx hb hts hi_X8 hown hK hP 0 rfl rfl 0 (by decide) (hts (.fieldLink RX8 18 "BeamHouse$Store" "count" "I") (List.mem_of_getElem? (i := 1) rfl)) (fun _ h9 => h9) rfl dX8_placeFor_54 ?_
  refine lv_iconst (v := 1) hx hb dX8_placeFor_57 (by decide) ?_
  refine lv_iadd hx hb dX8_placeFor_58 ?_
  refine lv_topn 1 (by decide) ?_
  refine va_put (D := D) (ci := 8) (v := .int 1) (ty := .int) (C := RX8) (T := TX8) (N := 2) hx hb hts hi_X8 tyX8 tyX8_ok nmX8 hown hK hP hD hS 0 rfl rfl 0 (by decide) (hts (.fieldLink RX8 18 "BeamHouse$Store" "count" "I") (List.mem_of_getElem? (i := 1) rfl)) (fun _ h9 => h9) rfl (by decide +kernel) rfl rfl (Nat.le_of_ble_eq_true rfl) dX8_placeFor_59 (fun H locs hP hD hS => ?_)
  have hP : va_P D vwCl [((a 11), .inr (8, [.int 1, .ref (a 12)])), ((a 12), .inl (ca 3, 6, .inr (.inr (.inr (.inr ft)))))] H := hP
  have hD : va_D A [((a 11), .inr (8, [.int 1, .ref (a 12)])), ((a 12), .inl (ca 3, 6, .inr (.inr (.inr (.inr ft)))))] := hD
  refine lv_aload_n hx hb dX8_placeFor_62 rfl (lv_at hl 1 rfl) ?_
  refine va_get (D := D) (ci := 8) (v := .ref (a 12)) (C := RX8) (T := TX8) (N := 2) hx hb hts hi_X8 hown hK hP 0 rfl rfl 1 (by decide) (hts (.fieldLink RX8 11 "BeamHouse$Store" "things" "[LBeamHouse$Thing;") (List.mem_of_getElem? (i := 2) rfl)) (fun _ h9 => h9) rfl dX8_placeFor_63 ?_
  refine lv_iload_n hx hb dX8_placeFor_66 rfl (lv_at hl 0 rfl) ?_
  refine va_aldq hx hb hK hP 1 3 rfl rfl (show ¬ (_ ∨ _) by decide) dX8_placeFor_67 ?_
  refine lv_topv (.ref (a 13)) (by show va_rf (ft 0) = _; rw [hft]; rfl) ?_
  exact W.aret (v := .ref (a 13)) hx hb hr (Or.inl ⟨_, rfl⟩) (Or.inr ⟨_, rfl⟩) (fun tt ht hW => ⟨⟨(some (a 13)), (), rfl, rfl, ⟨by rw [ht]; exact hP.sub [] rfl, hD.sub [] rfl rfl⟩⟩, hS.F ht⟩) hS.2.2 dX8_placeFor_68
def w_c_Thing_begins : List Cond := .code yX9_begins cX9_begins 3 none :: (([.fieldLink RX9 15 "BeamHouse$Thing" "name" "J", .fieldLink RX9 19 "BeamHouse$Thing" "length" "I"] : List Cond) ++ wsX90)
set_option maxHeartbeats 4000000 in
set_option maxRecDepth 100000 in
theorem c_Thing_begins (l : Launch) (D : va_G) (ca : Nat → ClassId) (sz : Nat) (a : Nat → Nat) (ky : Int64)  : Met l yX9_begins w_c_Thing_begins ({ frames := 0, cells := 0, slots := 0, locals := 0 }) (Pre D ca [.ref (a 13), .long ky] [((a 13), .inr (9, [.ref (a 14), .long 0, .int 0]))] sz) (va_Qv (fun _ : Unit => True) (fun (_ : Unit) (tt : State) => Wd D (va_A [((a 13), .inr (9, [.ref (a 14), .long 0, .int 0]))] sz) [((a 13), .inr (9, [.ref (a 14), .long ky, .int 0]))] tt) (va_A [((a 13), .inr (9, [.ref (a 14), .long 0, .int 0]))] sz)) 0 0 (va_A [((a 13), .inr (9, [.ref (a 14), .long 0, .int 0]))] sz) := by
  refine Met.ofW (cc := cX9_begins) (maxL := 3) (ret := none) (by decide) rfl ?_
  intro p e s m args below meth c s₁ B hml hv
  obtain ⟨rfl, hsz, hP, hK, hD0, hN⟩ := hv
  have hx := B.exec
  have hb := B.bytes
  have hr := B.returns
  have hts := atoms_spec (ws := w_c_Thing_begins) B.pre
  have hown : s.vm.findClass RX9 = some m.cls := findClass_of_methodNamed B.named
  have hlocks := B.notSynchronized
  have hi_X9 : ∀ w ∈ wsX90, w ∈ w_c_Thing_begins := fun _ h => List.mem_cons_of_mem _ (List.mem_append_right _ h)
  subst hsz
  have hD := hD0.self (sz := s.heap.size)
  generalize hAe : va_A [((a 13), .inr (9, [.ref (a 14), .long 0, .int 0]))] s.heap.size = A at hD ⊢
  have hA : ∀ q : Nat, s.heap.size ≤ q → A q := fun q h => by rw [← hAe]; exact Or.inr h
  have hS : va_S A s.heap s.heap [] := va_S.rf
  have hP : va_P D vwCl [((a 13), .inr (9, [.ref (a 14), .long 0, .int 0]))] s.heap := hP
  have hl := lv_entry ([.ref (a 13), .long ky]) (n := 3) (Nat.le_of_ble_eq_true rfl)
  rw [lg_entry_eq]
  generalize (lg_sl ([.ref (a 13), .long ky]) ++ List.replicate (3 - (lg_sl ([.ref (a 13), .long ky])).length) Slot.unset).toArray = ls at hl ⊢
  have hl : lv_has ls 3 [(0, .ref (a 13)), (1, .long ky)] := hl
  refine lv_aload_n hx hb dX9_begins_0 rfl (lv_at hl 0 rfl) ?_
  refine lv_lload_n hx hb dX9_begins_1 rfl (lv_at hl 1 rfl) ?_
  refine va_put (D := D) (ci := 9) (v := .long ky) (ty := .long) (C := RX9) (T := TX9) (N := 3) hx hb hts hi_X9 tyX9 tyX9_ok nmX9 hown hK hP hD hS 0 rfl rfl 1 (by decide) (hts (.fieldLink RX9 15 "BeamHouse$Thing" "name" "J") (List.mem_of_getElem? (i := 1) rfl)) (fun _ h9 => h9) rfl (by decide +kernel) rfl rfl (Nat.le_of_ble_eq_true rfl) dX9_begins_2 (fun H locs hP hD hS => ?_)
  have hP : va_P D vwCl [((a 13), .inr (9, [.ref (a 14), .long ky, .int 0]))] H := hP
  have hD : va_D A [((a 13), .inr (9, [.ref (a 14), .long ky, .int 0]))] := hD
  refine lv_aload_n hx hb dX9_begins_5 rfl (lv_at hl 0 rfl) ?_
  refine lv_iconst (v := 0) hx hb dX9_begins_6 (by decide) ?_
  refine va_put (D := D) (ci := 9) (v := .int 0) (ty := .int) (C := RX9) (T := TX9) (N := 3) hx hb hts hi_X9 tyX9 tyX9_ok nmX9 hown hK hP hD hS 0 rfl rfl 2 (by decide) (hts (.fieldLink RX9 19 "BeamHouse$Thing" "length" "I") (List.mem_of_getElem? (i := 2) rfl)) (fun _ h9 => h9) rfl (by decide +kernel) rfl rfl (Nat.le_of_ble_eq_true rfl) dX9_begins_7 (fun H locs hP hD hS => ?_)
  have hP : va_P D vwCl [((a 13), .inr (9, [.ref (a 14), .long ky, .int 0]))] H := hP
  have hD : va_D A [((a 13), .inr (9, [.ref (a 14), .long ky, .int 0]))] := hD
  exact W.vret hx hb hr (fun tt ht hW => ⟨⟨(), rfl, trivial, ⟨by rw [ht]; exact hP.sub [0] rfl, hD.sub [0] rfl rfl⟩⟩, hS.F ht⟩) hS.2.2 dX9_begins_10
def w_c_Thing_adds : List Cond := .code yX9_adds cX9_adds 2 none :: (([.fieldLink RX9 19 "BeamHouse$Thing" "length" "I", .fieldLink RX9 9 "BeamHouse$Thing" "bytes" "[I"] : List Cond) ++ wsX90)
set_option maxHeartbeats 4000000 in
set_option maxRecDepth 100000 in
theorem c_Thing_adds (l : Launch) (D : va_G) (ca : Nat → ClassId) (sz : Nat) (a : Nat → Nat) (ky : Int64) (y : Int32) (f : Nat → Int32) (v : Int32)  : Met l yX9_adds w_c_Thing_adds ({ frames := 0, cells := 0, slots := 0, locals := 0 }) (Pre D ca [.ref (a 13), .int v] [((a 13), .inr (9, [.ref (a 14), .long ky, .int y])), ((a 14), .inl (ca 0, 120, .inl f))] sz) (va_Qv (fun _ : Unit => True) (fun (_ : Unit) (tt : State) => ∃ (y1 : Int32) (f1 : Nat → Int32), Wd D (va_A [((a 13), .inr (9, [.ref (a 14), .long ky, .int y])), ((a 14), .inl (ca 0, 120, .inl f))] sz) [((a 13), .inr (9, [.ref (a 14), .long ky, .int y1])), ((a 14), .inl (ca 0, 120, .inl f1))] tt) (va_A [((a 13), .inr (9, [.ref (a 14), .long ky, .int y])), ((a 14), .inl (ca 0, 120, .inl f))] sz)) 0 0 (va_A [((a 13), .inr (9, [.ref (a 14), .long ky, .int y])), ((a 14), .inl (ca 0, 120, .inl f))] sz) := by
  refine Met.ofW (cc := cX9_adds) (maxL := 2) (ret := none) (by decide) rfl ?_
  intro p e s m args below meth c s₁ B hml hv
  obtain ⟨rfl, hsz, hP, hK, hD0, hN⟩ := hv
  have hx := B.exec
  have hb := B.bytes
  have hr := B.returns
  have hts := atoms_spec (ws := w_c_Thing_adds) B.pre
  have hown : s.vm.findClass RX9 = some m.cls := findClass_of_methodNamed B.named
  have hlocks := B.notSynchronized
  have hi_X9 : ∀ w ∈ wsX90, w ∈ w_c_Thing_adds := fun _ h => List.mem_cons_of_mem _ (List.mem_append_right _ h)
  subst hsz
  have hD := hD0.self (sz := s.heap.size)
  generalize hAe : va_A [((a 13), .inr (9, [.ref (a 14), .long ky, .int y])), ((a 14), .inl (ca 0, 120, .inl f))] s.heap.size = A at hD ⊢
  have hA : ∀ q : Nat, s.heap.size ≤ q → A q := fun q h => by rw [← hAe]; exact Or.inr h
  have hS : va_S A s.heap s.heap [] := va_S.rf
  have hP : va_P D vwCl [((a 13), .inr (9, [.ref (a 14), .long ky, .int y])), ((a 14), .inl (ca 0, 120, .inl f))] s.heap := hP
  have hl := lv_entry ([.ref (a 13), .int v]) (n := 2) (Nat.le_of_ble_eq_true rfl)
  rw [lg_entry_eq]
  generalize (lg_sl ([.ref (a 13), .int v]) ++ List.replicate (2 - (lg_sl ([.ref (a 13), .int v])).length) Slot.unset).toArray = ls at hl ⊢
  have hl : lv_has ls 2 [(0, .ref (a 13)), (1, .int v)] := hl
  refine lv_aload_n hx hb dX9_adds_0 rfl (lv_at hl 0 rfl) ?_
  refine va_get (D := D) (ci := 9) (v := .int y) (C := RX9) (T := TX9) (N := 3) hx hb hts hi_X9 hown hK hP 0 rfl rfl 2 (by decide) (hts (.fieldLink RX9 19 "BeamHouse$Thing" "length" "I") (List.mem_of_getElem? (i := 1) rfl)) (fun _ h9 => h9) rfl dX9_adds_1 ?_
  refine lv_if_lt (tgt := 16) hx hb dX9_adds_4 (by decide) (fun c_4 => ?_) (fun c_4 => ?_)
  · exact W.vret hx hb hr (fun tt ht hW => ⟨⟨(), rfl, trivial, ⟨y, f, ⟨by rw [ht]; exact hP.sub [0, 1] rfl, hD.sub [0, 1] rfl rfl⟩⟩⟩, hS.F ht⟩) hS.2.2 dX9_adds_16
  · refine lv_aload_n hx hb dX9_adds_7 rfl (lv_at hl 0 rfl) ?_
    refine va_get (D := D) (ci := 9) (v := .int y) (C := RX9) (T := TX9) (N := 3) hx hb hts hi_X9 hown hK hP 0 rfl rfl 2 (by decide) (hts (.fieldLink RX9 19 "BeamHouse$Thing" "length" "I") (List.mem_of_getElem? (i := 1) rfl)) (fun _ h9 => h9) rfl dX9_adds_8 ?_
    refine lv_bipush (v := 120) hx hb dX9_adds_11 (by decide) ?_
    refine lv_icmp_le (tgt := 17) hx hb dX9_adds_13 (by decide) (fun c_13 => ?_) (fun c_13 => ?_)
    · refine lv_aload_n hx hb dX9_adds_17 rfl (lv_at hl 0 rfl) ?_
      refine va_get (D := D) (ci := 9) (v := .int y) (C := RX9) (T := TX9) (N := 3) hx hb hts hi_X9 hown hK hP 0 rfl rfl 2 (by decide) (hts (.fieldLink RX9 19 "BeamHouse$Thing" "length" "I") (List.mem_of_getElem? (i := 1) rfl)) (fun _ h9 => h9) rfl dX9_adds_18 ?_
      refine lv_bipush (v := 120) hx hb dX9_adds_21 (by decide) ?_
      refine lv_icmp_ge (tgt := 40) hx hb dX9_adds_23 (by decide) (fun c_23 => ?_) (fun c_23 => ?_)
      · refine lv_aload_n hx hb dX9_adds_40 rfl (lv_at hl 0 rfl) ?_
        refine lv_dup hx hb dX9_adds_41 rfl ?_
        refine va_get (D := D) (ci := 9) (v := .int y) (C := RX9) (T := TX9) (N := 3) hx hb hts hi_X9 hown hK hP 0 rfl rfl 2 (by decide) (hts (.fieldLink RX9 19 "BeamHouse$Thing" "length" "I") (List.mem_of_getElem? (i := 1) rfl)) (fun _ h9 => h9) rfl dX9_adds_42 ?_
        refine lv_iconst (v := 1) hx hb dX9_adds_45 (by decide) ?_
        refine lv_iadd hx hb dX9_adds_46 ?_
        refine lv_topi (fun x_1 ex_1 => ?_)
        refine va_put (D := D) (ci := 9) (v := .int x_1) (ty := .int) (C := RX9) (T := TX9) (N := 3) hx hb hts hi_X9 tyX9 tyX9_ok nmX9 hown hK hP hD hS 0 rfl rfl 2 (by decide) (hts (.fieldLink RX9 19 "BeamHouse$Thing" "length" "I") (List.mem_of_getElem? (i := 1) rfl)) (fun _ h9 => h9) rfl (by decide +kernel) rfl rfl (Nat.le_of_ble_eq_true rfl) dX9_adds_47 (fun H locs hP hD hS => ?_)
        have hP : va_P D vwCl [((a 13), .inr (9, [.ref (a 14), .long ky, .int x_1])), ((a 14), .inl (ca 0, 120, .inl f))] H := hP
        have hD : va_D A [((a 13), .inr (9, [.ref (a 14), .long ky, .int x_1])), ((a 14), .inl (ca 0, 120, .inl f))] := hD
        exact W.vret hx hb hr (fun tt ht hW => ⟨⟨(), rfl, trivial, ⟨x_1, f, ⟨by rw [ht]; exact hP.sub [0, 1] rfl, hD.sub [0, 1] rfl rfl⟩⟩⟩, hS.F ht⟩) hS.2.2 dX9_adds_50
      · refine lv_aload_n hx hb dX9_adds_26 rfl (lv_at hl 0 rfl) ?_
        refine va_get (D := D) (ci := 9) (v := .ref (a 14)) (C := RX9) (T := TX9) (N := 3) hx hb hts hi_X9 hown hK hP 0 rfl rfl 0 (by decide) (hts (.fieldLink RX9 9 "BeamHouse$Thing" "bytes" "[I") (List.mem_of_getElem? (i := 2) rfl)) (fun _ h9 => h9) rfl dX9_adds_27 ?_
        refine lv_aload_n hx hb dX9_adds_30 rfl (lv_at hl 0 rfl) ?_
        refine va_get (D := D) (ci := 9) (v := .int y) (C := RX9) (T := TX9) (N := 3) hx hb hts hi_X9 hown hK hP 0 rfl rfl 2 (by decide) (hts (.fieldLink RX9 19 "BeamHouse$Thing" "length" "I") (List.mem_of_getElem? (i := 1) rfl)) (fun _ h9 => h9) rfl dX9_adds_31 ?_
        refine lv_iload_n hx hb dX9_adds_34 rfl (lv_at hl 1 rfl) ?_
        refine lv_sipush (v := 255) hx hb dX9_adds_35 (by decide) ?_
        refine lv_iand hx hb dX9_adds_38 ?_
        refine lv_topi (fun x_2 ex_2 => ?_)
        refine va_iast hx hb hK hP hD hS 1 0 rfl rfl (vp_of (M := 120) (n := 120) (by decide) (by decide) c_4 c_23) dX9_adds_39 (fun H locs hP hD hS => ?_)
        have hP : va_P D vwCl [((a 13), .inr (9, [.ref (a 14), .long ky, .int y])), ((a 14), .inl (ca 0, 120, .inl (upd f (y).toNatClampNeg x_2)))] H := hP
        have hD : va_D A [((a 13), .inr (9, [.ref (a 14), .long ky, .int y])), ((a 14), .inl (ca 0, 120, .inl (upd f (y).toNatClampNeg x_2)))] := hD
        generalize (upd f (y).toNatClampNeg x_2) = f_3 at hP hD
        refine lv_aload_n hx hb dX9_adds_40 rfl (lv_at hl 0 rfl) ?_
        refine lv_dup hx hb dX9_adds_41 rfl ?_
        refine va_get (D := D) (ci := 9) (v := .int y) (C := RX9) (T := TX9) (N := 3) hx hb hts hi_X9 hown hK hP 0 rfl rfl 2 (by decide) (hts (.fieldLink RX9 19 "BeamHouse$Thing" "length" "I") (List.mem_of_getElem? (i := 1) rfl)) (fun _ h9 => h9) rfl dX9_adds_42 ?_
        refine lv_iconst (v := 1) hx hb dX9_adds_45 (by decide) ?_
        refine lv_iadd hx hb dX9_adds_46 ?_
        refine lv_topi (fun x_4 ex_4 => ?_)
        refine va_put (D := D) (ci := 9) (v := .int x_4) (ty := .int) (C := RX9) (T := TX9) (N := 3) hx hb hts hi_X9 tyX9 tyX9_ok nmX9 hown hK hP hD hS 0 rfl rfl 2 (by decide) (hts (.fieldLink RX9 19 "BeamHouse$Thing" "length" "I") (List.mem_of_getElem? (i := 1) rfl)) (fun _ h9 => h9) rfl (by decide +kernel) rfl rfl (Nat.le_of_ble_eq_true rfl) dX9_adds_47 (fun H locs hP hD hS => ?_)
        have hP : va_P D vwCl [((a 13), .inr (9, [.ref (a 14), .long ky, .int x_4])), ((a 14), .inl (ca 0, 120, .inl f_3))] H := hP
        have hD : va_D A [((a 13), .inr (9, [.ref (a 14), .long ky, .int x_4])), ((a 14), .inl (ca 0, 120, .inl f_3))] := hD
        exact W.vret hx hb hr (fun tt ht hW => ⟨⟨(), rfl, trivial, ⟨x_4, f_3, ⟨by rw [ht]; exact hP.sub [0, 1] rfl, hD.sub [0, 1] rfl rfl⟩⟩⟩, hS.F ht⟩) hS.2.2 dX9_adds_50
    · exact W.vret hx hb hr (fun tt ht hW => ⟨⟨(), rfl, trivial, ⟨y, f, ⟨by rw [ht]; exact hP.sub [0, 1] rfl, hD.sub [0, 1] rfl rfl⟩⟩⟩, hS.F ht⟩) hS.2.2 dX9_adds_16
def w_c_store_no : List Cond := .code yX11_store cX11_store 13 (some .int) :: (([.code yX11_deviceAt cX11_deviceAt 2 (some (.object "BeamHouse$Device")), .methodLink RX11 22 yX11_deviceAt, .instanceMethod yX11_deviceAt, .selects RX11 yX11_deviceAt yX11_deviceAt, .initialized RX11] : List Cond))
theorem g_c_store_no_c_deviceAt_no_22 : GoodIn w_c_store_no (wsV RX11 22 RX11 yX11_deviceAt w_c_deviceAt_no) := (goodIn_app (goodIn_r _ [2, 3, 4, 5] rfl rfl) (goodIn_r _ [1] rfl rfl))
set_option maxHeartbeats 4000000 in
set_option maxRecDepth 100000 in
theorem c_store_no (l : Launch) (D : va_G) (ca : Nat → ClassId) (sz : Nat) (h0 : Nat) (dv : Nat) (tp : Nat) (d : Int32) (nm : Int64) (n : Int32) (ln : Int32) (sr : Int32) (sp : Int32) (hd : d < 0 ∨ 4 ≤ d) : Met l yX11_store w_c_store_no ({ frames := 1, cells := 0, slots := 0, locals := 21 }) (Pre D ca [.ref h0, .int d, .long nm, .int n, .int ln, .int sr, .int sp] [(h0, .inr (11, [.ref dv, .ref tp, .int 0]))] sz) (va_Qi (fun (r : Int32) (_ : Unit) => r = -1) (fun (_ : Unit) (tt : State) => Wd D (va_A [(h0, .inr (11, [.ref dv, .ref tp, .int 0]))] sz) [] tt) (va_A [(h0, .inr (11, [.ref dv, .ref tp, .int 0]))] sz)) 0 0 (va_A [(h0, .inr (11, [.ref dv, .ref tp, .int 0]))] sz) := by
  refine Met.ofW (cc := cX11_store) (maxL := 13) (ret := (some .int)) (by decide) rfl ?_
  intro p e s m args below meth c s₁ B hml hv
  obtain ⟨rfl, hsz, hP, hK, hD0, hN⟩ := hv
  have hx := B.exec
  have hb := B.bytes
  have hr := B.returns
  have hts := atoms_spec (ws := w_c_store_no) B.pre
  have hown : s.vm.findClass RX11 = some m.cls := findClass_of_methodNamed B.named
  have hlocks := B.notSynchronized
  subst hsz
  have hD := hD0.self (sz := s.heap.size)
  generalize hAe : va_A [(h0, .inr (11, [.ref dv, .ref tp, .int 0]))] s.heap.size = A at hD ⊢
  have hA : ∀ q : Nat, s.heap.size ≤ q → A q := fun q h => by rw [← hAe]; exact Or.inr h
  have hS : va_S A s.heap s.heap [] := va_S.rf
  have hP : va_P D vwCl [(h0, .inr (11, [.ref dv, .ref tp, .int 0]))] s.heap := hP
  have hl := lv_entry ([.ref h0, .int d, .long nm, .int n, .int ln, .int sr, .int sp]) (n := 13) (Nat.le_of_ble_eq_true rfl)
  rw [lg_entry_eq]
  generalize (lg_sl ([.ref h0, .int d, .long nm, .int n, .int ln, .int sr, .int sp]) ++ List.replicate (13 - (lg_sl ([.ref h0, .int d, .long nm, .int n, .int ln, .int sr, .int sp])).length) Slot.unset).toArray = ls at hl ⊢
  have hl : lv_has ls 13 [(0, .ref h0), (1, .int d), (2, .long nm), (4, .int n), (5, .int ln), (6, .int sr), (7, .int sp)] := hl
  refine lv_aload_n hx hb dX11_store_0 rfl (lv_at hl 0 rfl) ?_
  refine lv_iload_n hx hb dX11_store_1 rfl (lv_at hl 1 rfl) ?_
  refine kGo_q (wr := []) (kRunV (As := [.int d]) (rest := []) ⟨hx, hb, hml, hown, hts⟩ (c_deviceAt_no l D ca _ h0 dv tp d hd) (cwV 1 hts g_c_store_no_c_deviceAt_no_22 rfl rfl rfl (by decide +kernel) ⟨Nat.le_of_ble_eq_true rfl, Nat.le_of_ble_eq_true rfl⟩) hK hN hP hD [0] rfl rfl rfl rfl rfl rfl hl.1 rfl (Nat.le_of_ble_eq_true rfl) dX11_store_2 ⟨Nat.le_of_ble_eq_true rfl, Nat.le_of_ble_eq_true rfl⟩) hP hD hS hA [0] [] rfl rfl rfl (by decide) (fun r_1 uu_ tt H locs hr_1 hB hj hS => ?_)
  have hWd := hB
  obtain ⟨hP, hD⟩ := hj _ hWd
  have hP : va_P D vwCl [(h0, .inr (11, [.ref dv, .ref tp, .int 0]))] H := hP
  have hD : va_D A [(h0, .inr (11, [.ref dv, .ref tp, .int 0]))] := hD
  subst hr_1
  refine W.eq (g2 := F0 m 5 ls [.null]) rfl ?_
  refine lv_astoreN (lv' := [(8, .null), (0, .ref h0), (1, .int d), (2, .long nm), (4, .int n), (5, .int ln), (6, .int sr), (7, .int sp)]) hx hb dX11_store_5 hl (by decide) rfl (fun ls hl => ?_)
  refine lv_aloadN hx hb dX11_store_7 (lv_at hl 0 rfl) ?_
  refine lv_ifnonnullN hx hb dX11_store_9 ?_
  refine lv_iconst (v := (-1)) hx hb dX11_store_12 (by decide) ?_
  exact W.iret (v := (-1)) hx hb hr (fun tt ht hW => ⟨⟨(-1), (), rfl, rfl, ⟨by rw [ht]; exact hP.sub [] rfl, hD.sub [] rfl rfl⟩⟩, hS.F ht⟩) hS.2.2 dX11_store_13
def w_c_store_yes : List Cond := .code yX11_store cX11_store 13 (some .int) :: (([.code yX11_deviceAt cX11_deviceAt 2 (some (.object "BeamHouse$Device")), .fieldLink RX11 11 "BeamHouse" "devices" "[LBeamHouse$Device;", .methodLink RX11 22 yX11_deviceAt, .instanceMethod yX11_deviceAt, .selects RX11 yX11_deviceAt yX11_deviceAt, .initialized RX11, .code yX11_nameKey cX11_nameKey 8 (some .long), .constantLong RX11 232 (255), .methodLink RX11 115 yX11_nameKey, .static yX11_nameKey, .fieldLink RX11 119 "BeamHouse$Device" "objects" "LBeamHouse$Objects;", .fieldLink RX11 123 "BeamHouse$Objects" "store" "LBeamHouse$Store;", .code yX8_placeFor cX8_placeFor 4 (some (.object "BeamHouse$Thing")), .fieldLink RX8 18 "BeamHouse$Store" "count" "I", .fieldLink RX8 11 "BeamHouse$Store" "things" "[LBeamHouse$Thing;", .methodLink RX11 129 yX8_placeFor, .instanceMethod yX8_placeFor, .selects RX8 yX8_placeFor yX8_placeFor, .initialized RX8, .code yX9_begins cX9_begins 3 none, .fieldLink RX9 15 "BeamHouse$Thing" "name" "J", .fieldLink RX9 19 "BeamHouse$Thing" "length" "I", .methodLink RX11 135 yX9_begins, .instanceMethod yX9_begins, .selects RX9 yX9_begins yX9_begins, .initialized RX9, .code yX9_adds cX9_adds 2 none, .fieldLink RX9 9 "BeamHouse$Thing" "bytes" "[I", .methodLink RX11 140 yX9_adds, .instanceMethod yX9_adds, .selects RX9 yX9_adds yX9_adds] : List Cond) ++ wsX110 ++ wsX10 ++ wsX40 ++ wsX80 ++ wsX90)
theorem g_c_store_yes_c_deviceAt_yes_22 : GoodIn w_c_store_yes (wsV RX11 22 RX11 yX11_deviceAt w_c_deviceAt_yes) := (goodIn_app (goodIn_r _ [3, 4, 5, 6] rfl rfl) (goodIn_ca (goodIn_r _ [1, 2] rfl rfl) (goodIn_sub (fun _ h => List.mem_cons_of_mem _ (List.mem_append_left _ (List.mem_append_left _ (List.mem_append_left _ (List.mem_append_left _ (List.mem_append_right _ h)))))) gw_X11)))
theorem g_c_store_yes_c_nameKey_115 : GoodIn w_c_store_yes (va_wsS RX11 115 yX11_nameKey w_c_nameKey) := (goodIn_app (goodIn_r _ [9, 10, 6] rfl rfl) (goodIn_r _ [7, 8] rfl rfl))
theorem g_c_store_yes_c_placeFor_129 : GoodIn w_c_store_yes (wsV RX11 129 RX8 yX8_placeFor w_c_placeFor) := (goodIn_app (goodIn_r _ [16, 17, 18, 19] rfl rfl) (goodIn_ca (goodIn_r _ [13, 14, 15] rfl rfl) (goodIn_sub (fun _ h => List.mem_cons_of_mem _ (List.mem_append_left _ (List.mem_append_right _ h))) gw_X8)))
theorem g_c_store_yes_c_Thing_begins_135 : GoodIn w_c_store_yes (wsV RX11 135 RX9 yX9_begins w_c_Thing_begins) := (goodIn_app (goodIn_r _ [23, 24, 25, 26] rfl rfl) (goodIn_ca (goodIn_r _ [20, 21, 22] rfl rfl) (goodIn_sub (fun _ h => List.mem_cons_of_mem _ (List.mem_append_right _ h)) gw_X9)))
theorem g_c_store_yes_c_Thing_adds_140 : GoodIn w_c_store_yes (wsV RX11 140 RX9 yX9_adds w_c_Thing_adds) := (goodIn_app (goodIn_r _ [29, 30, 31, 26] rfl rfl) (goodIn_ca (goodIn_r _ [27, 22, 28] rfl rfl) (goodIn_sub (fun _ h => List.mem_cons_of_mem _ (List.mem_append_right _ h)) gw_X9)))
set_option maxHeartbeats 4000000 in
set_option maxRecDepth 100000 in
theorem c_store_yes (l : Launch) (D : va_G) (ca : Nat → ClassId) (sz : Nat) (h0 : Nat) (dv : Nat) (tp : Nat) (fd : Nat → Option Nat) (a : Nat → Nat) (k : Nat) (nm : Int64) (n : Int32) (ln : Int32) (sr : Int32) (sp : Int32) (ft : Nat → Option Nat) (hk : k < 4) (hfd : fd k = some (a 0)) (hft : ft 0 = some (a 13)) : Met l yX11_store w_c_store_yes ({ frames := 1, cells := 0, slots := 0, locals := 27 }) (Pre D ca [.ref h0, .int (nI k), .long nm, .int n, .int ln, .int sr, .int sp] [(h0, .inr (11, [.ref dv, .ref tp, .int 0])), (dv, .inl (ca 2, 4, .inr (.inr (.inr (.inr fd))))), ((a 0), .inr (1, [.ref (a 1), .ref (a 4), .ref (a 5), .ref (a 6), .ref (a 8), .ref (a 10), .int 0, .int (nI (k + 1)), .int (nI k)])), ((a 10), .inr (4, [.ref (a 11), .ref (a 23), .int 0, .ref (a 24), .int 0, .int 0, .int 0, .ref (a 25), .int 0, .ref (a 26), .int 0, .int 0])), ((a 11), .inr (8, [.int 0, .ref (a 12)])), ((a 12), .inl (ca 3, 6, .inr (.inr (.inr (.inr ft))))), ((a 13), .inr (9, [.ref (a 14), .long 0, .int 0])), ((a 14), .inl (ca 0, 120, .inl (fun _ => 0)))] sz) (va_Qi (fun (r : Int32) (_ : Unit) => ((okN nm n ∧ 0 ≤ ln ∧ ln ≤ 120) → r = 1) ∧ (¬ (okN nm n ∧ 0 ≤ ln ∧ ln ≤ 120) → r = -4)) (fun (_ : Unit) (tt : State) => Wd D (va_A [(h0, .inr (11, [.ref dv, .ref tp, .int 0])), (dv, .inl (ca 2, 4, .inr (.inr (.inr (.inr fd))))), ((a 0), .inr (1, [.ref (a 1), .ref (a 4), .ref (a 5), .ref (a 6), .ref (a 8), .ref (a 10), .int 0, .int (nI (k + 1)), .int (nI k)])), ((a 10), .inr (4, [.ref (a 11), .ref (a 23), .int 0, .ref (a 24), .int 0, .int 0, .int 0, .ref (a 25), .int 0, .ref (a 26), .int 0, .int 0])), ((a 11), .inr (8, [.int 0, .ref (a 12)])), ((a 12), .inl (ca 3, 6, .inr (.inr (.inr (.inr ft))))), ((a 13), .inr (9, [.ref (a 14), .long 0, .int 0])), ((a 14), .inl (ca 0, 120, .inl (fun _ => 0)))] sz) [] tt) (va_A [(h0, .inr (11, [.ref dv, .ref tp, .int 0])), (dv, .inl (ca 2, 4, .inr (.inr (.inr (.inr fd))))), ((a 0), .inr (1, [.ref (a 1), .ref (a 4), .ref (a 5), .ref (a 6), .ref (a 8), .ref (a 10), .int 0, .int (nI (k + 1)), .int (nI k)])), ((a 10), .inr (4, [.ref (a 11), .ref (a 23), .int 0, .ref (a 24), .int 0, .int 0, .int 0, .ref (a 25), .int 0, .ref (a 26), .int 0, .int 0])), ((a 11), .inr (8, [.int 0, .ref (a 12)])), ((a 12), .inl (ca 3, 6, .inr (.inr (.inr (.inr ft))))), ((a 13), .inr (9, [.ref (a 14), .long 0, .int 0])), ((a 14), .inl (ca 0, 120, .inl (fun _ => 0)))] sz)) 0 0 (va_A [(h0, .inr (11, [.ref dv, .ref tp, .int 0])), (dv, .inl (ca 2, 4, .inr (.inr (.inr (.inr fd))))), ((a 0), .inr (1, [.ref (a 1), .ref (a 4), .ref (a 5), .ref (a 6), .ref (a 8), .ref (a 10), .int 0, .int (nI (k + 1)), .int (nI k)])), ((a 10), .inr (4, [.ref (a 11), .ref (a 23), .int 0, .ref (a 24), .int 0, .int 0, .int 0, .ref (a 25), .int 0, .ref (a 26), .int 0, .int 0])), ((a 11), .inr (8, [.int 0, .ref (a 12)])), ((a 12), .inl (ca 3, 6, .inr (.inr (.inr (.inr ft))))), ((a 13), .inr (9, [.ref (a 14), .long 0, .int 0])), ((a 14), .inl (ca 0, 120, .inl (fun _ => 0)))] sz) := by
  refine Met.ofW (cc := cX11_store) (maxL := 13) (ret := (some .int)) (by decide) rfl ?_
  intro p e s m args below meth c s₁ B hml hv
  obtain ⟨rfl, hsz, hP, hK, hD0, hN⟩ := hv
  have hx := B.exec
  have hb := B.bytes
  have hr := B.returns
  have hts := atoms_spec (ws := w_c_store_yes) B.pre
  have hown : s.vm.findClass RX11 = some m.cls := findClass_of_methodNamed B.named
  have hlocks := B.notSynchronized
  have hi_X11 : ∀ w ∈ wsX110, w ∈ w_c_store_yes := fun _ h => List.mem_cons_of_mem _ (List.mem_append_left _ (List.mem_append_left _ (List.mem_append_left _ (List.mem_append_left _ (List.mem_append_right _ h)))))
  have hi_X1 : ∀ w ∈ wsX10, w ∈ w_c_store_yes := fun _ h => List.mem_cons_of_mem _ (List.mem_append_left _ (List.mem_append_left _ (List.mem_append_left _ (List.mem_append_right _ h))))
  have hi_X4 : ∀ w ∈ wsX40, w ∈ w_c_store_yes := fun _ h => List.mem_cons_of_mem _ (List.mem_append_left _ (List.mem_append_left _ (List.mem_append_right _ h)))
  have hi_X8 : ∀ w ∈ wsX80, w ∈ w_c_store_yes := fun _ h => List.mem_cons_of_mem _ (List.mem_append_left _ (List.mem_append_right _ h))
  have hi_X9 : ∀ w ∈ wsX90, w ∈ w_c_store_yes := fun _ h => List.mem_cons_of_mem _ (List.mem_append_right _ h)
  subst hsz
  have hD := hD0.self (sz := s.heap.size)
  generalize hAe : va_A [(h0, .inr (11, [.ref dv, .ref tp, .int 0])), (dv, .inl (ca 2, 4, .inr (.inr (.inr (.inr fd))))), ((a 0), .inr (1, [.ref (a 1), .ref (a 4), .ref (a 5), .ref (a 6), .ref (a 8), .ref (a 10), .int 0, .int (nI (k + 1)), .int (nI k)])), ((a 10), .inr (4, [.ref (a 11), .ref (a 23), .int 0, .ref (a 24), .int 0, .int 0, .int 0, .ref (a 25), .int 0, .ref (a 26), .int 0, .int 0])), ((a 11), .inr (8, [.int 0, .ref (a 12)])), ((a 12), .inl (ca 3, 6, .inr (.inr (.inr (.inr ft))))), ((a 13), .inr (9, [.ref (a 14), .long 0, .int 0])), ((a 14), .inl (ca 0, 120, .inl (fun _ => 0)))] s.heap.size = A at hD ⊢
  have hA : ∀ q : Nat, s.heap.size ≤ q → A q := fun q h => by rw [← hAe]; exact Or.inr h
  have hS : va_S A s.heap s.heap [] := va_S.rf
  have hP : va_P D vwCl [(h0, .inr (11, [.ref dv, .ref tp, .int 0])), (dv, .inl (ca 2, 4, .inr (.inr (.inr (.inr fd))))), ((a 0), .inr (1, [.ref (a 1), .ref (a 4), .ref (a 5), .ref (a 6), .ref (a 8), .ref (a 10), .int 0, .int (nI (k + 1)), .int (nI k)])), ((a 10), .inr (4, [.ref (a 11), .ref (a 23), .int 0, .ref (a 24), .int 0, .int 0, .int 0, .ref (a 25), .int 0, .ref (a 26), .int 0, .int 0])), ((a 11), .inr (8, [.int 0, .ref (a 12)])), ((a 12), .inl (ca 3, 6, .inr (.inr (.inr (.inr ft))))), ((a 13), .inr (9, [.ref (a 14), .long 0, .int 0])), ((a 14), .inl (ca 0, 120, .inl (fun _ => 0)))] s.heap := hP
  have hl := lv_entry ([.ref h0, .int (nI k), .long nm, .int n, .int ln, .int sr, .int sp]) (n := 13) (Nat.le_of_ble_eq_true rfl)
  rw [lg_entry_eq]
  generalize (lg_sl ([.ref h0, .int (nI k), .long nm, .int n, .int ln, .int sr, .int sp]) ++ List.replicate (13 - (lg_sl ([.ref h0, .int (nI k), .long nm, .int n, .int ln, .int sr, .int sp])).length) Slot.unset).toArray = ls at hl ⊢
  have hl : lv_has ls 13 [(0, .ref h0), (1, .int (nI k)), (2, .long nm), (4, .int n), (5, .int ln), (6, .int sr), (7, .int sp)] := hl
  refine lv_aload_n hx hb dX11_store_0 rfl (lv_at hl 0 rfl) ?_
  refine lv_iload_n hx hb dX11_store_1 rfl (lv_at hl 1 rfl) ?_
  refine kGo_q (wr := [((a 0), .inr (1, [.ref (a 1), .ref (a 4), .ref (a 5), .ref (a 6), .ref (a 8), .ref (a 10), .int 0, .int (nI (k + 1)), .int (nI k)])), ((a 10), .inr (4, [.ref (a 11), .ref (a 23), .int 0, .ref (a 24), .int 0, .int 0, .int 0, .ref (a 25), .int 0, .ref (a 26), .int 0, .int 0])), ((a 11), .inr (8, [.int 0, .ref (a 12)])), ((a 12), .inl (ca 3, 6, .inr (.inr (.inr (.inr ft))))), ((a 13), .inr (9, [.ref (a 14), .long 0, .int 0])), ((a 14), .inl (ca 0, 120, .inl (fun _ => 0)))]) (kRunV (As := [.int (nI k)]) (rest := []) ⟨hx, hb, hml, hown, hts⟩ (c_deviceAt_yes l D ca _ h0 dv tp fd a k hk hfd) (cwV 1 hts g_c_store_yes_c_deviceAt_yes_22 rfl rfl rfl (by decide +kernel) ⟨Nat.le_of_ble_eq_true rfl, Nat.le_of_ble_eq_true rfl⟩) hK hN hP hD [0, 1] rfl rfl rfl rfl rfl rfl hl.1 rfl (Nat.le_of_ble_eq_true rfl) dX11_store_2 ⟨Nat.le_of_ble_eq_true rfl, Nat.le_of_ble_eq_true rfl⟩) hP hD hS hA [0, 1] [2, 3, 4, 5, 6, 7] rfl rfl rfl (by decide) (fun r_1 uu_ tt H locs hr_1 hB hj hS => ?_)
  have hWd := hB
  obtain ⟨hP, hD⟩ := hj _ hWd
  have hP : va_P D vwCl [((a 0), .inr (1, [.ref (a 1), .ref (a 4), .ref (a 5), .ref (a 6), .ref (a 8), .ref (a 10), .int 0, .int (nI (k + 1)), .int (nI k)])), ((a 10), .inr (4, [.ref (a 11), .ref (a 23), .int 0, .ref (a 24), .int 0, .int 0, .int 0, .ref (a 25), .int 0, .ref (a 26), .int 0, .int 0])), ((a 11), .inr (8, [.int 0, .ref (a 12)])), ((a 12), .inl (ca 3, 6, .inr (.inr (.inr (.inr ft))))), ((a 13), .inr (9, [.ref (a 14), .long 0, .int 0])), ((a 14), .inl (ca 0, 120, .inl (fun _ => 0))), (h0, .inr (11, [.ref dv, .ref tp, .int 0])), (dv, .inl (ca 2, 4, .inr (.inr (.inr (.inr fd)))))] H := hP
  have hD : va_D A [((a 0), .inr (1, [.ref (a 1), .ref (a 4), .ref (a 5), .ref (a 6), .ref (a 8), .ref (a 10), .int 0, .int (nI (k + 1)), .int (nI k)])), ((a 10), .inr (4, [.ref (a 11), .ref (a 23), .int 0, .ref (a 24), .int 0, .int 0, .int 0, .ref (a 25), .int 0, .ref (a 26), .int 0, .int 0])), ((a 11), .inr (8, [.int 0, .ref (a 12)])), ((a 12), .inl (ca 3, 6, .inr (.inr (.inr (.inr ft))))), ((a 13), .inr (9, [.ref (a 14), .long 0, .int 0])), ((a 14), .inl (ca 0, 120, .inl (fun _ => 0))), (h0, .inr (11, [.ref dv, .ref tp, .int 0])), (dv, .inl (ca 2, 4, .inr (.inr (.inr (.inr fd)))))] := hD
  subst hr_1
  refine W.eq (g2 := F0 m 5 ls [.ref (a 0)]) rfl ?_
  refine lv_astore (lv' := [(8, .ref (a 0)), (0, .ref h0), (1, .int (nI k)), (2, .long nm), (4, .int n), (5, .int ln), (6, .int sr), (7, .int sp)]) hx hb dX11_store_5 hl (by decide) rfl (fun ls hl => ?_)
  refine lv_aload hx hb dX11_store_7 (lv_at hl 0 rfl) ?_
  refine lv_ifnonnull (tgt := 14) hx hb dX11_store_9 (by decide) ?_
  refine lv_lload_n hx hb dX11_store_14 rfl (lv_at hl 3 rfl) ?_
  refine lv_iload hx hb dX11_store_15 (lv_at hl 4 rfl) ?_
  refine kGo_l (wr := [((a 0), .inr (1, [.ref (a 1), .ref (a 4), .ref (a 5), .ref (a 6), .ref (a 8), .ref (a 10), .int 0, .int (nI (k + 1)), .int (nI k)])), ((a 10), .inr (4, [.ref (a 11), .ref (a 23), .int 0, .ref (a 24), .int 0, .int 0, .int 0, .ref (a 25), .int 0, .ref (a 26), .int 0, .int 0])), ((a 11), .inr (8, [.int 0, .ref (a 12)])), ((a 12), .inl (ca 3, 6, .inr (.inr (.inr (.inr ft))))), ((a 13), .inr (9, [.ref (a 14), .long 0, .int 0])), ((a 14), .inl (ca 0, 120, .inl (fun _ => 0))), (h0, .inr (11, [.ref dv, .ref tp, .int 0])), (dv, .inl (ca 2, 4, .inr (.inr (.inr (.inr fd)))))]) (kRunS (As := [.long nm, .int n]) (rest := []) ⟨hx, hb, hml, hown, hts⟩ (c_nameKey l D ca _ nm n) (va_cwS 2 hts g_c_store_yes_c_nameKey_115 rfl rfl rfl (by decide +kernel) ⟨Nat.le_of_ble_eq_true rfl, Nat.le_of_ble_eq_true rfl⟩) hK hN hP hD [] rfl rfl rfl hl.1 rfl (Nat.le_of_ble_eq_true rfl) dX11_store_17 ⟨Nat.le_of_ble_eq_true rfl, Nat.le_of_ble_eq_true rfl⟩) hP hD hS hA [] [0, 1, 2, 3, 4, 5, 6, 7] rfl rfl rfl (by decide) (fun r_2 uu_ tt H locs hr_2 hB hj hS => ?_)
  have hWd := hB
  obtain ⟨hP, hD⟩ := hj _ hWd
  have hP : va_P D vwCl [((a 0), .inr (1, [.ref (a 1), .ref (a 4), .ref (a 5), .ref (a 6), .ref (a 8), .ref (a 10), .int 0, .int (nI (k + 1)), .int (nI k)])), ((a 10), .inr (4, [.ref (a 11), .ref (a 23), .int 0, .ref (a 24), .int 0, .int 0, .int 0, .ref (a 25), .int 0, .ref (a 26), .int 0, .int 0])), ((a 11), .inr (8, [.int 0, .ref (a 12)])), ((a 12), .inl (ca 3, 6, .inr (.inr (.inr (.inr ft))))), ((a 13), .inr (9, [.ref (a 14), .long 0, .int 0])), ((a 14), .inl (ca 0, 120, .inl (fun _ => 0))), (h0, .inr (11, [.ref dv, .ref tp, .int 0])), (dv, .inl (ca 2, 4, .inr (.inr (.inr (.inr fd)))))] H := hP
  have hD : va_D A [((a 0), .inr (1, [.ref (a 1), .ref (a 4), .ref (a 5), .ref (a 6), .ref (a 8), .ref (a 10), .int 0, .int (nI (k + 1)), .int (nI k)])), ((a 10), .inr (4, [.ref (a 11), .ref (a 23), .int 0, .ref (a 24), .int 0, .int 0, .int 0, .ref (a 25), .int 0, .ref (a 26), .int 0, .int 0])), ((a 11), .inr (8, [.int 0, .ref (a 12)])), ((a 12), .inl (ca 3, 6, .inr (.inr (.inr (.inr ft))))), ((a 13), .inr (9, [.ref (a 14), .long 0, .int 0])), ((a 14), .inl (ca 0, 120, .inl (fun _ => 0))), (h0, .inr (11, [.ref dv, .ref tp, .int 0])), (dv, .inl (ca 2, 4, .inr (.inr (.inr (.inr fd)))))] := hD
  refine lv_lstore (lv' := [(9, .long r_2), (8, .ref (a 0)), (0, .ref h0), (1, .int (nI k)), (2, .long nm), (4, .int n), (5, .int ln), (6, .int sr), (7, .int sp)]) hx hb dX11_store_20 hl (by decide) rfl (fun ls hl => ?_)
  have hkey := hr_2
  refine lv_lload hx hb dX11_store_22 (lv_at hl 0 rfl) ?_
  refine lv_lconst (v := 0) hx hb dX11_store_24 (by decide) ?_
  refine W.lcmp hx hb dX11_store_25 ?_
  refine lv_topi (fun x_3 ex_3 => ?_)
  refine lv_if_eq (tgt := 41) hx hb dX11_store_26 (by decide) (fun c_26 => ?_) (fun c_26 => ?_)
  · refine lv_bipush (v := (-4)) hx hb dX11_store_41 (by decide) ?_
    exact W.iret (v := (-4)) hx hb hr (fun tt ht hW => ⟨⟨(-4), (), rfl, ⟨fun h => absurd (lg0.mp (ex_3.symm.trans c_26)) (hkey.mpr h.1), fun _ => rfl⟩, ⟨by rw [ht]; exact hP.sub [] rfl, hD.sub [] rfl rfl⟩⟩, hS.F ht⟩) hS.2.2 dX11_store_43
  · have hok : okN nm n := hkey.mp (fun h => c_26 (by rw [ex_3, h]; exact lg0.mpr rfl))
    refine lv_iload hx hb dX11_store_29 (lv_at hl 6 rfl) ?_
    refine lv_if_lt (tgt := 41) hx hb dX11_store_31 (by decide) (fun c_31 => ?_) (fun c_31 => ?_)
    · refine lv_bipush (v := (-4)) hx hb dX11_store_41 (by decide) ?_
      exact W.iret (v := (-4)) hx hb hr (fun tt ht hW => ⟨⟨(-4), (), rfl, ⟨fun h => absurd c_31 (Int32.not_lt.mpr h.2.1), fun _ => rfl⟩, ⟨by rw [ht]; exact hP.sub [] rfl, hD.sub [] rfl rfl⟩⟩, hS.F ht⟩) hS.2.2 dX11_store_43
    · refine lv_iload hx hb dX11_store_34 (lv_at hl 6 rfl) ?_
      refine lv_bipush (v := 120) hx hb dX11_store_36 (by decide) ?_
      refine lv_icmp_le (tgt := 44) hx hb dX11_store_38 (by decide) (fun c_38 => ?_) (fun c_38 => ?_)
      · have hln : 0 ≤ ln ∧ ln ≤ 120 := ⟨Int32.not_lt.mp c_31, c_38⟩
        obtain ⟨S, hs120, rfl⟩ := nI_of2 (M := 120) (n := 120) (by decide) c_31 c_38
        refine lv_aload hx hb dX11_store_44 (lv_at hl 1 rfl) ?_
        refine va_get (D := D) (ci := 1) (v := .ref (a 10)) (C := RX1) (T := TX1) (N := 9) hx hb hts hi_X1 hown hK hP 0 rfl rfl 5 (by decide) (hts (.fieldLink RX11 119 "BeamHouse$Device" "objects" "LBeamHouse$Objects;") (List.mem_of_getElem? (i := 11) rfl)) (fun _ h9 => h9) rfl dX11_store_46 ?_
        refine va_get (D := D) (ci := 4) (v := .ref (a 11)) (C := RX4) (T := TX4) (N := 12) hx hb hts hi_X4 hown hK hP 1 rfl rfl 0 (by decide) (hts (.fieldLink RX11 123 "BeamHouse$Objects" "store" "LBeamHouse$Store;") (List.mem_of_getElem? (i := 12) rfl)) (fun _ h9 => h9) rfl dX11_store_49 ?_
        refine lv_lload hx hb dX11_store_52 (lv_at hl 0 rfl) ?_
        refine kGo_q (wr := [((a 0), .inr (1, [.ref (a 1), .ref (a 4), .ref (a 5), .ref (a 6), .ref (a 8), .ref (a 10), .int 0, .int (nI (k + 1)), .int (nI k)])), ((a 10), .inr (4, [.ref (a 11), .ref (a 23), .int 0, .ref (a 24), .int 0, .int 0, .int 0, .ref (a 25), .int 0, .ref (a 26), .int 0, .int 0])), ((a 13), .inr (9, [.ref (a 14), .long 0, .int 0])), ((a 14), .inl (ca 0, 120, .inl (fun _ => 0))), (h0, .inr (11, [.ref dv, .ref tp, .int 0])), (dv, .inl (ca 2, 4, .inr (.inr (.inr (.inr fd)))))]) (kRunV (As := [.long r_2]) (rest := []) ⟨hx, hb, hml, hown, hts⟩ (c_placeFor l D ca _ a ft r_2 hft) (cwV 1 hts g_c_store_yes_c_placeFor_129 rfl rfl rfl (by decide +kernel) ⟨Nat.le_of_ble_eq_true rfl, Nat.le_of_ble_eq_true rfl⟩) hK hN hP hD [2, 3] rfl rfl rfl rfl rfl rfl hl.1 rfl (Nat.le_of_ble_eq_true rfl) dX11_store_54 ⟨Nat.le_of_ble_eq_true rfl, Nat.le_of_ble_eq_true rfl⟩) hP hD hS hA [2, 3] [0, 1, 4, 5, 6, 7] rfl rfl rfl (by decide) (fun r_4 uu_ tt H locs hr_4 hB hj hS => ?_)
        have hWd := hB
        obtain ⟨hP, hD⟩ := hj _ hWd
        have hP : va_P D vwCl [((a 0), .inr (1, [.ref (a 1), .ref (a 4), .ref (a 5), .ref (a 6), .ref (a 8), .ref (a 10), .int 0, .int (nI (k + 1)), .int (nI k)])), ((a 10), .inr (4, [.ref (a 11), .ref (a 23), .int 0, .ref (a 24), .int 0, .int 0, .int 0, .ref (a 25), .int 0, .ref (a 26), .int 0, .int 0])), ((a 13), .inr (9, [.ref (a 14), .long 0, .int 0])), ((a 14), .inl (ca 0, 120, .inl (fun _ => 0))), (h0, .inr (11, [.ref dv, .ref tp, .int 0])), (dv, .inl (ca 2, 4, .inr (.inr (.inr (.inr fd)))))] H := hP
        have hD : va_D A [((a 0), .inr (1, [.ref (a 1), .ref (a 4), .ref (a 5), .ref (a 6), .ref (a 8), .ref (a 10), .int 0, .int (nI (k + 1)), .int (nI k)])), ((a 10), .inr (4, [.ref (a 11), .ref (a 23), .int 0, .ref (a 24), .int 0, .int 0, .int 0, .ref (a 25), .int 0, .ref (a 26), .int 0, .int 0])), ((a 13), .inr (9, [.ref (a 14), .long 0, .int 0])), ((a 14), .inl (ca 0, 120, .inl (fun _ => 0))), (h0, .inr (11, [.ref dv, .ref tp, .int 0])), (dv, .inl (ca 2, 4, .inr (.inr (.inr (.inr fd)))))] := hD
        subst hr_4
        refine W.eq (g2 := F0 m 57 ls [.ref (a 13)]) rfl ?_
        refine lv_astore (lv' := [(11, .ref (a 13)), (9, .long r_2), (8, .ref (a 0)), (0, .ref h0), (1, .int (nI k)), (2, .long nm), (4, .int n), (5, .int (nI S)), (6, .int sr), (7, .int sp)]) hx hb dX11_store_57 hl (by decide) rfl (fun ls hl => ?_)
        refine lv_aload hx hb dX11_store_59 (lv_at hl 0 rfl) ?_
        refine lv_ifnonnull (tgt := 67) hx hb dX11_store_61 (by decide) ?_
        refine lv_aload hx hb dX11_store_67 (lv_at hl 0 rfl) ?_
        refine lv_lload hx hb dX11_store_69 (lv_at hl 1 rfl) ?_
        refine kGo_v (wr := [((a 0), .inr (1, [.ref (a 1), .ref (a 4), .ref (a 5), .ref (a 6), .ref (a 8), .ref (a 10), .int 0, .int (nI (k + 1)), .int (nI k)])), ((a 10), .inr (4, [.ref (a 11), .ref (a 23), .int 0, .ref (a 24), .int 0, .int 0, .int 0, .ref (a 25), .int 0, .ref (a 26), .int 0, .int 0])), ((a 14), .inl (ca 0, 120, .inl (fun _ => 0))), (h0, .inr (11, [.ref dv, .ref tp, .int 0])), (dv, .inl (ca 2, 4, .inr (.inr (.inr (.inr fd)))))]) (kRunV (As := [.long r_2]) (rest := []) ⟨hx, hb, hml, hown, hts⟩ (c_Thing_begins l D ca _ a r_2) (cwV 1 hts g_c_store_yes_c_Thing_begins_135 rfl rfl rfl (by decide +kernel) ⟨Nat.le_of_ble_eq_true rfl, Nat.le_of_ble_eq_true rfl⟩) hK hN hP hD [2] rfl rfl rfl rfl rfl rfl hl.1 rfl (Nat.le_of_ble_eq_true rfl) dX11_store_71 ⟨Nat.le_of_ble_eq_true rfl, Nat.le_of_ble_eq_true rfl⟩) hP hD hS hA [2] [0, 1, 3, 4, 5] rfl rfl rfl (by decide) (fun uu_ tt H locs hr_5 hB hj hS => ?_)
        have hWd := hB
        obtain ⟨hP, hD⟩ := hj _ hWd
        have hP : va_P D vwCl [((a 0), .inr (1, [.ref (a 1), .ref (a 4), .ref (a 5), .ref (a 6), .ref (a 8), .ref (a 10), .int 0, .int (nI (k + 1)), .int (nI k)])), ((a 10), .inr (4, [.ref (a 11), .ref (a 23), .int 0, .ref (a 24), .int 0, .int 0, .int 0, .ref (a 25), .int 0, .ref (a 26), .int 0, .int 0])), ((a 14), .inl (ca 0, 120, .inl (fun _ => 0))), (h0, .inr (11, [.ref dv, .ref tp, .int 0])), (dv, .inl (ca 2, 4, .inr (.inr (.inr (.inr fd))))), ((a 13), .inr (9, [.ref (a 14), .long r_2, .int 0]))] H := hP
        have hD : va_D A [((a 0), .inr (1, [.ref (a 1), .ref (a 4), .ref (a 5), .ref (a 6), .ref (a 8), .ref (a 10), .int 0, .int (nI (k + 1)), .int (nI k)])), ((a 10), .inr (4, [.ref (a 11), .ref (a 23), .int 0, .ref (a 24), .int 0, .int 0, .int 0, .ref (a 25), .int 0, .ref (a 26), .int 0, .int 0])), ((a 14), .inl (ca 0, 120, .inl (fun _ => 0))), (h0, .inr (11, [.ref dv, .ref tp, .int 0])), (dv, .inl (ca 2, 4, .inr (.inr (.inr (.inr fd))))), ((a 13), .inr (9, [.ref (a 14), .long r_2, .int 0]))] := hD
        refine lv_iconst (v := 0) hx hb dX11_store_74 (by decide) ?_
        refine lv_istore (lv' := [(12, .int 0), (11, .ref (a 13)), (9, .long r_2), (8, .ref (a 0)), (0, .ref h0), (1, .int (nI k)), (2, .long nm), (4, .int n), (5, .int (nI S)), (6, .int sr), (7, .int sp)]) hx hb dX11_store_75 hl (by decide) rfl (fun ls hl => ?_)
        have key_77 : ∀ (fu : Nat) (j : Nat) (yl : Int32) (gg : Nat → Int32) (hj : j ≤ S) (hm_77 : S + 1 ≤ j + fu) (H : Heap) (locs : List Loc) (ls : Array Slot), va_P D vwCl [((a 0), .inr (1, [.ref (a 1), .ref (a 4), .ref (a 5), .ref (a 6), .ref (a 8), .ref (a 10), .int 0, .int (nI (k + 1)), .int (nI k)])), ((a 10), .inr (4, [.ref (a 11), .ref (a 23), .int 0, .ref (a 24), .int 0, .int 0, .int 0, .ref (a 25), .int 0, .ref (a 26), .int 0, .int 0])), ((a 14), .inl (ca 0, 120, .inl gg)), (h0, .inr (11, [.ref dv, .ref tp, .int 0])), (dv, .inl (ca 2, 4, .inr (.inr (.inr (.inr fd))))), ((a 13), .inr (9, [.ref (a 14), .long r_2, .int yl]))] H → va_D A [((a 0), .inr (1, [.ref (a 1), .ref (a 4), .ref (a 5), .ref (a 6), .ref (a 8), .ref (a 10), .int 0, .int (nI (k + 1)), .int (nI k)])), ((a 10), .inr (4, [.ref (a 11), .ref (a 23), .int 0, .ref (a 24), .int 0, .int 0, .int 0, .ref (a 25), .int 0, .ref (a 26), .int 0, .int 0])), ((a 14), .inl (ca 0, 120, .inl gg)), (h0, .inr (11, [.ref dv, .ref tp, .int 0])), (dv, .inl (ca 2, 4, .inr (.inr (.inr (.inr fd))))), ((a 13), .inr (9, [.ref (a 14), .long r_2, .int yl]))] → va_S A s.heap H locs → lv_has ls 13 [(12, .int (nI j)), (11, .ref (a 13)), (9, .long r_2), (8, .ref (a 0)), (7, .int sp), (6, .int sr), (5, .int (nI S)), (4, .int n), (2, .long nm), (1, .int (nI k)), (0, .ref h0)] → W p l e (headSpec w_c_store_yes ({ frames := 1, cells := 0, slots := 0, locals := 27 })).room s m [.ref h0, .int (nI k), .long nm, .int n, .int (nI S), .int sr, .int sp].toArray below meth c H locs 0 0 (MQ below (va_Qi (fun (r : Int32) (_ : Unit) => ((okN nm n ∧ 0 ≤ (nI S) ∧ (nI S) ≤ 120) → r = 1) ∧ (¬ (okN nm n ∧ 0 ≤ (nI S) ∧ (nI S) ≤ 120) → r = -4)) (fun (_ : Unit) (tt : State) => Wd D (A) [] tt) (A)) [.ref h0, .int (nI k), .long nm, .int n, .int (nI S), .int sr, .int sp].toArray s 0 0 A) (F0 m 77 ls []) := by
          intro fu
          induction fu with
          | zero =>
            intro j yl gg hj hm_77
            exact absurd hm_77 (by omega)
          | succ fu ih_77 =>
            intro j yl gg hj hm_77 H locs ls hP hD hS hl
            refine lv_iload hx hb dX11_store_77 (lv_at hl 0 rfl) ?_
            refine lv_iload hx hb dX11_store_79 (lv_at hl 6 rfl) ?_
            refine lv_icmp_ge (tgt := 103) hx hb dX11_store_81 (by decide) (fun c_81 => ?_) (fun c_81 => ?_)
            · refine lv_iconst (v := 1) hx hb dX11_store_103 (by decide) ?_
              exact W.iret (v := 1) hx hb hr (fun tt ht hW => ⟨⟨1, (), rfl, ⟨fun _ => rfl, fun h => absurd ⟨hok, hln⟩ h⟩, ⟨by rw [ht]; exact hP.sub [] rfl, hD.sub [] rfl rfl⟩⟩, hS.F ht⟩) hS.2.2 dX11_store_104
            · have hjt : j < S := k_ltI (by omega) (by omega) c_81
              refine lv_aload hx hb dX11_store_84 (lv_at hl 1 rfl) ?_
              refine lv_iload hx hb dX11_store_86 (lv_at hl 0 rfl) ?_
              refine lv_iload hx hb dX11_store_88 (lv_at hl 4 rfl) ?_
              refine lv_imul hx hb dX11_store_90 ?_
              refine lv_topi (fun x_6 ex_6 => ?_)
              refine lv_iload hx hb dX11_store_91 (lv_at hl 5 rfl) ?_
              refine lv_iadd hx hb dX11_store_93 ?_
              refine lv_topi (fun x_7 ex_7 => ?_)
              refine kGo_v (wr := [((a 0), .inr (1, [.ref (a 1), .ref (a 4), .ref (a 5), .ref (a 6), .ref (a 8), .ref (a 10), .int 0, .int (nI (k + 1)), .int (nI k)])), ((a 10), .inr (4, [.ref (a 11), .ref (a 23), .int 0, .ref (a 24), .int 0, .int 0, .int 0, .ref (a 25), .int 0, .ref (a 26), .int 0, .int 0])), (h0, .inr (11, [.ref dv, .ref tp, .int 0])), (dv, .inl (ca 2, 4, .inr (.inr (.inr (.inr fd)))))]) (kRunV (As := [.int x_7]) (rest := []) ⟨hx, hb, hml, hown, hts⟩ (c_Thing_adds l D ca _ a r_2 yl gg x_7) (cwV 1 hts g_c_store_yes_c_Thing_adds_140 rfl rfl rfl (by decide +kernel) ⟨Nat.le_of_ble_eq_true rfl, Nat.le_of_ble_eq_true rfl⟩) hK hN hP hD [5, 2] rfl rfl rfl rfl rfl rfl hl.1 rfl (Nat.le_of_ble_eq_true rfl) dX11_store_94 ⟨Nat.le_of_ble_eq_true rfl, Nat.le_of_ble_eq_true rfl⟩) hP hD hS hA [5, 2] [0, 1, 3, 4] rfl rfl rfl (by decide) (fun uu_ tt H locs hr_10 hB hj hS => ?_)
              obtain ⟨z_8, f_9, hWd⟩ := hB
              obtain ⟨hP, hD⟩ := hj _ hWd
              have hP : va_P D vwCl [((a 0), .inr (1, [.ref (a 1), .ref (a 4), .ref (a 5), .ref (a 6), .ref (a 8), .ref (a 10), .int 0, .int (nI (k + 1)), .int (nI k)])), ((a 10), .inr (4, [.ref (a 11), .ref (a 23), .int 0, .ref (a 24), .int 0, .int 0, .int 0, .ref (a 25), .int 0, .ref (a 26), .int 0, .int 0])), (h0, .inr (11, [.ref dv, .ref tp, .int 0])), (dv, .inl (ca 2, 4, .inr (.inr (.inr (.inr fd))))), ((a 13), .inr (9, [.ref (a 14), .long r_2, .int z_8])), ((a 14), .inl (ca 0, 120, .inl f_9))] H := hP
              have hD : va_D A [((a 0), .inr (1, [.ref (a 1), .ref (a 4), .ref (a 5), .ref (a 6), .ref (a 8), .ref (a 10), .int 0, .int (nI (k + 1)), .int (nI k)])), ((a 10), .inr (4, [.ref (a 11), .ref (a 23), .int 0, .ref (a 24), .int 0, .int 0, .int 0, .ref (a 25), .int 0, .ref (a 26), .int 0, .int 0])), (h0, .inr (11, [.ref dv, .ref tp, .int 0])), (dv, .inl (ca 2, 4, .inr (.inr (.inr (.inr fd))))), ((a 13), .inr (9, [.ref (a 14), .long r_2, .int z_8])), ((a 14), .inl (ca 0, 120, .inl f_9))] := hD
              refine lv_iinc (v := (nI (j + 1))) (lv' := [(12, .int (nI (j + 1))), (11, .ref (a 13)), (9, .long r_2), (8, .ref (a 0)), (7, .int sp), (6, .int sr), (5, .int (nI S)), (4, .int n), (2, .long nm), (1, .int (nI k)), (0, .ref h0)]) hx hb dX11_store_97 hl (k := 0) rfl (nI_1 j) (by decide) rfl (fun ls hl => ?_)
              refine lv_goto (tgt := 77) hx hb dX11_store_100 (by decide) ?_
              exact ih_77 (j + 1) z_8 f_9 (by omega) (by omega) _ _ _ (hP.sub [0, 1, 5, 2, 3, 4] rfl) (hD.sub [0, 1, 5, 2, 3, 4] rfl rfl) hS (lv_sub hl [0, 1, 2, 3, 4, 5, 6, 7, 8, 9, 10] rfl)
        exact key_77 (S + 1) 0 0 (fun _ => 0) (by omega) (by omega) _ _ _ hP hD hS (lv_sub hl [0, 1, 2, 3, 10, 9, 8, 7, 6, 5, 4] rfl)
      · refine lv_bipush (v := (-4)) hx hb dX11_store_41 (by decide) ?_
        exact W.iret (v := (-4)) hx hb hr (fun tt ht hW => ⟨⟨(-4), (), rfl, ⟨fun h => absurd h.2.2 c_38, fun _ => rfl⟩, ⟨by rw [ht]; exact hP.sub [] rfl, hD.sub [] rfl rfl⟩⟩, hS.F ht⟩) hS.2.2 dX11_store_43
def w_c_linkFact_0 : List Cond := .code yX11_linkFact cX11_linkFact 4 (some .int) :: (([.fieldLink RX11 92 "BeamHouse$Device" "link" "LBeamHouse$Link;", .code yX1_isLinked cX1_isLinked 1 (some .boolean), .fieldLink RX1 60 "BeamHouse$Device" "state" "I", .methodLink RX11 177 yX1_isLinked, .instanceMethod yX1_isLinked, .selects RX1 yX1_isLinked yX1_isLinked, .initialized RX1, .fieldLink RX11 26 "BeamHouse$Device" "state" "I"] : List Cond) ++ wsX10)
theorem g_c_linkFact_0_c_isLinked_177 : GoodIn w_c_linkFact_0 (wsV RX11 177 RX1 yX1_isLinked w_c_isLinked) := (goodIn_app (goodIn_r _ [4, 5, 6, 7] rfl rfl) (goodIn_ca (goodIn_r _ [2, 3] rfl rfl) (goodIn_sub (fun _ h => List.mem_cons_of_mem _ (List.mem_append_right _ h)) gw_X1)))
set_option maxHeartbeats 4000000 in
set_option maxRecDepth 100000 in
theorem c_linkFact_0 (l : Launch) (D : va_G) (ca : Nat → ClassId) (sz : Nat) (a : Nat → Nat) (k : Nat)  : Met l yX11_linkFact w_c_linkFact_0 ({ frames := 1, cells := 0, slots := 0, locals := 20 }) (Pre D ca [.ref (a 0), .int 0] [((a 0), .inr (1, [.ref (a 1), .ref (a 4), .ref (a 5), .ref (a 6), .ref (a 8), .ref (a 10), .int 0, .int (nI (k + 1)), .int (nI k)])), ((a 6), .inr (3, [.ref (a 7), .int 0, .int 0, .int 0, .int 0, .int 0, .int 0, .int 0, .int 0, .int 0, .int 0, .int 0, .int 0, .int 0])), ((a 7), .inr (5, [.int 0, .int 24, .int 32, .ref (a 17), .ref (a 18), .int 0])), ((a 8), .inr (10, [.ref (a 9), .ref (a 21), .int 0, .int 0, .ref (a 22), .int 0, .int 0, .int 0])), ((a 9), .inr (5, [.int 0, .int 8, .int 60, .ref (a 19), .ref (a 20), .int 0]))] sz) (va_Qi (fun (r : Int32) (_ : Unit) => r = 0) (fun (_ : Unit) (tt : State) => Wd D (va_A [((a 0), .inr (1, [.ref (a 1), .ref (a 4), .ref (a 5), .ref (a 6), .ref (a 8), .ref (a 10), .int 0, .int (nI (k + 1)), .int (nI k)])), ((a 6), .inr (3, [.ref (a 7), .int 0, .int 0, .int 0, .int 0, .int 0, .int 0, .int 0, .int 0, .int 0, .int 0, .int 0, .int 0, .int 0])), ((a 7), .inr (5, [.int 0, .int 24, .int 32, .ref (a 17), .ref (a 18), .int 0])), ((a 8), .inr (10, [.ref (a 9), .ref (a 21), .int 0, .int 0, .ref (a 22), .int 0, .int 0, .int 0])), ((a 9), .inr (5, [.int 0, .int 8, .int 60, .ref (a 19), .ref (a 20), .int 0]))] sz) [] tt) (va_A [((a 0), .inr (1, [.ref (a 1), .ref (a 4), .ref (a 5), .ref (a 6), .ref (a 8), .ref (a 10), .int 0, .int (nI (k + 1)), .int (nI k)])), ((a 6), .inr (3, [.ref (a 7), .int 0, .int 0, .int 0, .int 0, .int 0, .int 0, .int 0, .int 0, .int 0, .int 0, .int 0, .int 0, .int 0])), ((a 7), .inr (5, [.int 0, .int 24, .int 32, .ref (a 17), .ref (a 18), .int 0])), ((a 8), .inr (10, [.ref (a 9), .ref (a 21), .int 0, .int 0, .ref (a 22), .int 0, .int 0, .int 0])), ((a 9), .inr (5, [.int 0, .int 8, .int 60, .ref (a 19), .ref (a 20), .int 0]))] sz)) 0 0 (va_A [((a 0), .inr (1, [.ref (a 1), .ref (a 4), .ref (a 5), .ref (a 6), .ref (a 8), .ref (a 10), .int 0, .int (nI (k + 1)), .int (nI k)])), ((a 6), .inr (3, [.ref (a 7), .int 0, .int 0, .int 0, .int 0, .int 0, .int 0, .int 0, .int 0, .int 0, .int 0, .int 0, .int 0, .int 0])), ((a 7), .inr (5, [.int 0, .int 24, .int 32, .ref (a 17), .ref (a 18), .int 0])), ((a 8), .inr (10, [.ref (a 9), .ref (a 21), .int 0, .int 0, .ref (a 22), .int 0, .int 0, .int 0])), ((a 9), .inr (5, [.int 0, .int 8, .int 60, .ref (a 19), .ref (a 20), .int 0]))] sz) := by
  refine Met.ofW (cc := cX11_linkFact) (maxL := 4) (ret := (some .int)) (by decide) rfl ?_
  intro p e s m args below meth c s₁ B hml hv
  obtain ⟨rfl, hsz, hP, hK, hD0, hN⟩ := hv
  have hx := B.exec
  have hb := B.bytes
  have hr := B.returns
  have hts := atoms_spec (ws := w_c_linkFact_0) B.pre
  have hown : s.vm.findClass RX11 = some m.cls := findClass_of_methodNamed B.named
  have hlocks := B.notSynchronized
  have hi_X1 : ∀ w ∈ wsX10, w ∈ w_c_linkFact_0 := fun _ h => List.mem_cons_of_mem _ (List.mem_append_right _ h)
  subst hsz
  have hD := hD0.self (sz := s.heap.size)
  generalize hAe : va_A [((a 0), .inr (1, [.ref (a 1), .ref (a 4), .ref (a 5), .ref (a 6), .ref (a 8), .ref (a 10), .int 0, .int (nI (k + 1)), .int (nI k)])), ((a 6), .inr (3, [.ref (a 7), .int 0, .int 0, .int 0, .int 0, .int 0, .int 0, .int 0, .int 0, .int 0, .int 0, .int 0, .int 0, .int 0])), ((a 7), .inr (5, [.int 0, .int 24, .int 32, .ref (a 17), .ref (a 18), .int 0])), ((a 8), .inr (10, [.ref (a 9), .ref (a 21), .int 0, .int 0, .ref (a 22), .int 0, .int 0, .int 0])), ((a 9), .inr (5, [.int 0, .int 8, .int 60, .ref (a 19), .ref (a 20), .int 0]))] s.heap.size = A at hD ⊢
  have hA : ∀ q : Nat, s.heap.size ≤ q → A q := fun q h => by rw [← hAe]; exact Or.inr h
  have hS : va_S A s.heap s.heap [] := va_S.rf
  have hP : va_P D vwCl [((a 0), .inr (1, [.ref (a 1), .ref (a 4), .ref (a 5), .ref (a 6), .ref (a 8), .ref (a 10), .int 0, .int (nI (k + 1)), .int (nI k)])), ((a 6), .inr (3, [.ref (a 7), .int 0, .int 0, .int 0, .int 0, .int 0, .int 0, .int 0, .int 0, .int 0, .int 0, .int 0, .int 0, .int 0])), ((a 7), .inr (5, [.int 0, .int 24, .int 32, .ref (a 17), .ref (a 18), .int 0])), ((a 8), .inr (10, [.ref (a 9), .ref (a 21), .int 0, .int 0, .ref (a 22), .int 0, .int 0, .int 0])), ((a 9), .inr (5, [.int 0, .int 8, .int 60, .ref (a 19), .ref (a 20), .int 0]))] s.heap := hP
  have hl := lv_entry ([.ref (a 0), .int 0]) (n := 4) (Nat.le_of_ble_eq_true rfl)
  rw [lg_entry_eq]
  generalize (lg_sl ([.ref (a 0), .int 0]) ++ List.replicate (4 - (lg_sl ([.ref (a 0), .int 0])).length) Slot.unset).toArray = ls at hl ⊢
  have hl : lv_has ls 4 [(0, .ref (a 0)), (1, .int 0)] := hl
  refine lv_aload_n hx hb dX11_linkFact_0 rfl (lv_at hl 0 rfl) ?_
  refine va_get (D := D) (ci := 1) (v := .ref (a 6)) (C := RX1) (T := TX1) (N := 9) hx hb hts hi_X1 hown hK hP 0 rfl rfl 3 (by decide) (hts (.fieldLink RX11 92 "BeamHouse$Device" "link" "LBeamHouse$Link;") (List.mem_of_getElem? (i := 1) rfl)) (fun _ h9 => h9) rfl dX11_linkFact_1 ?_
  refine lv_astore_n (lv' := [(2, .ref (a 6)), (0, .ref (a 0)), (1, .int 0)]) hx hb dX11_linkFact_4 rfl hl (by decide) rfl (fun ls hl => ?_)
  refine lv_aload_n hx hb dX11_linkFact_5 rfl (lv_at hl 1 rfl) ?_
  refine kGo_i (wr := [((a 6), .inr (3, [.ref (a 7), .int 0, .int 0, .int 0, .int 0, .int 0, .int 0, .int 0, .int 0, .int 0, .int 0, .int 0, .int 0, .int 0])), ((a 7), .inr (5, [.int 0, .int 24, .int 32, .ref (a 17), .ref (a 18), .int 0])), ((a 8), .inr (10, [.ref (a 9), .ref (a 21), .int 0, .int 0, .ref (a 22), .int 0, .int 0, .int 0])), ((a 9), .inr (5, [.int 0, .int 8, .int 60, .ref (a 19), .ref (a 20), .int 0]))]) (kRunV (As := []) (rest := []) ⟨hx, hb, hml, hown, hts⟩ (c_isLinked l D ca _ a k) (cwV 0 hts g_c_linkFact_0_c_isLinked_177 rfl rfl rfl (by decide +kernel) ⟨Nat.le_of_ble_eq_true rfl, Nat.le_of_ble_eq_true rfl⟩) hK hN hP hD [0] rfl rfl rfl rfl rfl rfl hl.1 rfl (Nat.le_of_ble_eq_true rfl) dX11_linkFact_6 ⟨Nat.le_of_ble_eq_true rfl, Nat.le_of_ble_eq_true rfl⟩) hP hD hS hA [0] [1, 2, 3, 4] rfl rfl rfl (by decide) (fun r_1 uu_ tt H locs hr_1 hB hj hS => ?_)
  have hWd := hB
  obtain ⟨hP, hD⟩ := hj _ hWd
  have hP : va_P D vwCl [((a 6), .inr (3, [.ref (a 7), .int 0, .int 0, .int 0, .int 0, .int 0, .int 0, .int 0, .int 0, .int 0, .int 0, .int 0, .int 0, .int 0])), ((a 7), .inr (5, [.int 0, .int 24, .int 32, .ref (a 17), .ref (a 18), .int 0])), ((a 8), .inr (10, [.ref (a 9), .ref (a 21), .int 0, .int 0, .ref (a 22), .int 0, .int 0, .int 0])), ((a 9), .inr (5, [.int 0, .int 8, .int 60, .ref (a 19), .ref (a 20), .int 0])), ((a 0), .inr (1, [.ref (a 1), .ref (a 4), .ref (a 5), .ref (a 6), .ref (a 8), .ref (a 10), .int 0, .int (nI (k + 1)), .int (nI k)]))] H := hP
  have hD : va_D A [((a 6), .inr (3, [.ref (a 7), .int 0, .int 0, .int 0, .int 0, .int 0, .int 0, .int 0, .int 0, .int 0, .int 0, .int 0, .int 0, .int 0])), ((a 7), .inr (5, [.int 0, .int 24, .int 32, .ref (a 17), .ref (a 18), .int 0])), ((a 8), .inr (10, [.ref (a 9), .ref (a 21), .int 0, .int 0, .ref (a 22), .int 0, .int 0, .int 0])), ((a 9), .inr (5, [.int 0, .int 8, .int 60, .ref (a 19), .ref (a 20), .int 0])), ((a 0), .inr (1, [.ref (a 1), .ref (a 4), .ref (a 5), .ref (a 6), .ref (a 8), .ref (a 10), .int 0, .int (nI (k + 1)), .int (nI k)]))] := hD
  subst hr_1
  refine lv_istore_n (lv' := [(3, .int 0), (2, .ref (a 6)), (0, .ref (a 0)), (1, .int 0)]) hx hb dX11_linkFact_9 rfl hl (by decide) rfl (fun ls hl => ?_)
  refine lv_iload_n hx hb dX11_linkFact_10 rfl (lv_at hl 3 rfl) ?_
  refine lv_tableIn (tgt := 60) (off := 49) hx hb dX11_linkFact_11 (by decide) (by decide) rfl (by decide) ?_
  refine lv_aload_n hx hb dX11_linkFact_60 rfl (lv_at hl 2 rfl) ?_
  refine va_get (D := D) (ci := 1) (v := .int 0) (C := RX1) (T := TX1) (N := 9) hx hb hts hi_X1 hown hK hP 4 rfl rfl 6 (by decide) (hts (.fieldLink RX11 26 "BeamHouse$Device" "state" "I") (List.mem_of_getElem? (i := 8) rfl)) (fun _ h9 => h9) rfl dX11_linkFact_61 ?_
  exact W.iret (v := 0) hx hb hr (fun tt ht hW => ⟨⟨0, (), rfl, rfl, ⟨by rw [ht]; exact hP.sub [] rfl, hD.sub [] rfl rfl⟩⟩, hS.F ht⟩) hS.2.2 dX11_linkFact_64
def w_c_linkFact_1 : List Cond := .code yX11_linkFact cX11_linkFact 4 (some .int) :: (([.fieldLink RX11 92 "BeamHouse$Device" "link" "LBeamHouse$Link;", .code yX1_isLinked cX1_isLinked 1 (some .boolean), .fieldLink RX1 60 "BeamHouse$Device" "state" "I", .methodLink RX11 177 yX1_isLinked, .instanceMethod yX1_isLinked, .selects RX1 yX1_isLinked yX1_isLinked, .initialized RX1, .fieldLink RX11 30 "BeamHouse$Device" "address" "I"] : List Cond) ++ wsX10)
theorem g_c_linkFact_1_c_isLinked_177 : GoodIn w_c_linkFact_1 (wsV RX11 177 RX1 yX1_isLinked w_c_isLinked) := (goodIn_app (goodIn_r _ [4, 5, 6, 7] rfl rfl) (goodIn_ca (goodIn_r _ [2, 3] rfl rfl) (goodIn_sub (fun _ h => List.mem_cons_of_mem _ (List.mem_append_right _ h)) gw_X1)))
set_option maxHeartbeats 4000000 in
set_option maxRecDepth 100000 in
theorem c_linkFact_1 (l : Launch) (D : va_G) (ca : Nat → ClassId) (sz : Nat) (a : Nat → Nat) (k : Nat)  : Met l yX11_linkFact w_c_linkFact_1 ({ frames := 1, cells := 0, slots := 0, locals := 20 }) (Pre D ca [.ref (a 0), .int 1] [((a 0), .inr (1, [.ref (a 1), .ref (a 4), .ref (a 5), .ref (a 6), .ref (a 8), .ref (a 10), .int 0, .int (nI (k + 1)), .int (nI k)])), ((a 6), .inr (3, [.ref (a 7), .int 0, .int 0, .int 0, .int 0, .int 0, .int 0, .int 0, .int 0, .int 0, .int 0, .int 0, .int 0, .int 0])), ((a 7), .inr (5, [.int 0, .int 24, .int 32, .ref (a 17), .ref (a 18), .int 0])), ((a 8), .inr (10, [.ref (a 9), .ref (a 21), .int 0, .int 0, .ref (a 22), .int 0, .int 0, .int 0])), ((a 9), .inr (5, [.int 0, .int 8, .int 60, .ref (a 19), .ref (a 20), .int 0]))] sz) (va_Qi (fun (r : Int32) (_ : Unit) => r = nI (k + 1)) (fun (_ : Unit) (tt : State) => Wd D (va_A [((a 0), .inr (1, [.ref (a 1), .ref (a 4), .ref (a 5), .ref (a 6), .ref (a 8), .ref (a 10), .int 0, .int (nI (k + 1)), .int (nI k)])), ((a 6), .inr (3, [.ref (a 7), .int 0, .int 0, .int 0, .int 0, .int 0, .int 0, .int 0, .int 0, .int 0, .int 0, .int 0, .int 0, .int 0])), ((a 7), .inr (5, [.int 0, .int 24, .int 32, .ref (a 17), .ref (a 18), .int 0])), ((a 8), .inr (10, [.ref (a 9), .ref (a 21), .int 0, .int 0, .ref (a 22), .int 0, .int 0, .int 0])), ((a 9), .inr (5, [.int 0, .int 8, .int 60, .ref (a 19), .ref (a 20), .int 0]))] sz) [] tt) (va_A [((a 0), .inr (1, [.ref (a 1), .ref (a 4), .ref (a 5), .ref (a 6), .ref (a 8), .ref (a 10), .int 0, .int (nI (k + 1)), .int (nI k)])), ((a 6), .inr (3, [.ref (a 7), .int 0, .int 0, .int 0, .int 0, .int 0, .int 0, .int 0, .int 0, .int 0, .int 0, .int 0, .int 0, .int 0])), ((a 7), .inr (5, [.int 0, .int 24, .int 32, .ref (a 17), .ref (a 18), .int 0])), ((a 8), .inr (10, [.ref (a 9), .ref (a 21), .int 0, .int 0, .ref (a 22), .int 0, .int 0, .int 0])), ((a 9), .inr (5, [.int 0, .int 8, .int 60, .ref (a 19), .ref (a 20), .int 0]))] sz)) 0 0 (va_A [((a 0), .inr (1, [.ref (a 1), .ref (a 4), .ref (a 5), .ref (a 6), .ref (a 8), .ref (a 10), .int 0, .int (nI (k + 1)), .int (nI k)])), ((a 6), .inr (3, [.ref (a 7), .int 0, .int 0, .int 0, .int 0, .int 0, .int 0, .int 0, .int 0, .int 0, .int 0, .int 0, .int 0, .int 0])), ((a 7), .inr (5, [.int 0, .int 24, .int 32, .ref (a 17), .ref (a 18), .int 0])), ((a 8), .inr (10, [.ref (a 9), .ref (a 21), .int 0, .int 0, .ref (a 22), .int 0, .int 0, .int 0])), ((a 9), .inr (5, [.int 0, .int 8, .int 60, .ref (a 19), .ref (a 20), .int 0]))] sz) := by
  refine Met.ofW (cc := cX11_linkFact) (maxL := 4) (ret := (some .int)) (by decide) rfl ?_
  intro p e s m args below meth c s₁ B hml hv
  obtain ⟨rfl, hsz, hP, hK, hD0, hN⟩ := hv
  have hx := B.exec
  have hb := B.bytes
  have hr := B.returns
  have hts := atoms_spec (ws := w_c_linkFact_1) B.pre
  have hown : s.vm.findClass RX11 = some m.cls := findClass_of_methodNamed B.named
  have hlocks := B.notSynchronized
  have hi_X1 : ∀ w ∈ wsX10, w ∈ w_c_linkFact_1 := fun _ h => List.mem_cons_of_mem _ (List.mem_append_right _ h)
  subst hsz
  have hD := hD0.self (sz := s.heap.size)
  generalize hAe : va_A [((a 0), .inr (1, [.ref (a 1), .ref (a 4), .ref (a 5), .ref (a 6), .ref (a 8), .ref (a 10), .int 0, .int (nI (k + 1)), .int (nI k)])), ((a 6), .inr (3, [.ref (a 7), .int 0, .int 0, .int 0, .int 0, .int 0, .int 0, .int 0, .int 0, .int 0, .int 0, .int 0, .int 0, .int 0])), ((a 7), .inr (5, [.int 0, .int 24, .int 32, .ref (a 17), .ref (a 18), .int 0])), ((a 8), .inr (10, [.ref (a 9), .ref (a 21), .int 0, .int 0, .ref (a 22), .int 0, .int 0, .int 0])), ((a 9), .inr (5, [.int 0, .int 8, .int 60, .ref (a 19), .ref (a 20), .int 0]))] s.heap.size = A at hD ⊢
  have hA : ∀ q : Nat, s.heap.size ≤ q → A q := fun q h => by rw [← hAe]; exact Or.inr h
  have hS : va_S A s.heap s.heap [] := va_S.rf
  have hP : va_P D vwCl [((a 0), .inr (1, [.ref (a 1), .ref (a 4), .ref (a 5), .ref (a 6), .ref (a 8), .ref (a 10), .int 0, .int (nI (k + 1)), .int (nI k)])), ((a 6), .inr (3, [.ref (a 7), .int 0, .int 0, .int 0, .int 0, .int 0, .int 0, .int 0, .int 0, .int 0, .int 0, .int 0, .int 0, .int 0])), ((a 7), .inr (5, [.int 0, .int 24, .int 32, .ref (a 17), .ref (a 18), .int 0])), ((a 8), .inr (10, [.ref (a 9), .ref (a 21), .int 0, .int 0, .ref (a 22), .int 0, .int 0, .int 0])), ((a 9), .inr (5, [.int 0, .int 8, .int 60, .ref (a 19), .ref (a 20), .int 0]))] s.heap := hP
  have hl := lv_entry ([.ref (a 0), .int 1]) (n := 4) (Nat.le_of_ble_eq_true rfl)
  rw [lg_entry_eq]
  generalize (lg_sl ([.ref (a 0), .int 1]) ++ List.replicate (4 - (lg_sl ([.ref (a 0), .int 1])).length) Slot.unset).toArray = ls at hl ⊢
  have hl : lv_has ls 4 [(0, .ref (a 0)), (1, .int 1)] := hl
  refine lv_aload_n hx hb dX11_linkFact_0 rfl (lv_at hl 0 rfl) ?_
  refine va_get (D := D) (ci := 1) (v := .ref (a 6)) (C := RX1) (T := TX1) (N := 9) hx hb hts hi_X1 hown hK hP 0 rfl rfl 3 (by decide) (hts (.fieldLink RX11 92 "BeamHouse$Device" "link" "LBeamHouse$Link;") (List.mem_of_getElem? (i := 1) rfl)) (fun _ h9 => h9) rfl dX11_linkFact_1 ?_
  refine lv_astore_n (lv' := [(2, .ref (a 6)), (0, .ref (a 0)), (1, .int 1)]) hx hb dX11_linkFact_4 rfl hl (by decide) rfl (fun ls hl => ?_)
  refine lv_aload_n hx hb dX11_linkFact_5 rfl (lv_at hl 1 rfl) ?_
  refine kGo_i (wr := [((a 6), .inr (3, [.ref (a 7), .int 0, .int 0, .int 0, .int 0, .int 0, .int 0, .int 0, .int 0, .int 0, .int 0, .int 0, .int 0, .int 0])), ((a 7), .inr (5, [.int 0, .int 24, .int 32, .ref (a 17), .ref (a 18), .int 0])), ((a 8), .inr (10, [.ref (a 9), .ref (a 21), .int 0, .int 0, .ref (a 22), .int 0, .int 0, .int 0])), ((a 9), .inr (5, [.int 0, .int 8, .int 60, .ref (a 19), .ref (a 20), .int 0]))]) (kRunV (As := []) (rest := []) ⟨hx, hb, hml, hown, hts⟩ (c_isLinked l D ca _ a k) (cwV 0 hts g_c_linkFact_1_c_isLinked_177 rfl rfl rfl (by decide +kernel) ⟨Nat.le_of_ble_eq_true rfl, Nat.le_of_ble_eq_true rfl⟩) hK hN hP hD [0] rfl rfl rfl rfl rfl rfl hl.1 rfl (Nat.le_of_ble_eq_true rfl) dX11_linkFact_6 ⟨Nat.le_of_ble_eq_true rfl, Nat.le_of_ble_eq_true rfl⟩) hP hD hS hA [0] [1, 2, 3, 4] rfl rfl rfl (by decide) (fun r_1 uu_ tt H locs hr_1 hB hj hS => ?_)
  have hWd := hB
  obtain ⟨hP, hD⟩ := hj _ hWd
  have hP : va_P D vwCl [((a 6), .inr (3, [.ref (a 7), .int 0, .int 0, .int 0, .int 0, .int 0, .int 0, .int 0, .int 0, .int 0, .int 0, .int 0, .int 0, .int 0])), ((a 7), .inr (5, [.int 0, .int 24, .int 32, .ref (a 17), .ref (a 18), .int 0])), ((a 8), .inr (10, [.ref (a 9), .ref (a 21), .int 0, .int 0, .ref (a 22), .int 0, .int 0, .int 0])), ((a 9), .inr (5, [.int 0, .int 8, .int 60, .ref (a 19), .ref (a 20), .int 0])), ((a 0), .inr (1, [.ref (a 1), .ref (a 4), .ref (a 5), .ref (a 6), .ref (a 8), .ref (a 10), .int 0, .int (nI (k + 1)), .int (nI k)]))] H := hP
  have hD : va_D A [((a 6), .inr (3, [.ref (a 7), .int 0, .int 0, .int 0, .int 0, .int 0, .int 0, .int 0, .int 0, .int 0, .int 0, .int 0, .int 0, .int 0])), ((a 7), .inr (5, [.int 0, .int 24, .int 32, .ref (a 17), .ref (a 18), .int 0])), ((a 8), .inr (10, [.ref (a 9), .ref (a 21), .int 0, .int 0, .ref (a 22), .int 0, .int 0, .int 0])), ((a 9), .inr (5, [.int 0, .int 8, .int 60, .ref (a 19), .ref (a 20), .int 0])), ((a 0), .inr (1, [.ref (a 1), .ref (a 4), .ref (a 5), .ref (a 6), .ref (a 8), .ref (a 10), .int 0, .int (nI (k + 1)), .int (nI k)]))] := hD
  subst hr_1
  refine lv_istore_n (lv' := [(3, .int 0), (2, .ref (a 6)), (0, .ref (a 0)), (1, .int 1)]) hx hb dX11_linkFact_9 rfl hl (by decide) rfl (fun ls hl => ?_)
  refine lv_iload_n hx hb dX11_linkFact_10 rfl (lv_at hl 3 rfl) ?_
  refine lv_tableIn (tgt := 65) (off := 54) hx hb dX11_linkFact_11 (by decide) (by decide) rfl (by decide) ?_
  refine lv_aload_n hx hb dX11_linkFact_65 rfl (lv_at hl 2 rfl) ?_
  refine va_get (D := D) (ci := 1) (v := .int (nI (k + 1))) (C := RX1) (T := TX1) (N := 9) hx hb hts hi_X1 hown hK hP 4 rfl rfl 7 (by decide) (hts (.fieldLink RX11 30 "BeamHouse$Device" "address" "I") (List.mem_of_getElem? (i := 8) rfl)) (fun _ h9 => h9) rfl dX11_linkFact_66 ?_
  exact W.iret (v := (nI (k + 1))) hx hb hr (fun tt ht hW => ⟨⟨(nI (k + 1)), (), rfl, rfl, ⟨by rw [ht]; exact hP.sub [] rfl, hD.sub [] rfl rfl⟩⟩, hS.F ht⟩) hS.2.2 dX11_linkFact_69
def w_c_linkFact_2 : List Cond := .code yX11_linkFact cX11_linkFact 4 (some .int) :: (([.fieldLink RX11 92 "BeamHouse$Device" "link" "LBeamHouse$Link;", .code yX1_isLinked cX1_isLinked 1 (some .boolean), .fieldLink RX1 60 "BeamHouse$Device" "state" "I", .methodLink RX11 177 yX1_isLinked, .instanceMethod yX1_isLinked, .selects RX1 yX1_isLinked yX1_isLinked, .initialized RX1, .fieldLink RX11 26 "BeamHouse$Device" "state" "I"] : List Cond) ++ wsX10)
theorem g_c_linkFact_2_c_isLinked_177 : GoodIn w_c_linkFact_2 (wsV RX11 177 RX1 yX1_isLinked w_c_isLinked) := (goodIn_app (goodIn_r _ [4, 5, 6, 7] rfl rfl) (goodIn_ca (goodIn_r _ [2, 3] rfl rfl) (goodIn_sub (fun _ h => List.mem_cons_of_mem _ (List.mem_append_right _ h)) gw_X1)))
set_option maxHeartbeats 4000000 in
set_option maxRecDepth 100000 in
theorem c_linkFact_2 (l : Launch) (D : va_G) (ca : Nat → ClassId) (sz : Nat) (a : Nat → Nat) (k : Nat)  : Met l yX11_linkFact w_c_linkFact_2 ({ frames := 1, cells := 0, slots := 0, locals := 20 }) (Pre D ca [.ref (a 0), .int 2] [((a 0), .inr (1, [.ref (a 1), .ref (a 4), .ref (a 5), .ref (a 6), .ref (a 8), .ref (a 10), .int 0, .int (nI (k + 1)), .int (nI k)])), ((a 6), .inr (3, [.ref (a 7), .int 0, .int 0, .int 0, .int 0, .int 0, .int 0, .int 0, .int 0, .int 0, .int 0, .int 0, .int 0, .int 0])), ((a 7), .inr (5, [.int 0, .int 24, .int 32, .ref (a 17), .ref (a 18), .int 0])), ((a 8), .inr (10, [.ref (a 9), .ref (a 21), .int 0, .int 0, .ref (a 22), .int 0, .int 0, .int 0])), ((a 9), .inr (5, [.int 0, .int 8, .int 60, .ref (a 19), .ref (a 20), .int 0]))] sz) (va_Qi (fun (r : Int32) (_ : Unit) => r = 0) (fun (_ : Unit) (tt : State) => Wd D (va_A [((a 0), .inr (1, [.ref (a 1), .ref (a 4), .ref (a 5), .ref (a 6), .ref (a 8), .ref (a 10), .int 0, .int (nI (k + 1)), .int (nI k)])), ((a 6), .inr (3, [.ref (a 7), .int 0, .int 0, .int 0, .int 0, .int 0, .int 0, .int 0, .int 0, .int 0, .int 0, .int 0, .int 0, .int 0])), ((a 7), .inr (5, [.int 0, .int 24, .int 32, .ref (a 17), .ref (a 18), .int 0])), ((a 8), .inr (10, [.ref (a 9), .ref (a 21), .int 0, .int 0, .ref (a 22), .int 0, .int 0, .int 0])), ((a 9), .inr (5, [.int 0, .int 8, .int 60, .ref (a 19), .ref (a 20), .int 0]))] sz) [] tt) (va_A [((a 0), .inr (1, [.ref (a 1), .ref (a 4), .ref (a 5), .ref (a 6), .ref (a 8), .ref (a 10), .int 0, .int (nI (k + 1)), .int (nI k)])), ((a 6), .inr (3, [.ref (a 7), .int 0, .int 0, .int 0, .int 0, .int 0, .int 0, .int 0, .int 0, .int 0, .int 0, .int 0, .int 0, .int 0])), ((a 7), .inr (5, [.int 0, .int 24, .int 32, .ref (a 17), .ref (a 18), .int 0])), ((a 8), .inr (10, [.ref (a 9), .ref (a 21), .int 0, .int 0, .ref (a 22), .int 0, .int 0, .int 0])), ((a 9), .inr (5, [.int 0, .int 8, .int 60, .ref (a 19), .ref (a 20), .int 0]))] sz)) 0 0 (va_A [((a 0), .inr (1, [.ref (a 1), .ref (a 4), .ref (a 5), .ref (a 6), .ref (a 8), .ref (a 10), .int 0, .int (nI (k + 1)), .int (nI k)])), ((a 6), .inr (3, [.ref (a 7), .int 0, .int 0, .int 0, .int 0, .int 0, .int 0, .int 0, .int 0, .int 0, .int 0, .int 0, .int 0, .int 0])), ((a 7), .inr (5, [.int 0, .int 24, .int 32, .ref (a 17), .ref (a 18), .int 0])), ((a 8), .inr (10, [.ref (a 9), .ref (a 21), .int 0, .int 0, .ref (a 22), .int 0, .int 0, .int 0])), ((a 9), .inr (5, [.int 0, .int 8, .int 60, .ref (a 19), .ref (a 20), .int 0]))] sz) := by
  refine Met.ofW (cc := cX11_linkFact) (maxL := 4) (ret := (some .int)) (by decide) rfl ?_
  intro p e s m args below meth c s₁ B hml hv
  obtain ⟨rfl, hsz, hP, hK, hD0, hN⟩ := hv
  have hx := B.exec
  have hb := B.bytes
  have hr := B.returns
  have hts := atoms_spec (ws := w_c_linkFact_2) B.pre
  have hown : s.vm.findClass RX11 = some m.cls := findClass_of_methodNamed B.named
  have hlocks := B.notSynchronized
  have hi_X1 : ∀ w ∈ wsX10, w ∈ w_c_linkFact_2 := fun _ h => List.mem_cons_of_mem _ (List.mem_append_right _ h)
  subst hsz
  have hD := hD0.self (sz := s.heap.size)
  generalize hAe : va_A [((a 0), .inr (1, [.ref (a 1), .ref (a 4), .ref (a 5), .ref (a 6), .ref (a 8), .ref (a 10), .int 0, .int (nI (k + 1)), .int (nI k)])), ((a 6), .inr (3, [.ref (a 7), .int 0, .int 0, .int 0, .int 0, .int 0, .int 0, .int 0, .int 0, .int 0, .int 0, .int 0, .int 0, .int 0])), ((a 7), .inr (5, [.int 0, .int 24, .int 32, .ref (a 17), .ref (a 18), .int 0])), ((a 8), .inr (10, [.ref (a 9), .ref (a 21), .int 0, .int 0, .ref (a 22), .int 0, .int 0, .int 0])), ((a 9), .inr (5, [.int 0, .int 8, .int 60, .ref (a 19), .ref (a 20), .int 0]))] s.heap.size = A at hD ⊢
  have hA : ∀ q : Nat, s.heap.size ≤ q → A q := fun q h => by rw [← hAe]; exact Or.inr h
  have hS : va_S A s.heap s.heap [] := va_S.rf
  have hP : va_P D vwCl [((a 0), .inr (1, [.ref (a 1), .ref (a 4), .ref (a 5), .ref (a 6), .ref (a 8), .ref (a 10), .int 0, .int (nI (k + 1)), .int (nI k)])), ((a 6), .inr (3, [.ref (a 7), .int 0, .int 0, .int 0, .int 0, .int 0, .int 0, .int 0, .int 0, .int 0, .int 0, .int 0, .int 0, .int 0])), ((a 7), .inr (5, [.int 0, .int 24, .int 32, .ref (a 17), .ref (a 18), .int 0])), ((a 8), .inr (10, [.ref (a 9), .ref (a 21), .int 0, .int 0, .ref (a 22), .int 0, .int 0, .int 0])), ((a 9), .inr (5, [.int 0, .int 8, .int 60, .ref (a 19), .ref (a 20), .int 0]))] s.heap := hP
  have hl := lv_entry ([.ref (a 0), .int 2]) (n := 4) (Nat.le_of_ble_eq_true rfl)
  rw [lg_entry_eq]
  generalize (lg_sl ([.ref (a 0), .int 2]) ++ List.replicate (4 - (lg_sl ([.ref (a 0), .int 2])).length) Slot.unset).toArray = ls at hl ⊢
  have hl : lv_has ls 4 [(0, .ref (a 0)), (1, .int 2)] := hl
  refine lv_aload_n hx hb dX11_linkFact_0 rfl (lv_at hl 0 rfl) ?_
  refine va_get (D := D) (ci := 1) (v := .ref (a 6)) (C := RX1) (T := TX1) (N := 9) hx hb hts hi_X1 hown hK hP 0 rfl rfl 3 (by decide) (hts (.fieldLink RX11 92 "BeamHouse$Device" "link" "LBeamHouse$Link;") (List.mem_of_getElem? (i := 1) rfl)) (fun _ h9 => h9) rfl dX11_linkFact_1 ?_
  refine lv_astore_n (lv' := [(2, .ref (a 6)), (0, .ref (a 0)), (1, .int 2)]) hx hb dX11_linkFact_4 rfl hl (by decide) rfl (fun ls hl => ?_)
  refine lv_aload_n hx hb dX11_linkFact_5 rfl (lv_at hl 1 rfl) ?_
  refine kGo_i (wr := [((a 6), .inr (3, [.ref (a 7), .int 0, .int 0, .int 0, .int 0, .int 0, .int 0, .int 0, .int 0, .int 0, .int 0, .int 0, .int 0, .int 0])), ((a 7), .inr (5, [.int 0, .int 24, .int 32, .ref (a 17), .ref (a 18), .int 0])), ((a 8), .inr (10, [.ref (a 9), .ref (a 21), .int 0, .int 0, .ref (a 22), .int 0, .int 0, .int 0])), ((a 9), .inr (5, [.int 0, .int 8, .int 60, .ref (a 19), .ref (a 20), .int 0]))]) (kRunV (As := []) (rest := []) ⟨hx, hb, hml, hown, hts⟩ (c_isLinked l D ca _ a k) (cwV 0 hts g_c_linkFact_2_c_isLinked_177 rfl rfl rfl (by decide +kernel) ⟨Nat.le_of_ble_eq_true rfl, Nat.le_of_ble_eq_true rfl⟩) hK hN hP hD [0] rfl rfl rfl rfl rfl rfl hl.1 rfl (Nat.le_of_ble_eq_true rfl) dX11_linkFact_6 ⟨Nat.le_of_ble_eq_true rfl, Nat.le_of_ble_eq_true rfl⟩) hP hD hS hA [0] [1, 2, 3, 4] rfl rfl rfl (by decide) (fun r_1 uu_ tt H locs hr_1 hB hj hS => ?_)
  have hWd := hB
  obtain ⟨hP, hD⟩ := hj _ hWd
  have hP : va_P D vwCl [((a 6), .inr (3, [.ref (a 7), .int 0, .int 0, .int 0, .int 0, .int 0, .int 0, .int 0, .int 0, .int 0, .int 0, .int 0, .int 0, .int 0])), ((a 7), .inr (5, [.int 0, .int 24, .int 32, .ref (a 17), .ref (a 18), .int 0])), ((a 8), .inr (10, [.ref (a 9), .ref (a 21), .int 0, .int 0, .ref (a 22), .int 0, .int 0, .int 0])), ((a 9), .inr (5, [.int 0, .int 8, .int 60, .ref (a 19), .ref (a 20), .int 0])), ((a 0), .inr (1, [.ref (a 1), .ref (a 4), .ref (a 5), .ref (a 6), .ref (a 8), .ref (a 10), .int 0, .int (nI (k + 1)), .int (nI k)]))] H := hP
  have hD : va_D A [((a 6), .inr (3, [.ref (a 7), .int 0, .int 0, .int 0, .int 0, .int 0, .int 0, .int 0, .int 0, .int 0, .int 0, .int 0, .int 0, .int 0])), ((a 7), .inr (5, [.int 0, .int 24, .int 32, .ref (a 17), .ref (a 18), .int 0])), ((a 8), .inr (10, [.ref (a 9), .ref (a 21), .int 0, .int 0, .ref (a 22), .int 0, .int 0, .int 0])), ((a 9), .inr (5, [.int 0, .int 8, .int 60, .ref (a 19), .ref (a 20), .int 0])), ((a 0), .inr (1, [.ref (a 1), .ref (a 4), .ref (a 5), .ref (a 6), .ref (a 8), .ref (a 10), .int 0, .int (nI (k + 1)), .int (nI k)]))] := hD
  subst hr_1
  refine lv_istore_n (lv' := [(3, .int 0), (2, .ref (a 6)), (0, .ref (a 0)), (1, .int 2)]) hx hb dX11_linkFact_9 rfl hl (by decide) rfl (fun ls hl => ?_)
  refine lv_iload_n hx hb dX11_linkFact_10 rfl (lv_at hl 3 rfl) ?_
  refine lv_tableIn (tgt := 70) (off := 59) hx hb dX11_linkFact_11 (by decide) (by decide) rfl (by decide) ?_
  refine lv_iload_n hx hb dX11_linkFact_70 rfl (lv_at hl 0 rfl) ?_
  refine lv_if_ne (tgt := 82) hx hb dX11_linkFact_71 (by decide) (fun h => absurd (by decide) h) (fun _ => ?_)
  refine lv_aload_n hx hb dX11_linkFact_74 rfl (lv_at hl 2 rfl) ?_
  refine va_get (D := D) (ci := 1) (v := .int 0) (C := RX1) (T := TX1) (N := 9) hx hb hts hi_X1 hown hK hP 4 rfl rfl 6 (by decide) (hts (.fieldLink RX11 26 "BeamHouse$Device" "state" "I") (List.mem_of_getElem? (i := 8) rfl)) (fun _ h9 => h9) rfl dX11_linkFact_75 ?_
  refine lv_iconst (v := 2) hx hb dX11_linkFact_78 (by decide) ?_
  refine lv_icmp_ne (tgt := 89) hx hb dX11_linkFact_79 (by decide) (fun _ => ?_) (fun h => absurd h (by decide))
  refine lv_iconst (v := 0) hx hb dX11_linkFact_89 (by decide) ?_
  exact W.iret (v := 0) hx hb hr (fun tt ht hW => ⟨⟨0, (), rfl, rfl, ⟨by rw [ht]; exact hP.sub [] rfl, hD.sub [] rfl rfl⟩⟩, hS.F ht⟩) hS.2.2 dX11_linkFact_90
def w_c_linkFact_3 : List Cond := .code yX11_linkFact cX11_linkFact 4 (some .int) :: (([.fieldLink RX11 92 "BeamHouse$Device" "link" "LBeamHouse$Link;", .code yX1_isLinked cX1_isLinked 1 (some .boolean), .fieldLink RX1 60 "BeamHouse$Device" "state" "I", .methodLink RX11 177 yX1_isLinked, .instanceMethod yX1_isLinked, .selects RX1 yX1_isLinked yX1_isLinked, .initialized RX1] : List Cond) ++ wsX10)
theorem g_c_linkFact_3_c_isLinked_177 : GoodIn w_c_linkFact_3 (wsV RX11 177 RX1 yX1_isLinked w_c_isLinked) := (goodIn_app (goodIn_r _ [4, 5, 6, 7] rfl rfl) (goodIn_ca (goodIn_r _ [2, 3] rfl rfl) (goodIn_sub (fun _ h => List.mem_cons_of_mem _ (List.mem_append_right _ h)) gw_X1)))
set_option maxHeartbeats 4000000 in
set_option maxRecDepth 100000 in
theorem c_linkFact_3 (l : Launch) (D : va_G) (ca : Nat → ClassId) (sz : Nat) (a : Nat → Nat) (k : Nat)  : Met l yX11_linkFact w_c_linkFact_3 ({ frames := 1, cells := 0, slots := 0, locals := 20 }) (Pre D ca [.ref (a 0), .int 3] [((a 0), .inr (1, [.ref (a 1), .ref (a 4), .ref (a 5), .ref (a 6), .ref (a 8), .ref (a 10), .int 0, .int (nI (k + 1)), .int (nI k)])), ((a 6), .inr (3, [.ref (a 7), .int 0, .int 0, .int 0, .int 0, .int 0, .int 0, .int 0, .int 0, .int 0, .int 0, .int 0, .int 0, .int 0])), ((a 7), .inr (5, [.int 0, .int 24, .int 32, .ref (a 17), .ref (a 18), .int 0])), ((a 8), .inr (10, [.ref (a 9), .ref (a 21), .int 0, .int 0, .ref (a 22), .int 0, .int 0, .int 0])), ((a 9), .inr (5, [.int 0, .int 8, .int 60, .ref (a 19), .ref (a 20), .int 0]))] sz) (va_Qi (fun (r : Int32) (_ : Unit) => r = 0) (fun (_ : Unit) (tt : State) => Wd D (va_A [((a 0), .inr (1, [.ref (a 1), .ref (a 4), .ref (a 5), .ref (a 6), .ref (a 8), .ref (a 10), .int 0, .int (nI (k + 1)), .int (nI k)])), ((a 6), .inr (3, [.ref (a 7), .int 0, .int 0, .int 0, .int 0, .int 0, .int 0, .int 0, .int 0, .int 0, .int 0, .int 0, .int 0, .int 0])), ((a 7), .inr (5, [.int 0, .int 24, .int 32, .ref (a 17), .ref (a 18), .int 0])), ((a 8), .inr (10, [.ref (a 9), .ref (a 21), .int 0, .int 0, .ref (a 22), .int 0, .int 0, .int 0])), ((a 9), .inr (5, [.int 0, .int 8, .int 60, .ref (a 19), .ref (a 20), .int 0]))] sz) [] tt) (va_A [((a 0), .inr (1, [.ref (a 1), .ref (a 4), .ref (a 5), .ref (a 6), .ref (a 8), .ref (a 10), .int 0, .int (nI (k + 1)), .int (nI k)])), ((a 6), .inr (3, [.ref (a 7), .int 0, .int 0, .int 0, .int 0, .int 0, .int 0, .int 0, .int 0, .int 0, .int 0, .int 0, .int 0, .int 0])), ((a 7), .inr (5, [.int 0, .int 24, .int 32, .ref (a 17), .ref (a 18), .int 0])), ((a 8), .inr (10, [.ref (a 9), .ref (a 21), .int 0, .int 0, .ref (a 22), .int 0, .int 0, .int 0])), ((a 9), .inr (5, [.int 0, .int 8, .int 60, .ref (a 19), .ref (a 20), .int 0]))] sz)) 0 0 (va_A [((a 0), .inr (1, [.ref (a 1), .ref (a 4), .ref (a 5), .ref (a 6), .ref (a 8), .ref (a 10), .int 0, .int (nI (k + 1)), .int (nI k)])), ((a 6), .inr (3, [.ref (a 7), .int 0, .int 0, .int 0, .int 0, .int 0, .int 0, .int 0, .int 0, .int 0, .int 0, .int 0, .int 0, .int 0])), ((a 7), .inr (5, [.int 0, .int 24, .int 32, .ref (a 17), .ref (a 18), .int 0])), ((a 8), .inr (10, [.ref (a 9), .ref (a 21), .int 0, .int 0, .ref (a 22), .int 0, .int 0, .int 0])), ((a 9), .inr (5, [.int 0, .int 8, .int 60, .ref (a 19), .ref (a 20), .int 0]))] sz) := by
  refine Met.ofW (cc := cX11_linkFact) (maxL := 4) (ret := (some .int)) (by decide) rfl ?_
  intro p e s m args below meth c s₁ B hml hv
  obtain ⟨rfl, hsz, hP, hK, hD0, hN⟩ := hv
  have hx := B.exec
  have hb := B.bytes
  have hr := B.returns
  have hts := atoms_spec (ws := w_c_linkFact_3) B.pre
  have hown : s.vm.findClass RX11 = some m.cls := findClass_of_methodNamed B.named
  have hlocks := B.notSynchronized
  have hi_X1 : ∀ w ∈ wsX10, w ∈ w_c_linkFact_3 := fun _ h => List.mem_cons_of_mem _ (List.mem_append_right _ h)
  subst hsz
  have hD := hD0.self (sz := s.heap.size)
  generalize hAe : va_A [((a 0), .inr (1, [.ref (a 1), .ref (a 4), .ref (a 5), .ref (a 6), .ref (a 8), .ref (a 10), .int 0, .int (nI (k + 1)), .int (nI k)])), ((a 6), .inr (3, [.ref (a 7), .int 0, .int 0, .int 0, .int 0, .int 0, .int 0, .int 0, .int 0, .int 0, .int 0, .int 0, .int 0, .int 0])), ((a 7), .inr (5, [.int 0, .int 24, .int 32, .ref (a 17), .ref (a 18), .int 0])), ((a 8), .inr (10, [.ref (a 9), .ref (a 21), .int 0, .int 0, .ref (a 22), .int 0, .int 0, .int 0])), ((a 9), .inr (5, [.int 0, .int 8, .int 60, .ref (a 19), .ref (a 20), .int 0]))] s.heap.size = A at hD ⊢
  have hA : ∀ q : Nat, s.heap.size ≤ q → A q := fun q h => by rw [← hAe]; exact Or.inr h
  have hS : va_S A s.heap s.heap [] := va_S.rf
  have hP : va_P D vwCl [((a 0), .inr (1, [.ref (a 1), .ref (a 4), .ref (a 5), .ref (a 6), .ref (a 8), .ref (a 10), .int 0, .int (nI (k + 1)), .int (nI k)])), ((a 6), .inr (3, [.ref (a 7), .int 0, .int 0, .int 0, .int 0, .int 0, .int 0, .int 0, .int 0, .int 0, .int 0, .int 0, .int 0, .int 0])), ((a 7), .inr (5, [.int 0, .int 24, .int 32, .ref (a 17), .ref (a 18), .int 0])), ((a 8), .inr (10, [.ref (a 9), .ref (a 21), .int 0, .int 0, .ref (a 22), .int 0, .int 0, .int 0])), ((a 9), .inr (5, [.int 0, .int 8, .int 60, .ref (a 19), .ref (a 20), .int 0]))] s.heap := hP
  have hl := lv_entry ([.ref (a 0), .int 3]) (n := 4) (Nat.le_of_ble_eq_true rfl)
  rw [lg_entry_eq]
  generalize (lg_sl ([.ref (a 0), .int 3]) ++ List.replicate (4 - (lg_sl ([.ref (a 0), .int 3])).length) Slot.unset).toArray = ls at hl ⊢
  have hl : lv_has ls 4 [(0, .ref (a 0)), (1, .int 3)] := hl
  refine lv_aload_n hx hb dX11_linkFact_0 rfl (lv_at hl 0 rfl) ?_
  refine va_get (D := D) (ci := 1) (v := .ref (a 6)) (C := RX1) (T := TX1) (N := 9) hx hb hts hi_X1 hown hK hP 0 rfl rfl 3 (by decide) (hts (.fieldLink RX11 92 "BeamHouse$Device" "link" "LBeamHouse$Link;") (List.mem_of_getElem? (i := 1) rfl)) (fun _ h9 => h9) rfl dX11_linkFact_1 ?_
  refine lv_astore_n (lv' := [(2, .ref (a 6)), (0, .ref (a 0)), (1, .int 3)]) hx hb dX11_linkFact_4 rfl hl (by decide) rfl (fun ls hl => ?_)
  refine lv_aload_n hx hb dX11_linkFact_5 rfl (lv_at hl 1 rfl) ?_
  refine kGo_i (wr := [((a 6), .inr (3, [.ref (a 7), .int 0, .int 0, .int 0, .int 0, .int 0, .int 0, .int 0, .int 0, .int 0, .int 0, .int 0, .int 0, .int 0])), ((a 7), .inr (5, [.int 0, .int 24, .int 32, .ref (a 17), .ref (a 18), .int 0])), ((a 8), .inr (10, [.ref (a 9), .ref (a 21), .int 0, .int 0, .ref (a 22), .int 0, .int 0, .int 0])), ((a 9), .inr (5, [.int 0, .int 8, .int 60, .ref (a 19), .ref (a 20), .int 0]))]) (kRunV (As := []) (rest := []) ⟨hx, hb, hml, hown, hts⟩ (c_isLinked l D ca _ a k) (cwV 0 hts g_c_linkFact_3_c_isLinked_177 rfl rfl rfl (by decide +kernel) ⟨Nat.le_of_ble_eq_true rfl, Nat.le_of_ble_eq_true rfl⟩) hK hN hP hD [0] rfl rfl rfl rfl rfl rfl hl.1 rfl (Nat.le_of_ble_eq_true rfl) dX11_linkFact_6 ⟨Nat.le_of_ble_eq_true rfl, Nat.le_of_ble_eq_true rfl⟩) hP hD hS hA [0] [1, 2, 3, 4] rfl rfl rfl (by decide) (fun r_1 uu_ tt H locs hr_1 hB hj hS => ?_)
  have hWd := hB
  obtain ⟨hP, hD⟩ := hj _ hWd
  have hP : va_P D vwCl [((a 6), .inr (3, [.ref (a 7), .int 0, .int 0, .int 0, .int 0, .int 0, .int 0, .int 0, .int 0, .int 0, .int 0, .int 0, .int 0, .int 0])), ((a 7), .inr (5, [.int 0, .int 24, .int 32, .ref (a 17), .ref (a 18), .int 0])), ((a 8), .inr (10, [.ref (a 9), .ref (a 21), .int 0, .int 0, .ref (a 22), .int 0, .int 0, .int 0])), ((a 9), .inr (5, [.int 0, .int 8, .int 60, .ref (a 19), .ref (a 20), .int 0])), ((a 0), .inr (1, [.ref (a 1), .ref (a 4), .ref (a 5), .ref (a 6), .ref (a 8), .ref (a 10), .int 0, .int (nI (k + 1)), .int (nI k)]))] H := hP
  have hD : va_D A [((a 6), .inr (3, [.ref (a 7), .int 0, .int 0, .int 0, .int 0, .int 0, .int 0, .int 0, .int 0, .int 0, .int 0, .int 0, .int 0, .int 0])), ((a 7), .inr (5, [.int 0, .int 24, .int 32, .ref (a 17), .ref (a 18), .int 0])), ((a 8), .inr (10, [.ref (a 9), .ref (a 21), .int 0, .int 0, .ref (a 22), .int 0, .int 0, .int 0])), ((a 9), .inr (5, [.int 0, .int 8, .int 60, .ref (a 19), .ref (a 20), .int 0])), ((a 0), .inr (1, [.ref (a 1), .ref (a 4), .ref (a 5), .ref (a 6), .ref (a 8), .ref (a 10), .int 0, .int (nI (k + 1)), .int (nI k)]))] := hD
  subst hr_1
  refine lv_istore_n (lv' := [(3, .int 0), (2, .ref (a 6)), (0, .ref (a 0)), (1, .int 3)]) hx hb dX11_linkFact_9 rfl hl (by decide) rfl (fun ls hl => ?_)
  refine lv_iload_n hx hb dX11_linkFact_10 rfl (lv_at hl 3 rfl) ?_
  refine lv_tableIn (tgt := 91) (off := 80) hx hb dX11_linkFact_11 (by decide) (by decide) rfl (by decide) ?_
  refine lv_iload_n hx hb dX11_linkFact_91 rfl (lv_at hl 0 rfl) ?_
  refine lv_if_eq (tgt := 102) hx hb dX11_linkFact_92 (by decide) (fun _ => ?_) (fun h => absurd (by decide) h)
  refine lv_iconst (v := 0) hx hb dX11_linkFact_102 (by decide) ?_
  exact W.iret (v := 0) hx hb hr (fun tt ht hW => ⟨⟨0, (), rfl, rfl, ⟨by rw [ht]; exact hP.sub [] rfl, hD.sub [] rfl rfl⟩⟩, hS.F ht⟩) hS.2.2 dX11_linkFact_103
def w_c_linkFact_4 : List Cond := .code yX11_linkFact cX11_linkFact 4 (some .int) :: (([.fieldLink RX11 92 "BeamHouse$Device" "link" "LBeamHouse$Link;", .code yX1_isLinked cX1_isLinked 1 (some .boolean), .fieldLink RX1 60 "BeamHouse$Device" "state" "I", .methodLink RX11 177 yX1_isLinked, .instanceMethod yX1_isLinked, .selects RX1 yX1_isLinked yX1_isLinked, .initialized RX1, .fieldLink RX11 183 "BeamHouse$Link" "sentFrom" "I"] : List Cond) ++ wsX10 ++ wsX30)
theorem g_c_linkFact_4_c_isLinked_177 : GoodIn w_c_linkFact_4 (wsV RX11 177 RX1 yX1_isLinked w_c_isLinked) := (goodIn_app (goodIn_r _ [4, 5, 6, 7] rfl rfl) (goodIn_ca (goodIn_r _ [2, 3] rfl rfl) (goodIn_sub (fun _ h => List.mem_cons_of_mem _ (List.mem_append_left _ (List.mem_append_right _ h))) gw_X1)))
set_option maxHeartbeats 4000000 in
set_option maxRecDepth 100000 in
theorem c_linkFact_4 (l : Launch) (D : va_G) (ca : Nat → ClassId) (sz : Nat) (a : Nat → Nat) (k : Nat)  : Met l yX11_linkFact w_c_linkFact_4 ({ frames := 1, cells := 0, slots := 0, locals := 20 }) (Pre D ca [.ref (a 0), .int 4] [((a 0), .inr (1, [.ref (a 1), .ref (a 4), .ref (a 5), .ref (a 6), .ref (a 8), .ref (a 10), .int 0, .int (nI (k + 1)), .int (nI k)])), ((a 6), .inr (3, [.ref (a 7), .int 0, .int 0, .int 0, .int 0, .int 0, .int 0, .int 0, .int 0, .int 0, .int 0, .int 0, .int 0, .int 0])), ((a 7), .inr (5, [.int 0, .int 24, .int 32, .ref (a 17), .ref (a 18), .int 0])), ((a 8), .inr (10, [.ref (a 9), .ref (a 21), .int 0, .int 0, .ref (a 22), .int 0, .int 0, .int 0])), ((a 9), .inr (5, [.int 0, .int 8, .int 60, .ref (a 19), .ref (a 20), .int 0]))] sz) (va_Qi (fun (r : Int32) (_ : Unit) => r = 0) (fun (_ : Unit) (tt : State) => Wd D (va_A [((a 0), .inr (1, [.ref (a 1), .ref (a 4), .ref (a 5), .ref (a 6), .ref (a 8), .ref (a 10), .int 0, .int (nI (k + 1)), .int (nI k)])), ((a 6), .inr (3, [.ref (a 7), .int 0, .int 0, .int 0, .int 0, .int 0, .int 0, .int 0, .int 0, .int 0, .int 0, .int 0, .int 0, .int 0])), ((a 7), .inr (5, [.int 0, .int 24, .int 32, .ref (a 17), .ref (a 18), .int 0])), ((a 8), .inr (10, [.ref (a 9), .ref (a 21), .int 0, .int 0, .ref (a 22), .int 0, .int 0, .int 0])), ((a 9), .inr (5, [.int 0, .int 8, .int 60, .ref (a 19), .ref (a 20), .int 0]))] sz) [] tt) (va_A [((a 0), .inr (1, [.ref (a 1), .ref (a 4), .ref (a 5), .ref (a 6), .ref (a 8), .ref (a 10), .int 0, .int (nI (k + 1)), .int (nI k)])), ((a 6), .inr (3, [.ref (a 7), .int 0, .int 0, .int 0, .int 0, .int 0, .int 0, .int 0, .int 0, .int 0, .int 0, .int 0, .int 0, .int 0])), ((a 7), .inr (5, [.int 0, .int 24, .int 32, .ref (a 17), .ref (a 18), .int 0])), ((a 8), .inr (10, [.ref (a 9), .ref (a 21), .int 0, .int 0, .ref (a 22), .int 0, .int 0, .int 0])), ((a 9), .inr (5, [.int 0, .int 8, .int 60, .ref (a 19), .ref (a 20), .int 0]))] sz)) 0 0 (va_A [((a 0), .inr (1, [.ref (a 1), .ref (a 4), .ref (a 5), .ref (a 6), .ref (a 8), .ref (a 10), .int 0, .int (nI (k + 1)), .int (nI k)])), ((a 6), .inr (3, [.ref (a 7), .int 0, .int 0, .int 0, .int 0, .int 0, .int 0, .int 0, .int 0, .int 0, .int 0, .int 0, .int 0, .int 0])), ((a 7), .inr (5, [.int 0, .int 24, .int 32, .ref (a 17), .ref (a 18), .int 0])), ((a 8), .inr (10, [.ref (a 9), .ref (a 21), .int 0, .int 0, .ref (a 22), .int 0, .int 0, .int 0])), ((a 9), .inr (5, [.int 0, .int 8, .int 60, .ref (a 19), .ref (a 20), .int 0]))] sz) := by
  refine Met.ofW (cc := cX11_linkFact) (maxL := 4) (ret := (some .int)) (by decide) rfl ?_
  intro p e s m args below meth c s₁ B hml hv
  obtain ⟨rfl, hsz, hP, hK, hD0, hN⟩ := hv
  have hx := B.exec
  have hb := B.bytes
  have hr := B.returns
  have hts := atoms_spec (ws := w_c_linkFact_4) B.pre
  have hown : s.vm.findClass RX11 = some m.cls := findClass_of_methodNamed B.named
  have hlocks := B.notSynchronized
  have hi_X1 : ∀ w ∈ wsX10, w ∈ w_c_linkFact_4 := fun _ h => List.mem_cons_of_mem _ (List.mem_append_left _ (List.mem_append_right _ h))
  have hi_X3 : ∀ w ∈ wsX30, w ∈ w_c_linkFact_4 := fun _ h => List.mem_cons_of_mem _ (List.mem_append_right _ h)
  subst hsz
  have hD := hD0.self (sz := s.heap.size)
  generalize hAe : va_A [((a 0), .inr (1, [.ref (a 1), .ref (a 4), .ref (a 5), .ref (a 6), .ref (a 8), .ref (a 10), .int 0, .int (nI (k + 1)), .int (nI k)])), ((a 6), .inr (3, [.ref (a 7), .int 0, .int 0, .int 0, .int 0, .int 0, .int 0, .int 0, .int 0, .int 0, .int 0, .int 0, .int 0, .int 0])), ((a 7), .inr (5, [.int 0, .int 24, .int 32, .ref (a 17), .ref (a 18), .int 0])), ((a 8), .inr (10, [.ref (a 9), .ref (a 21), .int 0, .int 0, .ref (a 22), .int 0, .int 0, .int 0])), ((a 9), .inr (5, [.int 0, .int 8, .int 60, .ref (a 19), .ref (a 20), .int 0]))] s.heap.size = A at hD ⊢
  have hA : ∀ q : Nat, s.heap.size ≤ q → A q := fun q h => by rw [← hAe]; exact Or.inr h
  have hS : va_S A s.heap s.heap [] := va_S.rf
  have hP : va_P D vwCl [((a 0), .inr (1, [.ref (a 1), .ref (a 4), .ref (a 5), .ref (a 6), .ref (a 8), .ref (a 10), .int 0, .int (nI (k + 1)), .int (nI k)])), ((a 6), .inr (3, [.ref (a 7), .int 0, .int 0, .int 0, .int 0, .int 0, .int 0, .int 0, .int 0, .int 0, .int 0, .int 0, .int 0, .int 0])), ((a 7), .inr (5, [.int 0, .int 24, .int 32, .ref (a 17), .ref (a 18), .int 0])), ((a 8), .inr (10, [.ref (a 9), .ref (a 21), .int 0, .int 0, .ref (a 22), .int 0, .int 0, .int 0])), ((a 9), .inr (5, [.int 0, .int 8, .int 60, .ref (a 19), .ref (a 20), .int 0]))] s.heap := hP
  have hl := lv_entry ([.ref (a 0), .int 4]) (n := 4) (Nat.le_of_ble_eq_true rfl)
  rw [lg_entry_eq]
  generalize (lg_sl ([.ref (a 0), .int 4]) ++ List.replicate (4 - (lg_sl ([.ref (a 0), .int 4])).length) Slot.unset).toArray = ls at hl ⊢
  have hl : lv_has ls 4 [(0, .ref (a 0)), (1, .int 4)] := hl
  refine lv_aload_n hx hb dX11_linkFact_0 rfl (lv_at hl 0 rfl) ?_
  refine va_get (D := D) (ci := 1) (v := .ref (a 6)) (C := RX1) (T := TX1) (N := 9) hx hb hts hi_X1 hown hK hP 0 rfl rfl 3 (by decide) (hts (.fieldLink RX11 92 "BeamHouse$Device" "link" "LBeamHouse$Link;") (List.mem_of_getElem? (i := 1) rfl)) (fun _ h9 => h9) rfl dX11_linkFact_1 ?_
  refine lv_astore_n (lv' := [(2, .ref (a 6)), (0, .ref (a 0)), (1, .int 4)]) hx hb dX11_linkFact_4 rfl hl (by decide) rfl (fun ls hl => ?_)
  refine lv_aload_n hx hb dX11_linkFact_5 rfl (lv_at hl 1 rfl) ?_
  refine kGo_i (wr := [((a 6), .inr (3, [.ref (a 7), .int 0, .int 0, .int 0, .int 0, .int 0, .int 0, .int 0, .int 0, .int 0, .int 0, .int 0, .int 0, .int 0])), ((a 7), .inr (5, [.int 0, .int 24, .int 32, .ref (a 17), .ref (a 18), .int 0])), ((a 8), .inr (10, [.ref (a 9), .ref (a 21), .int 0, .int 0, .ref (a 22), .int 0, .int 0, .int 0])), ((a 9), .inr (5, [.int 0, .int 8, .int 60, .ref (a 19), .ref (a 20), .int 0]))]) (kRunV (As := []) (rest := []) ⟨hx, hb, hml, hown, hts⟩ (c_isLinked l D ca _ a k) (cwV 0 hts g_c_linkFact_4_c_isLinked_177 rfl rfl rfl (by decide +kernel) ⟨Nat.le_of_ble_eq_true rfl, Nat.le_of_ble_eq_true rfl⟩) hK hN hP hD [0] rfl rfl rfl rfl rfl rfl hl.1 rfl (Nat.le_of_ble_eq_true rfl) dX11_linkFact_6 ⟨Nat.le_of_ble_eq_true rfl, Nat.le_of_ble_eq_true rfl⟩) hP hD hS hA [0] [1, 2, 3, 4] rfl rfl rfl (by decide) (fun r_1 uu_ tt H locs hr_1 hB hj hS => ?_)
  have hWd := hB
  obtain ⟨hP, hD⟩ := hj _ hWd
  have hP : va_P D vwCl [((a 6), .inr (3, [.ref (a 7), .int 0, .int 0, .int 0, .int 0, .int 0, .int 0, .int 0, .int 0, .int 0, .int 0, .int 0, .int 0, .int 0])), ((a 7), .inr (5, [.int 0, .int 24, .int 32, .ref (a 17), .ref (a 18), .int 0])), ((a 8), .inr (10, [.ref (a 9), .ref (a 21), .int 0, .int 0, .ref (a 22), .int 0, .int 0, .int 0])), ((a 9), .inr (5, [.int 0, .int 8, .int 60, .ref (a 19), .ref (a 20), .int 0])), ((a 0), .inr (1, [.ref (a 1), .ref (a 4), .ref (a 5), .ref (a 6), .ref (a 8), .ref (a 10), .int 0, .int (nI (k + 1)), .int (nI k)]))] H := hP
  have hD : va_D A [((a 6), .inr (3, [.ref (a 7), .int 0, .int 0, .int 0, .int 0, .int 0, .int 0, .int 0, .int 0, .int 0, .int 0, .int 0, .int 0, .int 0])), ((a 7), .inr (5, [.int 0, .int 24, .int 32, .ref (a 17), .ref (a 18), .int 0])), ((a 8), .inr (10, [.ref (a 9), .ref (a 21), .int 0, .int 0, .ref (a 22), .int 0, .int 0, .int 0])), ((a 9), .inr (5, [.int 0, .int 8, .int 60, .ref (a 19), .ref (a 20), .int 0])), ((a 0), .inr (1, [.ref (a 1), .ref (a 4), .ref (a 5), .ref (a 6), .ref (a 8), .ref (a 10), .int 0, .int (nI (k + 1)), .int (nI k)]))] := hD
  subst hr_1
  refine lv_istore_n (lv' := [(3, .int 0), (2, .ref (a 6)), (0, .ref (a 0)), (1, .int 4)]) hx hb dX11_linkFact_9 rfl hl (by decide) rfl (fun ls hl => ?_)
  refine lv_iload_n hx hb dX11_linkFact_10 rfl (lv_at hl 3 rfl) ?_
  refine lv_tableIn (tgt := 104) (off := 93) hx hb dX11_linkFact_11 (by decide) (by decide) rfl (by decide) ?_
  refine lv_aload_n hx hb dX11_linkFact_104 rfl (lv_at hl 1 rfl) ?_
  refine va_get (D := D) (ci := 3) (v := .int 0) (C := RX3) (T := TX3) (N := 14) hx hb hts hi_X3 hown hK hP 0 rfl rfl 4 (by decide) (hts (.fieldLink RX11 183 "BeamHouse$Link" "sentFrom" "I") (List.mem_of_getElem? (i := 8) rfl)) (fun _ h9 => h9) rfl dX11_linkFact_105 ?_
  exact W.iret (v := 0) hx hb hr (fun tt ht hW => ⟨⟨0, (), rfl, rfl, ⟨by rw [ht]; exact hP.sub [] rfl, hD.sub [] rfl rfl⟩⟩, hS.F ht⟩) hS.2.2 dX11_linkFact_108
def w_c_linkFact_5 : List Cond := .code yX11_linkFact cX11_linkFact 4 (some .int) :: (([.fieldLink RX11 92 "BeamHouse$Device" "link" "LBeamHouse$Link;", .code yX1_isLinked cX1_isLinked 1 (some .boolean), .fieldLink RX1 60 "BeamHouse$Device" "state" "I", .methodLink RX11 177 yX1_isLinked, .instanceMethod yX1_isLinked, .selects RX1 yX1_isLinked yX1_isLinked, .initialized RX1, .fieldLink RX11 186 "BeamHouse$Link" "taken" "I"] : List Cond) ++ wsX10 ++ wsX30)
theorem g_c_linkFact_5_c_isLinked_177 : GoodIn w_c_linkFact_5 (wsV RX11 177 RX1 yX1_isLinked w_c_isLinked) := (goodIn_app (goodIn_r _ [4, 5, 6, 7] rfl rfl) (goodIn_ca (goodIn_r _ [2, 3] rfl rfl) (goodIn_sub (fun _ h => List.mem_cons_of_mem _ (List.mem_append_left _ (List.mem_append_right _ h))) gw_X1)))
set_option maxHeartbeats 4000000 in
set_option maxRecDepth 100000 in
theorem c_linkFact_5 (l : Launch) (D : va_G) (ca : Nat → ClassId) (sz : Nat) (a : Nat → Nat) (k : Nat)  : Met l yX11_linkFact w_c_linkFact_5 ({ frames := 1, cells := 0, slots := 0, locals := 20 }) (Pre D ca [.ref (a 0), .int 5] [((a 0), .inr (1, [.ref (a 1), .ref (a 4), .ref (a 5), .ref (a 6), .ref (a 8), .ref (a 10), .int 0, .int (nI (k + 1)), .int (nI k)])), ((a 6), .inr (3, [.ref (a 7), .int 0, .int 0, .int 0, .int 0, .int 0, .int 0, .int 0, .int 0, .int 0, .int 0, .int 0, .int 0, .int 0])), ((a 7), .inr (5, [.int 0, .int 24, .int 32, .ref (a 17), .ref (a 18), .int 0])), ((a 8), .inr (10, [.ref (a 9), .ref (a 21), .int 0, .int 0, .ref (a 22), .int 0, .int 0, .int 0])), ((a 9), .inr (5, [.int 0, .int 8, .int 60, .ref (a 19), .ref (a 20), .int 0]))] sz) (va_Qi (fun (r : Int32) (_ : Unit) => r = 0) (fun (_ : Unit) (tt : State) => Wd D (va_A [((a 0), .inr (1, [.ref (a 1), .ref (a 4), .ref (a 5), .ref (a 6), .ref (a 8), .ref (a 10), .int 0, .int (nI (k + 1)), .int (nI k)])), ((a 6), .inr (3, [.ref (a 7), .int 0, .int 0, .int 0, .int 0, .int 0, .int 0, .int 0, .int 0, .int 0, .int 0, .int 0, .int 0, .int 0])), ((a 7), .inr (5, [.int 0, .int 24, .int 32, .ref (a 17), .ref (a 18), .int 0])), ((a 8), .inr (10, [.ref (a 9), .ref (a 21), .int 0, .int 0, .ref (a 22), .int 0, .int 0, .int 0])), ((a 9), .inr (5, [.int 0, .int 8, .int 60, .ref (a 19), .ref (a 20), .int 0]))] sz) [] tt) (va_A [((a 0), .inr (1, [.ref (a 1), .ref (a 4), .ref (a 5), .ref (a 6), .ref (a 8), .ref (a 10), .int 0, .int (nI (k + 1)), .int (nI k)])), ((a 6), .inr (3, [.ref (a 7), .int 0, .int 0, .int 0, .int 0, .int 0, .int 0, .int 0, .int 0, .int 0, .int 0, .int 0, .int 0, .int 0])), ((a 7), .inr (5, [.int 0, .int 24, .int 32, .ref (a 17), .ref (a 18), .int 0])), ((a 8), .inr (10, [.ref (a 9), .ref (a 21), .int 0, .int 0, .ref (a 22), .int 0, .int 0, .int 0])), ((a 9), .inr (5, [.int 0, .int 8, .int 60, .ref (a 19), .ref (a 20), .int 0]))] sz)) 0 0 (va_A [((a 0), .inr (1, [.ref (a 1), .ref (a 4), .ref (a 5), .ref (a 6), .ref (a 8), .ref (a 10), .int 0, .int (nI (k + 1)), .int (nI k)])), ((a 6), .inr (3, [.ref (a 7), .int 0, .int 0, .int 0, .int 0, .int 0, .int 0, .int 0, .int 0, .int 0, .int 0, .int 0, .int 0, .int 0])), ((a 7), .inr (5, [.int 0, .int 24, .int 32, .ref (a 17), .ref (a 18), .int 0])), ((a 8), .inr (10, [.ref (a 9), .ref (a 21), .int 0, .int 0, .ref (a 22), .int 0, .int 0, .int 0])), ((a 9), .inr (5, [.int 0, .int 8, .int 60, .ref (a 19), .ref (a 20), .int 0]))] sz) := by
  refine Met.ofW (cc := cX11_linkFact) (maxL := 4) (ret := (some .int)) (by decide) rfl ?_
  intro p e s m args below meth c s₁ B hml hv
  obtain ⟨rfl, hsz, hP, hK, hD0, hN⟩ := hv
  have hx := B.exec
  have hb := B.bytes
  have hr := B.returns
  have hts := atoms_spec (ws := w_c_linkFact_5) B.pre
  have hown : s.vm.findClass RX11 = some m.cls := findClass_of_methodNamed B.named
  have hlocks := B.notSynchronized
  have hi_X1 : ∀ w ∈ wsX10, w ∈ w_c_linkFact_5 := fun _ h => List.mem_cons_of_mem _ (List.mem_append_left _ (List.mem_append_right _ h))
  have hi_X3 : ∀ w ∈ wsX30, w ∈ w_c_linkFact_5 := fun _ h => List.mem_cons_of_mem _ (List.mem_append_right _ h)
  subst hsz
  have hD := hD0.self (sz := s.heap.size)
  generalize hAe : va_A [((a 0), .inr (1, [.ref (a 1), .ref (a 4), .ref (a 5), .ref (a 6), .ref (a 8), .ref (a 10), .int 0, .int (nI (k + 1)), .int (nI k)])), ((a 6), .inr (3, [.ref (a 7), .int 0, .int 0, .int 0, .int 0, .int 0, .int 0, .int 0, .int 0, .int 0, .int 0, .int 0, .int 0, .int 0])), ((a 7), .inr (5, [.int 0, .int 24, .int 32, .ref (a 17), .ref (a 18), .int 0])), ((a 8), .inr (10, [.ref (a 9), .ref (a 21), .int 0, .int 0, .ref (a 22), .int 0, .int 0, .int 0])), ((a 9), .inr (5, [.int 0, .int 8, .int 60, .ref (a 19), .ref (a 20), .int 0]))] s.heap.size = A at hD ⊢
  have hA : ∀ q : Nat, s.heap.size ≤ q → A q := fun q h => by rw [← hAe]; exact Or.inr h
  have hS : va_S A s.heap s.heap [] := va_S.rf
  have hP : va_P D vwCl [((a 0), .inr (1, [.ref (a 1), .ref (a 4), .ref (a 5), .ref (a 6), .ref (a 8), .ref (a 10), .int 0, .int (nI (k + 1)), .int (nI k)])), ((a 6), .inr (3, [.ref (a 7), .int 0, .int 0, .int 0, .int 0, .int 0, .int 0, .int 0, .int 0, .int 0, .int 0, .int 0, .int 0, .int 0])), ((a 7), .inr (5, [.int 0, .int 24, .int 32, .ref (a 17), .ref (a 18), .int 0])), ((a 8), .inr (10, [.ref (a 9), .ref (a 21), .int 0, .int 0, .ref (a 22), .int 0, .int 0, .int 0])), ((a 9), .inr (5, [.int 0, .int 8, .int 60, .ref (a 19), .ref (a 20), .int 0]))] s.heap := hP
  have hl := lv_entry ([.ref (a 0), .int 5]) (n := 4) (Nat.le_of_ble_eq_true rfl)
  rw [lg_entry_eq]
  generalize (lg_sl ([.ref (a 0), .int 5]) ++ List.replicate (4 - (lg_sl ([.ref (a 0), .int 5])).length) Slot.unset).toArray = ls at hl ⊢
  have hl : lv_has ls 4 [(0, .ref (a 0)), (1, .int 5)] := hl
  refine lv_aload_n hx hb dX11_linkFact_0 rfl (lv_at hl 0 rfl) ?_
  refine va_get (D := D) (ci := 1) (v := .ref (a 6)) (C := RX1) (T := TX1) (N := 9) hx hb hts hi_X1 hown hK hP 0 rfl rfl 3 (by decide) (hts (.fieldLink RX11 92 "BeamHouse$Device" "link" "LBeamHouse$Link;") (List.mem_of_getElem? (i := 1) rfl)) (fun _ h9 => h9) rfl dX11_linkFact_1 ?_
  refine lv_astore_n (lv' := [(2, .ref (a 6)), (0, .ref (a 0)), (1, .int 5)]) hx hb dX11_linkFact_4 rfl hl (by decide) rfl (fun ls hl => ?_)
  refine lv_aload_n hx hb dX11_linkFact_5 rfl (lv_at hl 1 rfl) ?_
  refine kGo_i (wr := [((a 6), .inr (3, [.ref (a 7), .int 0, .int 0, .int 0, .int 0, .int 0, .int 0, .int 0, .int 0, .int 0, .int 0, .int 0, .int 0, .int 0])), ((a 7), .inr (5, [.int 0, .int 24, .int 32, .ref (a 17), .ref (a 18), .int 0])), ((a 8), .inr (10, [.ref (a 9), .ref (a 21), .int 0, .int 0, .ref (a 22), .int 0, .int 0, .int 0])), ((a 9), .inr (5, [.int 0, .int 8, .int 60, .ref (a 19), .ref (a 20), .int 0]))]) (kRunV (As := []) (rest := []) ⟨hx, hb, hml, hown, hts⟩ (c_isLinked l D ca _ a k) (cwV 0 hts g_c_linkFact_5_c_isLinked_177 rfl rfl rfl (by decide +kernel) ⟨Nat.le_of_ble_eq_true rfl, Nat.le_of_ble_eq_true rfl⟩) hK hN hP hD [0] rfl rfl rfl rfl rfl rfl hl.1 rfl (Nat.le_of_ble_eq_true rfl) dX11_linkFact_6 ⟨Nat.le_of_ble_eq_true rfl, Nat.le_of_ble_eq_true rfl⟩) hP hD hS hA [0] [1, 2, 3, 4] rfl rfl rfl (by decide) (fun r_1 uu_ tt H locs hr_1 hB hj hS => ?_)
  have hWd := hB
  obtain ⟨hP, hD⟩ := hj _ hWd
  have hP : va_P D vwCl [((a 6), .inr (3, [.ref (a 7), .int 0, .int 0, .int 0, .int 0, .int 0, .int 0, .int 0, .int 0, .int 0, .int 0, .int 0, .int 0, .int 0])), ((a 7), .inr (5, [.int 0, .int 24, .int 32, .ref (a 17), .ref (a 18), .int 0])), ((a 8), .inr (10, [.ref (a 9), .ref (a 21), .int 0, .int 0, .ref (a 22), .int 0, .int 0, .int 0])), ((a 9), .inr (5, [.int 0, .int 8, .int 60, .ref (a 19), .ref (a 20), .int 0])), ((a 0), .inr (1, [.ref (a 1), .ref (a 4), .ref (a 5), .ref (a 6), .ref (a 8), .ref (a 10), .int 0, .int (nI (k + 1)), .int (nI k)]))] H := hP
  have hD : va_D A [((a 6), .inr (3, [.ref (a 7), .int 0, .int 0, .int 0, .int 0, .int 0, .int 0, .int 0, .int 0, .int 0, .int 0, .int 0, .int 0, .int 0])), ((a 7), .inr (5, [.int 0, .int 24, .int 32, .ref (a 17), .ref (a 18), .int 0])), ((a 8), .inr (10, [.ref (a 9), .ref (a 21), .int 0, .int 0, .ref (a 22), .int 0, .int 0, .int 0])), ((a 9), .inr (5, [.int 0, .int 8, .int 60, .ref (a 19), .ref (a 20), .int 0])), ((a 0), .inr (1, [.ref (a 1), .ref (a 4), .ref (a 5), .ref (a 6), .ref (a 8), .ref (a 10), .int 0, .int (nI (k + 1)), .int (nI k)]))] := hD
  subst hr_1
  refine lv_istore_n (lv' := [(3, .int 0), (2, .ref (a 6)), (0, .ref (a 0)), (1, .int 5)]) hx hb dX11_linkFact_9 rfl hl (by decide) rfl (fun ls hl => ?_)
  refine lv_iload_n hx hb dX11_linkFact_10 rfl (lv_at hl 3 rfl) ?_
  refine lv_tableIn (tgt := 109) (off := 98) hx hb dX11_linkFact_11 (by decide) (by decide) rfl (by decide) ?_
  refine lv_aload_n hx hb dX11_linkFact_109 rfl (lv_at hl 1 rfl) ?_
  refine va_get (D := D) (ci := 3) (v := .int 0) (C := RX3) (T := TX3) (N := 14) hx hb hts hi_X3 hown hK hP 0 rfl rfl 5 (by decide) (hts (.fieldLink RX11 186 "BeamHouse$Link" "taken" "I") (List.mem_of_getElem? (i := 8) rfl)) (fun _ h9 => h9) rfl dX11_linkFact_110 ?_
  exact W.iret (v := 0) hx hb hr (fun tt ht hW => ⟨⟨0, (), rfl, rfl, ⟨by rw [ht]; exact hP.sub [] rfl, hD.sub [] rfl rfl⟩⟩, hS.F ht⟩) hS.2.2 dX11_linkFact_113
def w_c_linkFact_6 : List Cond := .code yX11_linkFact cX11_linkFact 4 (some .int) :: (([.fieldLink RX11 92 "BeamHouse$Device" "link" "LBeamHouse$Link;", .code yX1_isLinked cX1_isLinked 1 (some .boolean), .fieldLink RX1 60 "BeamHouse$Device" "state" "I", .methodLink RX11 177 yX1_isLinked, .instanceMethod yX1_isLinked, .selects RX1 yX1_isLinked yX1_isLinked, .initialized RX1, .fieldLink RX11 189 "BeamHouse$Link" "parts" "LBeamHouse$Queue;", .fieldLink RX11 193 "BeamHouse$Queue" "count" "I"] : List Cond) ++ wsX10 ++ wsX30 ++ wsX50)
theorem g_c_linkFact_6_c_isLinked_177 : GoodIn w_c_linkFact_6 (wsV RX11 177 RX1 yX1_isLinked w_c_isLinked) := (goodIn_app (goodIn_r _ [4, 5, 6, 7] rfl rfl) (goodIn_ca (goodIn_r _ [2, 3] rfl rfl) (goodIn_sub (fun _ h => List.mem_cons_of_mem _ (List.mem_append_left _ (List.mem_append_left _ (List.mem_append_right _ h)))) gw_X1)))
set_option maxHeartbeats 4000000 in
set_option maxRecDepth 100000 in
theorem c_linkFact_6 (l : Launch) (D : va_G) (ca : Nat → ClassId) (sz : Nat) (a : Nat → Nat) (k : Nat)  : Met l yX11_linkFact w_c_linkFact_6 ({ frames := 1, cells := 0, slots := 0, locals := 20 }) (Pre D ca [.ref (a 0), .int 6] [((a 0), .inr (1, [.ref (a 1), .ref (a 4), .ref (a 5), .ref (a 6), .ref (a 8), .ref (a 10), .int 0, .int (nI (k + 1)), .int (nI k)])), ((a 6), .inr (3, [.ref (a 7), .int 0, .int 0, .int 0, .int 0, .int 0, .int 0, .int 0, .int 0, .int 0, .int 0, .int 0, .int 0, .int 0])), ((a 7), .inr (5, [.int 0, .int 24, .int 32, .ref (a 17), .ref (a 18), .int 0])), ((a 8), .inr (10, [.ref (a 9), .ref (a 21), .int 0, .int 0, .ref (a 22), .int 0, .int 0, .int 0])), ((a 9), .inr (5, [.int 0, .int 8, .int 60, .ref (a 19), .ref (a 20), .int 0]))] sz) (va_Qi (fun (r : Int32) (_ : Unit) => r = 0) (fun (_ : Unit) (tt : State) => Wd D (va_A [((a 0), .inr (1, [.ref (a 1), .ref (a 4), .ref (a 5), .ref (a 6), .ref (a 8), .ref (a 10), .int 0, .int (nI (k + 1)), .int (nI k)])), ((a 6), .inr (3, [.ref (a 7), .int 0, .int 0, .int 0, .int 0, .int 0, .int 0, .int 0, .int 0, .int 0, .int 0, .int 0, .int 0, .int 0])), ((a 7), .inr (5, [.int 0, .int 24, .int 32, .ref (a 17), .ref (a 18), .int 0])), ((a 8), .inr (10, [.ref (a 9), .ref (a 21), .int 0, .int 0, .ref (a 22), .int 0, .int 0, .int 0])), ((a 9), .inr (5, [.int 0, .int 8, .int 60, .ref (a 19), .ref (a 20), .int 0]))] sz) [] tt) (va_A [((a 0), .inr (1, [.ref (a 1), .ref (a 4), .ref (a 5), .ref (a 6), .ref (a 8), .ref (a 10), .int 0, .int (nI (k + 1)), .int (nI k)])), ((a 6), .inr (3, [.ref (a 7), .int 0, .int 0, .int 0, .int 0, .int 0, .int 0, .int 0, .int 0, .int 0, .int 0, .int 0, .int 0, .int 0])), ((a 7), .inr (5, [.int 0, .int 24, .int 32, .ref (a 17), .ref (a 18), .int 0])), ((a 8), .inr (10, [.ref (a 9), .ref (a 21), .int 0, .int 0, .ref (a 22), .int 0, .int 0, .int 0])), ((a 9), .inr (5, [.int 0, .int 8, .int 60, .ref (a 19), .ref (a 20), .int 0]))] sz)) 0 0 (va_A [((a 0), .inr (1, [.ref (a 1), .ref (a 4), .ref (a 5), .ref (a 6), .ref (a 8), .ref (a 10), .int 0, .int (nI (k + 1)), .int (nI k)])), ((a 6), .inr (3, [.ref (a 7), .int 0, .int 0, .int 0, .int 0, .int 0, .int 0, .int 0, .int 0, .int 0, .int 0, .int 0, .int 0, .int 0])), ((a 7), .inr (5, [.int 0, .int 24, .int 32, .ref (a 17), .ref (a 18), .int 0])), ((a 8), .inr (10, [.ref (a 9), .ref (a 21), .int 0, .int 0, .ref (a 22), .int 0, .int 0, .int 0])), ((a 9), .inr (5, [.int 0, .int 8, .int 60, .ref (a 19), .ref (a 20), .int 0]))] sz) := by
  refine Met.ofW (cc := cX11_linkFact) (maxL := 4) (ret := (some .int)) (by decide) rfl ?_
  intro p e s m args below meth c s₁ B hml hv
  obtain ⟨rfl, hsz, hP, hK, hD0, hN⟩ := hv
  have hx := B.exec
  have hb := B.bytes
  have hr := B.returns
  have hts := atoms_spec (ws := w_c_linkFact_6) B.pre
  have hown : s.vm.findClass RX11 = some m.cls := findClass_of_methodNamed B.named
  have hlocks := B.notSynchronized
  have hi_X1 : ∀ w ∈ wsX10, w ∈ w_c_linkFact_6 := fun _ h => List.mem_cons_of_mem _ (List.mem_append_left _ (List.mem_append_left _ (List.mem_append_right _ h)))
  have hi_X3 : ∀ w ∈ wsX30, w ∈ w_c_linkFact_6 := fun _ h => List.mem_cons_of_mem _ (List.mem_append_left _ (List.mem_append_right _ h))
  have hi_X5 : ∀ w ∈ wsX50, w ∈ w_c_linkFact_6 := fun _ h => List.mem_cons_of_mem _ (List.mem_append_right _ h)
  subst hsz
  have hD := hD0.self (sz := s.heap.size)
  generalize hAe : va_A [((a 0), .inr (1, [.ref (a 1), .ref (a 4), .ref (a 5), .ref (a 6), .ref (a 8), .ref (a 10), .int 0, .int (nI (k + 1)), .int (nI k)])), ((a 6), .inr (3, [.ref (a 7), .int 0, .int 0, .int 0, .int 0, .int 0, .int 0, .int 0, .int 0, .int 0, .int 0, .int 0, .int 0, .int 0])), ((a 7), .inr (5, [.int 0, .int 24, .int 32, .ref (a 17), .ref (a 18), .int 0])), ((a 8), .inr (10, [.ref (a 9), .ref (a 21), .int 0, .int 0, .ref (a 22), .int 0, .int 0, .int 0])), ((a 9), .inr (5, [.int 0, .int 8, .int 60, .ref (a 19), .ref (a 20), .int 0]))] s.heap.size = A at hD ⊢
  have hA : ∀ q : Nat, s.heap.size ≤ q → A q := fun q h => by rw [← hAe]; exact Or.inr h
  have hS : va_S A s.heap s.heap [] := va_S.rf
  have hP : va_P D vwCl [((a 0), .inr (1, [.ref (a 1), .ref (a 4), .ref (a 5), .ref (a 6), .ref (a 8), .ref (a 10), .int 0, .int (nI (k + 1)), .int (nI k)])), ((a 6), .inr (3, [.ref (a 7), .int 0, .int 0, .int 0, .int 0, .int 0, .int 0, .int 0, .int 0, .int 0, .int 0, .int 0, .int 0, .int 0])), ((a 7), .inr (5, [.int 0, .int 24, .int 32, .ref (a 17), .ref (a 18), .int 0])), ((a 8), .inr (10, [.ref (a 9), .ref (a 21), .int 0, .int 0, .ref (a 22), .int 0, .int 0, .int 0])), ((a 9), .inr (5, [.int 0, .int 8, .int 60, .ref (a 19), .ref (a 20), .int 0]))] s.heap := hP
  have hl := lv_entry ([.ref (a 0), .int 6]) (n := 4) (Nat.le_of_ble_eq_true rfl)
  rw [lg_entry_eq]
  generalize (lg_sl ([.ref (a 0), .int 6]) ++ List.replicate (4 - (lg_sl ([.ref (a 0), .int 6])).length) Slot.unset).toArray = ls at hl ⊢
  have hl : lv_has ls 4 [(0, .ref (a 0)), (1, .int 6)] := hl
  refine lv_aload_n hx hb dX11_linkFact_0 rfl (lv_at hl 0 rfl) ?_
  refine va_get (D := D) (ci := 1) (v := .ref (a 6)) (C := RX1) (T := TX1) (N := 9) hx hb hts hi_X1 hown hK hP 0 rfl rfl 3 (by decide) (hts (.fieldLink RX11 92 "BeamHouse$Device" "link" "LBeamHouse$Link;") (List.mem_of_getElem? (i := 1) rfl)) (fun _ h9 => h9) rfl dX11_linkFact_1 ?_
  refine lv_astore_n (lv' := [(2, .ref (a 6)), (0, .ref (a 0)), (1, .int 6)]) hx hb dX11_linkFact_4 rfl hl (by decide) rfl (fun ls hl => ?_)
  refine lv_aload_n hx hb dX11_linkFact_5 rfl (lv_at hl 1 rfl) ?_
  refine kGo_i (wr := [((a 6), .inr (3, [.ref (a 7), .int 0, .int 0, .int 0, .int 0, .int 0, .int 0, .int 0, .int 0, .int 0, .int 0, .int 0, .int 0, .int 0])), ((a 7), .inr (5, [.int 0, .int 24, .int 32, .ref (a 17), .ref (a 18), .int 0])), ((a 8), .inr (10, [.ref (a 9), .ref (a 21), .int 0, .int 0, .ref (a 22), .int 0, .int 0, .int 0])), ((a 9), .inr (5, [.int 0, .int 8, .int 60, .ref (a 19), .ref (a 20), .int 0]))]) (kRunV (As := []) (rest := []) ⟨hx, hb, hml, hown, hts⟩ (c_isLinked l D ca _ a k) (cwV 0 hts g_c_linkFact_6_c_isLinked_177 rfl rfl rfl (by decide +kernel) ⟨Nat.le_of_ble_eq_true rfl, Nat.le_of_ble_eq_true rfl⟩) hK hN hP hD [0] rfl rfl rfl rfl rfl rfl hl.1 rfl (Nat.le_of_ble_eq_true rfl) dX11_linkFact_6 ⟨Nat.le_of_ble_eq_true rfl, Nat.le_of_ble_eq_true rfl⟩) hP hD hS hA [0] [1, 2, 3, 4] rfl rfl rfl (by decide) (fun r_1 uu_ tt H locs hr_1 hB hj hS => ?_)
  have hWd := hB
  obtain ⟨hP, hD⟩ := hj _ hWd
  have hP : va_P D vwCl [((a 6), .inr (3, [.ref (a 7), .int 0, .int 0, .int 0, .int 0, .int 0, .int 0, .int 0, .int 0, .int 0, .int 0, .int 0, .int 0, .int 0])), ((a 7), .inr (5, [.int 0, .int 24, .int 32, .ref (a 17), .ref (a 18), .int 0])), ((a 8), .inr (10, [.ref (a 9), .ref (a 21), .int 0, .int 0, .ref (a 22), .int 0, .int 0, .int 0])), ((a 9), .inr (5, [.int 0, .int 8, .int 60, .ref (a 19), .ref (a 20), .int 0])), ((a 0), .inr (1, [.ref (a 1), .ref (a 4), .ref (a 5), .ref (a 6), .ref (a 8), .ref (a 10), .int 0, .int (nI (k + 1)), .int (nI k)]))] H := hP
  have hD : va_D A [((a 6), .inr (3, [.ref (a 7), .int 0, .int 0, .int 0, .int 0, .int 0, .int 0, .int 0, .int 0, .int 0, .int 0, .int 0, .int 0, .int 0])), ((a 7), .inr (5, [.int 0, .int 24, .int 32, .ref (a 17), .ref (a 18), .int 0])), ((a 8), .inr (10, [.ref (a 9), .ref (a 21), .int 0, .int 0, .ref (a 22), .int 0, .int 0, .int 0])), ((a 9), .inr (5, [.int 0, .int 8, .int 60, .ref (a 19), .ref (a 20), .int 0])), ((a 0), .inr (1, [.ref (a 1), .ref (a 4), .ref (a 5), .ref (a 6), .ref (a 8), .ref (a 10), .int 0, .int (nI (k + 1)), .int (nI k)]))] := hD
  subst hr_1
  refine lv_istore_n (lv' := [(3, .int 0), (2, .ref (a 6)), (0, .ref (a 0)), (1, .int 6)]) hx hb dX11_linkFact_9 rfl hl (by decide) rfl (fun ls hl => ?_)
  refine lv_iload_n hx hb dX11_linkFact_10 rfl (lv_at hl 3 rfl) ?_
  refine lv_tableIn (tgt := 114) (off := 103) hx hb dX11_linkFact_11 (by decide) (by decide) rfl (by decide) ?_
  refine lv_aload_n hx hb dX11_linkFact_114 rfl (lv_at hl 1 rfl) ?_
  refine va_get (D := D) (ci := 3) (v := .ref (a 7)) (C := RX3) (T := TX3) (N := 14) hx hb hts hi_X3 hown hK hP 0 rfl rfl 0 (by decide) (hts (.fieldLink RX11 189 "BeamHouse$Link" "parts" "LBeamHouse$Queue;") (List.mem_of_getElem? (i := 8) rfl)) (fun _ h9 => h9) rfl dX11_linkFact_115 ?_
  refine va_get (D := D) (ci := 5) (v := .int 0) (C := RX5) (T := TX5) (N := 6) hx hb hts hi_X5 hown hK hP 1 rfl rfl 0 (by decide) (hts (.fieldLink RX11 193 "BeamHouse$Queue" "count" "I") (List.mem_of_getElem? (i := 9) rfl)) (fun _ h9 => h9) rfl dX11_linkFact_118 ?_
  exact W.iret (v := 0) hx hb hr (fun tt ht hW => ⟨⟨0, (), rfl, rfl, ⟨by rw [ht]; exact hP.sub [] rfl, hD.sub [] rfl rfl⟩⟩, hS.F ht⟩) hS.2.2 dX11_linkFact_121
def w_c_linkFact_7 : List Cond := .code yX11_linkFact cX11_linkFact 4 (some .int) :: (([.fieldLink RX11 92 "BeamHouse$Device" "link" "LBeamHouse$Link;", .code yX1_isLinked cX1_isLinked 1 (some .boolean), .fieldLink RX1 60 "BeamHouse$Device" "state" "I", .methodLink RX11 177 yX1_isLinked, .instanceMethod yX1_isLinked, .selects RX1 yX1_isLinked yX1_isLinked, .initialized RX1, .fieldLink RX11 198 "BeamHouse$Device" "up" "LBeamHouse$Up;", .fieldLink RX11 202 "BeamHouse$Up" "rows" "LBeamHouse$Queue;", .fieldLink RX11 193 "BeamHouse$Queue" "count" "I"] : List Cond) ++ wsX10 ++ wsX100 ++ wsX50)
theorem g_c_linkFact_7_c_isLinked_177 : GoodIn w_c_linkFact_7 (wsV RX11 177 RX1 yX1_isLinked w_c_isLinked) := (goodIn_app (goodIn_r _ [4, 5, 6, 7] rfl rfl) (goodIn_ca (goodIn_r _ [2, 3] rfl rfl) (goodIn_sub (fun _ h => List.mem_cons_of_mem _ (List.mem_append_left _ (List.mem_append_left _ (List.mem_append_right _ h)))) gw_X1)))
set_option maxHeartbeats 4000000 in
set_option maxRecDepth 100000 in
theorem c_linkFact_7 (l : Launch) (D : va_G) (ca : Nat → ClassId) (sz : Nat) (a : Nat → Nat) (k : Nat)  : Met l yX11_linkFact w_c_linkFact_7 ({ frames := 1, cells := 0, slots := 0, locals := 20 }) (Pre D ca [.ref (a 0), .int 7] [((a 0), .inr (1, [.ref (a 1), .ref (a 4), .ref (a 5), .ref (a 6), .ref (a 8), .ref (a 10), .int 0, .int (nI (k + 1)), .int (nI k)])), ((a 6), .inr (3, [.ref (a 7), .int 0, .int 0, .int 0, .int 0, .int 0, .int 0, .int 0, .int 0, .int 0, .int 0, .int 0, .int 0, .int 0])), ((a 7), .inr (5, [.int 0, .int 24, .int 32, .ref (a 17), .ref (a 18), .int 0])), ((a 8), .inr (10, [.ref (a 9), .ref (a 21), .int 0, .int 0, .ref (a 22), .int 0, .int 0, .int 0])), ((a 9), .inr (5, [.int 0, .int 8, .int 60, .ref (a 19), .ref (a 20), .int 0]))] sz) (va_Qi (fun (r : Int32) (_ : Unit) => r = 0) (fun (_ : Unit) (tt : State) => Wd D (va_A [((a 0), .inr (1, [.ref (a 1), .ref (a 4), .ref (a 5), .ref (a 6), .ref (a 8), .ref (a 10), .int 0, .int (nI (k + 1)), .int (nI k)])), ((a 6), .inr (3, [.ref (a 7), .int 0, .int 0, .int 0, .int 0, .int 0, .int 0, .int 0, .int 0, .int 0, .int 0, .int 0, .int 0, .int 0])), ((a 7), .inr (5, [.int 0, .int 24, .int 32, .ref (a 17), .ref (a 18), .int 0])), ((a 8), .inr (10, [.ref (a 9), .ref (a 21), .int 0, .int 0, .ref (a 22), .int 0, .int 0, .int 0])), ((a 9), .inr (5, [.int 0, .int 8, .int 60, .ref (a 19), .ref (a 20), .int 0]))] sz) [] tt) (va_A [((a 0), .inr (1, [.ref (a 1), .ref (a 4), .ref (a 5), .ref (a 6), .ref (a 8), .ref (a 10), .int 0, .int (nI (k + 1)), .int (nI k)])), ((a 6), .inr (3, [.ref (a 7), .int 0, .int 0, .int 0, .int 0, .int 0, .int 0, .int 0, .int 0, .int 0, .int 0, .int 0, .int 0, .int 0])), ((a 7), .inr (5, [.int 0, .int 24, .int 32, .ref (a 17), .ref (a 18), .int 0])), ((a 8), .inr (10, [.ref (a 9), .ref (a 21), .int 0, .int 0, .ref (a 22), .int 0, .int 0, .int 0])), ((a 9), .inr (5, [.int 0, .int 8, .int 60, .ref (a 19), .ref (a 20), .int 0]))] sz)) 0 0 (va_A [((a 0), .inr (1, [.ref (a 1), .ref (a 4), .ref (a 5), .ref (a 6), .ref (a 8), .ref (a 10), .int 0, .int (nI (k + 1)), .int (nI k)])), ((a 6), .inr (3, [.ref (a 7), .int 0, .int 0, .int 0, .int 0, .int 0, .int 0, .int 0, .int 0, .int 0, .int 0, .int 0, .int 0, .int 0])), ((a 7), .inr (5, [.int 0, .int 24, .int 32, .ref (a 17), .ref (a 18), .int 0])), ((a 8), .inr (10, [.ref (a 9), .ref (a 21), .int 0, .int 0, .ref (a 22), .int 0, .int 0, .int 0])), ((a 9), .inr (5, [.int 0, .int 8, .int 60, .ref (a 19), .ref (a 20), .int 0]))] sz) := by
  refine Met.ofW (cc := cX11_linkFact) (maxL := 4) (ret := (some .int)) (by decide) rfl ?_
  intro p e s m args below meth c s₁ B hml hv
  obtain ⟨rfl, hsz, hP, hK, hD0, hN⟩ := hv
  have hx := B.exec
  have hb := B.bytes
  have hr := B.returns
  have hts := atoms_spec (ws := w_c_linkFact_7) B.pre
  have hown : s.vm.findClass RX11 = some m.cls := findClass_of_methodNamed B.named
  have hlocks := B.notSynchronized
  have hi_X1 : ∀ w ∈ wsX10, w ∈ w_c_linkFact_7 := fun _ h => List.mem_cons_of_mem _ (List.mem_append_left _ (List.mem_append_left _ (List.mem_append_right _ h)))
  have hi_X10 : ∀ w ∈ wsX100, w ∈ w_c_linkFact_7 := fun _ h => List.mem_cons_of_mem _ (List.mem_append_left _ (List.mem_append_right _ h))
  have hi_X5 : ∀ w ∈ wsX50, w ∈ w_c_linkFact_7 := fun _ h => List.mem_cons_of_mem _ (List.mem_append_right _ h)
  subst hsz
  have hD := hD0.self (sz := s.heap.size)
  generalize hAe : va_A [((a 0), .inr (1, [.ref (a 1), .ref (a 4), .ref (a 5), .ref (a 6), .ref (a 8), .ref (a 10), .int 0, .int (nI (k + 1)), .int (nI k)])), ((a 6), .inr (3, [.ref (a 7), .int 0, .int 0, .int 0, .int 0, .int 0, .int 0, .int 0, .int 0, .int 0, .int 0, .int 0, .int 0, .int 0])), ((a 7), .inr (5, [.int 0, .int 24, .int 32, .ref (a 17), .ref (a 18), .int 0])), ((a 8), .inr (10, [.ref (a 9), .ref (a 21), .int 0, .int 0, .ref (a 22), .int 0, .int 0, .int 0])), ((a 9), .inr (5, [.int 0, .int 8, .int 60, .ref (a 19), .ref (a 20), .int 0]))] s.heap.size = A at hD ⊢
  have hA : ∀ q : Nat, s.heap.size ≤ q → A q := fun q h => by rw [← hAe]; exact Or.inr h
  have hS : va_S A s.heap s.heap [] := va_S.rf
  have hP : va_P D vwCl [((a 0), .inr (1, [.ref (a 1), .ref (a 4), .ref (a 5), .ref (a 6), .ref (a 8), .ref (a 10), .int 0, .int (nI (k + 1)), .int (nI k)])), ((a 6), .inr (3, [.ref (a 7), .int 0, .int 0, .int 0, .int 0, .int 0, .int 0, .int 0, .int 0, .int 0, .int 0, .int 0, .int 0, .int 0])), ((a 7), .inr (5, [.int 0, .int 24, .int 32, .ref (a 17), .ref (a 18), .int 0])), ((a 8), .inr (10, [.ref (a 9), .ref (a 21), .int 0, .int 0, .ref (a 22), .int 0, .int 0, .int 0])), ((a 9), .inr (5, [.int 0, .int 8, .int 60, .ref (a 19), .ref (a 20), .int 0]))] s.heap := hP
  have hl := lv_entry ([.ref (a 0), .int 7]) (n := 4) (Nat.le_of_ble_eq_true rfl)
  rw [lg_entry_eq]
  generalize (lg_sl ([.ref (a 0), .int 7]) ++ List.replicate (4 - (lg_sl ([.ref (a 0), .int 7])).length) Slot.unset).toArray = ls at hl ⊢
  have hl : lv_has ls 4 [(0, .ref (a 0)), (1, .int 7)] := hl
  refine lv_aload_n hx hb dX11_linkFact_0 rfl (lv_at hl 0 rfl) ?_
  refine va_get (D := D) (ci := 1) (v := .ref (a 6)) (C := RX1) (T := TX1) (N := 9) hx hb hts hi_X1 hown hK hP 0 rfl rfl 3 (by decide) (hts (.fieldLink RX11 92 "BeamHouse$Device" "link" "LBeamHouse$Link;") (List.mem_of_getElem? (i := 1) rfl)) (fun _ h9 => h9) rfl dX11_linkFact_1 ?_
  refine lv_astore_n (lv' := [(2, .ref (a 6)), (0, .ref (a 0)), (1, .int 7)]) hx hb dX11_linkFact_4 rfl hl (by decide) rfl (fun ls hl => ?_)
  refine lv_aload_n hx hb dX11_linkFact_5 rfl (lv_at hl 1 rfl) ?_
  refine kGo_i (wr := [((a 6), .inr (3, [.ref (a 7), .int 0, .int 0, .int 0, .int 0, .int 0, .int 0, .int 0, .int 0, .int 0, .int 0, .int 0, .int 0, .int 0])), ((a 7), .inr (5, [.int 0, .int 24, .int 32, .ref (a 17), .ref (a 18), .int 0])), ((a 8), .inr (10, [.ref (a 9), .ref (a 21), .int 0, .int 0, .ref (a 22), .int 0, .int 0, .int 0])), ((a 9), .inr (5, [.int 0, .int 8, .int 60, .ref (a 19), .ref (a 20), .int 0]))]) (kRunV (As := []) (rest := []) ⟨hx, hb, hml, hown, hts⟩ (c_isLinked l D ca _ a k) (cwV 0 hts g_c_linkFact_7_c_isLinked_177 rfl rfl rfl (by decide +kernel) ⟨Nat.le_of_ble_eq_true rfl, Nat.le_of_ble_eq_true rfl⟩) hK hN hP hD [0] rfl rfl rfl rfl rfl rfl hl.1 rfl (Nat.le_of_ble_eq_true rfl) dX11_linkFact_6 ⟨Nat.le_of_ble_eq_true rfl, Nat.le_of_ble_eq_true rfl⟩) hP hD hS hA [0] [1, 2, 3, 4] rfl rfl rfl (by decide) (fun r_1 uu_ tt H locs hr_1 hB hj hS => ?_)
  have hWd := hB
  obtain ⟨hP, hD⟩ := hj _ hWd
  have hP : va_P D vwCl [((a 6), .inr (3, [.ref (a 7), .int 0, .int 0, .int 0, .int 0, .int 0, .int 0, .int 0, .int 0, .int 0, .int 0, .int 0, .int 0, .int 0])), ((a 7), .inr (5, [.int 0, .int 24, .int 32, .ref (a 17), .ref (a 18), .int 0])), ((a 8), .inr (10, [.ref (a 9), .ref (a 21), .int 0, .int 0, .ref (a 22), .int 0, .int 0, .int 0])), ((a 9), .inr (5, [.int 0, .int 8, .int 60, .ref (a 19), .ref (a 20), .int 0])), ((a 0), .inr (1, [.ref (a 1), .ref (a 4), .ref (a 5), .ref (a 6), .ref (a 8), .ref (a 10), .int 0, .int (nI (k + 1)), .int (nI k)]))] H := hP
  have hD : va_D A [((a 6), .inr (3, [.ref (a 7), .int 0, .int 0, .int 0, .int 0, .int 0, .int 0, .int 0, .int 0, .int 0, .int 0, .int 0, .int 0, .int 0])), ((a 7), .inr (5, [.int 0, .int 24, .int 32, .ref (a 17), .ref (a 18), .int 0])), ((a 8), .inr (10, [.ref (a 9), .ref (a 21), .int 0, .int 0, .ref (a 22), .int 0, .int 0, .int 0])), ((a 9), .inr (5, [.int 0, .int 8, .int 60, .ref (a 19), .ref (a 20), .int 0])), ((a 0), .inr (1, [.ref (a 1), .ref (a 4), .ref (a 5), .ref (a 6), .ref (a 8), .ref (a 10), .int 0, .int (nI (k + 1)), .int (nI k)]))] := hD
  subst hr_1
  refine lv_istore_n (lv' := [(3, .int 0), (2, .ref (a 6)), (0, .ref (a 0)), (1, .int 7)]) hx hb dX11_linkFact_9 rfl hl (by decide) rfl (fun ls hl => ?_)
  refine lv_iload_n hx hb dX11_linkFact_10 rfl (lv_at hl 3 rfl) ?_
  refine lv_tableIn (tgt := 122) (off := 111) hx hb dX11_linkFact_11 (by decide) (by decide) rfl (by decide) ?_
  refine lv_aload_n hx hb dX11_linkFact_122 rfl (lv_at hl 2 rfl) ?_
  refine va_get (D := D) (ci := 1) (v := .ref (a 8)) (C := RX1) (T := TX1) (N := 9) hx hb hts hi_X1 hown hK hP 4 rfl rfl 4 (by decide) (hts (.fieldLink RX11 198 "BeamHouse$Device" "up" "LBeamHouse$Up;") (List.mem_of_getElem? (i := 8) rfl)) (fun _ h9 => h9) rfl dX11_linkFact_123 ?_
  refine va_get (D := D) (ci := 10) (v := .ref (a 9)) (C := RX10) (T := TX10) (N := 8) hx hb hts hi_X10 hown hK hP 2 rfl rfl 0 (by decide) (hts (.fieldLink RX11 202 "BeamHouse$Up" "rows" "LBeamHouse$Queue;") (List.mem_of_getElem? (i := 9) rfl)) (fun _ h9 => h9) rfl dX11_linkFact_126 ?_
  refine va_get (D := D) (ci := 5) (v := .int 0) (C := RX5) (T := TX5) (N := 6) hx hb hts hi_X5 hown hK hP 3 rfl rfl 0 (by decide) (hts (.fieldLink RX11 193 "BeamHouse$Queue" "count" "I") (List.mem_of_getElem? (i := 10) rfl)) (fun _ h9 => h9) rfl dX11_linkFact_129 ?_
  exact W.iret (v := 0) hx hb hr (fun tt ht hW => ⟨⟨0, (), rfl, rfl, ⟨by rw [ht]; exact hP.sub [] rfl, hD.sub [] rfl rfl⟩⟩, hS.F ht⟩) hS.2.2 dX11_linkFact_132
def w_c_linkFact_8 : List Cond := .code yX11_linkFact cX11_linkFact 4 (some .int) :: (([.fieldLink RX11 92 "BeamHouse$Device" "link" "LBeamHouse$Link;", .code yX1_isLinked cX1_isLinked 1 (some .boolean), .fieldLink RX1 60 "BeamHouse$Device" "state" "I", .methodLink RX11 177 yX1_isLinked, .instanceMethod yX1_isLinked, .selects RX1 yX1_isLinked yX1_isLinked, .initialized RX1] : List Cond) ++ wsX10)
theorem g_c_linkFact_8_c_isLinked_177 : GoodIn w_c_linkFact_8 (wsV RX11 177 RX1 yX1_isLinked w_c_isLinked) := (goodIn_app (goodIn_r _ [4, 5, 6, 7] rfl rfl) (goodIn_ca (goodIn_r _ [2, 3] rfl rfl) (goodIn_sub (fun _ h => List.mem_cons_of_mem _ (List.mem_append_right _ h)) gw_X1)))
set_option maxHeartbeats 4000000 in
set_option maxRecDepth 100000 in
theorem c_linkFact_8 (l : Launch) (D : va_G) (ca : Nat → ClassId) (sz : Nat) (a : Nat → Nat) (k : Nat)  : Met l yX11_linkFact w_c_linkFact_8 ({ frames := 1, cells := 0, slots := 0, locals := 20 }) (Pre D ca [.ref (a 0), .int 8] [((a 0), .inr (1, [.ref (a 1), .ref (a 4), .ref (a 5), .ref (a 6), .ref (a 8), .ref (a 10), .int 0, .int (nI (k + 1)), .int (nI k)])), ((a 6), .inr (3, [.ref (a 7), .int 0, .int 0, .int 0, .int 0, .int 0, .int 0, .int 0, .int 0, .int 0, .int 0, .int 0, .int 0, .int 0])), ((a 7), .inr (5, [.int 0, .int 24, .int 32, .ref (a 17), .ref (a 18), .int 0])), ((a 8), .inr (10, [.ref (a 9), .ref (a 21), .int 0, .int 0, .ref (a 22), .int 0, .int 0, .int 0])), ((a 9), .inr (5, [.int 0, .int 8, .int 60, .ref (a 19), .ref (a 20), .int 0]))] sz) (va_Qi (fun (r : Int32) (_ : Unit) => r = 0) (fun (_ : Unit) (tt : State) => Wd D (va_A [((a 0), .inr (1, [.ref (a 1), .ref (a 4), .ref (a 5), .ref (a 6), .ref (a 8), .ref (a 10), .int 0, .int (nI (k + 1)), .int (nI k)])), ((a 6), .inr (3, [.ref (a 7), .int 0, .int 0, .int 0, .int 0, .int 0, .int 0, .int 0, .int 0, .int 0, .int 0, .int 0, .int 0, .int 0])), ((a 7), .inr (5, [.int 0, .int 24, .int 32, .ref (a 17), .ref (a 18), .int 0])), ((a 8), .inr (10, [.ref (a 9), .ref (a 21), .int 0, .int 0, .ref (a 22), .int 0, .int 0, .int 0])), ((a 9), .inr (5, [.int 0, .int 8, .int 60, .ref (a 19), .ref (a 20), .int 0]))] sz) [] tt) (va_A [((a 0), .inr (1, [.ref (a 1), .ref (a 4), .ref (a 5), .ref (a 6), .ref (a 8), .ref (a 10), .int 0, .int (nI (k + 1)), .int (nI k)])), ((a 6), .inr (3, [.ref (a 7), .int 0, .int 0, .int 0, .int 0, .int 0, .int 0, .int 0, .int 0, .int 0, .int 0, .int 0, .int 0, .int 0])), ((a 7), .inr (5, [.int 0, .int 24, .int 32, .ref (a 17), .ref (a 18), .int 0])), ((a 8), .inr (10, [.ref (a 9), .ref (a 21), .int 0, .int 0, .ref (a 22), .int 0, .int 0, .int 0])), ((a 9), .inr (5, [.int 0, .int 8, .int 60, .ref (a 19), .ref (a 20), .int 0]))] sz)) 0 0 (va_A [((a 0), .inr (1, [.ref (a 1), .ref (a 4), .ref (a 5), .ref (a 6), .ref (a 8), .ref (a 10), .int 0, .int (nI (k + 1)), .int (nI k)])), ((a 6), .inr (3, [.ref (a 7), .int 0, .int 0, .int 0, .int 0, .int 0, .int 0, .int 0, .int 0, .int 0, .int 0, .int 0, .int 0, .int 0])), ((a 7), .inr (5, [.int 0, .int 24, .int 32, .ref (a 17), .ref (a 18), .int 0])), ((a 8), .inr (10, [.ref (a 9), .ref (a 21), .int 0, .int 0, .ref (a 22), .int 0, .int 0, .int 0])), ((a 9), .inr (5, [.int 0, .int 8, .int 60, .ref (a 19), .ref (a 20), .int 0]))] sz) := by
  refine Met.ofW (cc := cX11_linkFact) (maxL := 4) (ret := (some .int)) (by decide) rfl ?_
  intro p e s m args below meth c s₁ B hml hv
  obtain ⟨rfl, hsz, hP, hK, hD0, hN⟩ := hv
  have hx := B.exec
  have hb := B.bytes
  have hr := B.returns
  have hts := atoms_spec (ws := w_c_linkFact_8) B.pre
  have hown : s.vm.findClass RX11 = some m.cls := findClass_of_methodNamed B.named
  have hlocks := B.notSynchronized
  have hi_X1 : ∀ w ∈ wsX10, w ∈ w_c_linkFact_8 := fun _ h => List.mem_cons_of_mem _ (List.mem_append_right _ h)
  subst hsz
  have hD := hD0.self (sz := s.heap.size)
  generalize hAe : va_A [((a 0), .inr (1, [.ref (a 1), .ref (a 4), .ref (a 5), .ref (a 6), .ref (a 8), .ref (a 10), .int 0, .int (nI (k + 1)), .int (nI k)])), ((a 6), .inr (3, [.ref (a 7), .int 0, .int 0, .int 0, .int 0, .int 0, .int 0, .int 0, .int 0, .int 0, .int 0, .int 0, .int 0, .int 0])), ((a 7), .inr (5, [.int 0, .int 24, .int 32, .ref (a 17), .ref (a 18), .int 0])), ((a 8), .inr (10, [.ref (a 9), .ref (a 21), .int 0, .int 0, .ref (a 22), .int 0, .int 0, .int 0])), ((a 9), .inr (5, [.int 0, .int 8, .int 60, .ref (a 19), .ref (a 20), .int 0]))] s.heap.size = A at hD ⊢
  have hA : ∀ q : Nat, s.heap.size ≤ q → A q := fun q h => by rw [← hAe]; exact Or.inr h
  have hS : va_S A s.heap s.heap [] := va_S.rf
  have hP : va_P D vwCl [((a 0), .inr (1, [.ref (a 1), .ref (a 4), .ref (a 5), .ref (a 6), .ref (a 8), .ref (a 10), .int 0, .int (nI (k + 1)), .int (nI k)])), ((a 6), .inr (3, [.ref (a 7), .int 0, .int 0, .int 0, .int 0, .int 0, .int 0, .int 0, .int 0, .int 0, .int 0, .int 0, .int 0, .int 0])), ((a 7), .inr (5, [.int 0, .int 24, .int 32, .ref (a 17), .ref (a 18), .int 0])), ((a 8), .inr (10, [.ref (a 9), .ref (a 21), .int 0, .int 0, .ref (a 22), .int 0, .int 0, .int 0])), ((a 9), .inr (5, [.int 0, .int 8, .int 60, .ref (a 19), .ref (a 20), .int 0]))] s.heap := hP
  have hl := lv_entry ([.ref (a 0), .int 8]) (n := 4) (Nat.le_of_ble_eq_true rfl)
  rw [lg_entry_eq]
  generalize (lg_sl ([.ref (a 0), .int 8]) ++ List.replicate (4 - (lg_sl ([.ref (a 0), .int 8])).length) Slot.unset).toArray = ls at hl ⊢
  have hl : lv_has ls 4 [(0, .ref (a 0)), (1, .int 8)] := hl
  refine lv_aload_n hx hb dX11_linkFact_0 rfl (lv_at hl 0 rfl) ?_
  refine va_get (D := D) (ci := 1) (v := .ref (a 6)) (C := RX1) (T := TX1) (N := 9) hx hb hts hi_X1 hown hK hP 0 rfl rfl 3 (by decide) (hts (.fieldLink RX11 92 "BeamHouse$Device" "link" "LBeamHouse$Link;") (List.mem_of_getElem? (i := 1) rfl)) (fun _ h9 => h9) rfl dX11_linkFact_1 ?_
  refine lv_astore_n (lv' := [(2, .ref (a 6)), (0, .ref (a 0)), (1, .int 8)]) hx hb dX11_linkFact_4 rfl hl (by decide) rfl (fun ls hl => ?_)
  refine lv_aload_n hx hb dX11_linkFact_5 rfl (lv_at hl 1 rfl) ?_
  refine kGo_i (wr := [((a 6), .inr (3, [.ref (a 7), .int 0, .int 0, .int 0, .int 0, .int 0, .int 0, .int 0, .int 0, .int 0, .int 0, .int 0, .int 0, .int 0])), ((a 7), .inr (5, [.int 0, .int 24, .int 32, .ref (a 17), .ref (a 18), .int 0])), ((a 8), .inr (10, [.ref (a 9), .ref (a 21), .int 0, .int 0, .ref (a 22), .int 0, .int 0, .int 0])), ((a 9), .inr (5, [.int 0, .int 8, .int 60, .ref (a 19), .ref (a 20), .int 0]))]) (kRunV (As := []) (rest := []) ⟨hx, hb, hml, hown, hts⟩ (c_isLinked l D ca _ a k) (cwV 0 hts g_c_linkFact_8_c_isLinked_177 rfl rfl rfl (by decide +kernel) ⟨Nat.le_of_ble_eq_true rfl, Nat.le_of_ble_eq_true rfl⟩) hK hN hP hD [0] rfl rfl rfl rfl rfl rfl hl.1 rfl (Nat.le_of_ble_eq_true rfl) dX11_linkFact_6 ⟨Nat.le_of_ble_eq_true rfl, Nat.le_of_ble_eq_true rfl⟩) hP hD hS hA [0] [1, 2, 3, 4] rfl rfl rfl (by decide) (fun r_1 uu_ tt H locs hr_1 hB hj hS => ?_)
  have hWd := hB
  obtain ⟨hP, hD⟩ := hj _ hWd
  have hP : va_P D vwCl [((a 6), .inr (3, [.ref (a 7), .int 0, .int 0, .int 0, .int 0, .int 0, .int 0, .int 0, .int 0, .int 0, .int 0, .int 0, .int 0, .int 0])), ((a 7), .inr (5, [.int 0, .int 24, .int 32, .ref (a 17), .ref (a 18), .int 0])), ((a 8), .inr (10, [.ref (a 9), .ref (a 21), .int 0, .int 0, .ref (a 22), .int 0, .int 0, .int 0])), ((a 9), .inr (5, [.int 0, .int 8, .int 60, .ref (a 19), .ref (a 20), .int 0])), ((a 0), .inr (1, [.ref (a 1), .ref (a 4), .ref (a 5), .ref (a 6), .ref (a 8), .ref (a 10), .int 0, .int (nI (k + 1)), .int (nI k)]))] H := hP
  have hD : va_D A [((a 6), .inr (3, [.ref (a 7), .int 0, .int 0, .int 0, .int 0, .int 0, .int 0, .int 0, .int 0, .int 0, .int 0, .int 0, .int 0, .int 0])), ((a 7), .inr (5, [.int 0, .int 24, .int 32, .ref (a 17), .ref (a 18), .int 0])), ((a 8), .inr (10, [.ref (a 9), .ref (a 21), .int 0, .int 0, .ref (a 22), .int 0, .int 0, .int 0])), ((a 9), .inr (5, [.int 0, .int 8, .int 60, .ref (a 19), .ref (a 20), .int 0])), ((a 0), .inr (1, [.ref (a 1), .ref (a 4), .ref (a 5), .ref (a 6), .ref (a 8), .ref (a 10), .int 0, .int (nI (k + 1)), .int (nI k)]))] := hD
  subst hr_1
  refine lv_istore_n (lv' := [(3, .int 0), (2, .ref (a 6)), (0, .ref (a 0)), (1, .int 8)]) hx hb dX11_linkFact_9 rfl hl (by decide) rfl (fun ls hl => ?_)
  refine lv_iload_n hx hb dX11_linkFact_10 rfl (lv_at hl 3 rfl) ?_
  refine lv_tableIn (tgt := 133) (off := 122) hx hb dX11_linkFact_11 (by decide) (by decide) rfl (by decide) ?_
  refine lv_iload_n hx hb dX11_linkFact_133 rfl (lv_at hl 0 rfl) ?_
  refine lv_if_eq (tgt := 147) hx hb dX11_linkFact_134 (by decide) (fun _ => ?_) (fun h => absurd (by decide) h)
  refine lv_iconst (v := 0) hx hb dX11_linkFact_147 (by decide) ?_
  exact W.iret (v := 0) hx hb hr (fun tt ht hW => ⟨⟨0, (), rfl, rfl, ⟨by rw [ht]; exact hP.sub [] rfl, hD.sub [] rfl rfl⟩⟩, hS.F ht⟩) hS.2.2 dX11_linkFact_148
def w_c_linkFact_9 : List Cond := .code yX11_linkFact cX11_linkFact 4 (some .int) :: (([.fieldLink RX11 92 "BeamHouse$Device" "link" "LBeamHouse$Link;", .code yX1_isLinked cX1_isLinked 1 (some .boolean), .fieldLink RX1 60 "BeamHouse$Device" "state" "I", .methodLink RX11 177 yX1_isLinked, .instanceMethod yX1_isLinked, .selects RX1 yX1_isLinked yX1_isLinked, .initialized RX1, .fieldLink RX11 198 "BeamHouse$Device" "up" "LBeamHouse$Up;", .fieldLink RX11 210 "BeamHouse$Up" "owed" "I"] : List Cond) ++ wsX10 ++ wsX100)
theorem g_c_linkFact_9_c_isLinked_177 : GoodIn w_c_linkFact_9 (wsV RX11 177 RX1 yX1_isLinked w_c_isLinked) := (goodIn_app (goodIn_r _ [4, 5, 6, 7] rfl rfl) (goodIn_ca (goodIn_r _ [2, 3] rfl rfl) (goodIn_sub (fun _ h => List.mem_cons_of_mem _ (List.mem_append_left _ (List.mem_append_right _ h))) gw_X1)))
set_option maxHeartbeats 4000000 in
set_option maxRecDepth 100000 in
theorem c_linkFact_9 (l : Launch) (D : va_G) (ca : Nat → ClassId) (sz : Nat) (a : Nat → Nat) (k : Nat)  : Met l yX11_linkFact w_c_linkFact_9 ({ frames := 1, cells := 0, slots := 0, locals := 20 }) (Pre D ca [.ref (a 0), .int 9] [((a 0), .inr (1, [.ref (a 1), .ref (a 4), .ref (a 5), .ref (a 6), .ref (a 8), .ref (a 10), .int 0, .int (nI (k + 1)), .int (nI k)])), ((a 6), .inr (3, [.ref (a 7), .int 0, .int 0, .int 0, .int 0, .int 0, .int 0, .int 0, .int 0, .int 0, .int 0, .int 0, .int 0, .int 0])), ((a 7), .inr (5, [.int 0, .int 24, .int 32, .ref (a 17), .ref (a 18), .int 0])), ((a 8), .inr (10, [.ref (a 9), .ref (a 21), .int 0, .int 0, .ref (a 22), .int 0, .int 0, .int 0])), ((a 9), .inr (5, [.int 0, .int 8, .int 60, .ref (a 19), .ref (a 20), .int 0]))] sz) (va_Qi (fun (r : Int32) (_ : Unit) => r = 0) (fun (_ : Unit) (tt : State) => Wd D (va_A [((a 0), .inr (1, [.ref (a 1), .ref (a 4), .ref (a 5), .ref (a 6), .ref (a 8), .ref (a 10), .int 0, .int (nI (k + 1)), .int (nI k)])), ((a 6), .inr (3, [.ref (a 7), .int 0, .int 0, .int 0, .int 0, .int 0, .int 0, .int 0, .int 0, .int 0, .int 0, .int 0, .int 0, .int 0])), ((a 7), .inr (5, [.int 0, .int 24, .int 32, .ref (a 17), .ref (a 18), .int 0])), ((a 8), .inr (10, [.ref (a 9), .ref (a 21), .int 0, .int 0, .ref (a 22), .int 0, .int 0, .int 0])), ((a 9), .inr (5, [.int 0, .int 8, .int 60, .ref (a 19), .ref (a 20), .int 0]))] sz) [] tt) (va_A [((a 0), .inr (1, [.ref (a 1), .ref (a 4), .ref (a 5), .ref (a 6), .ref (a 8), .ref (a 10), .int 0, .int (nI (k + 1)), .int (nI k)])), ((a 6), .inr (3, [.ref (a 7), .int 0, .int 0, .int 0, .int 0, .int 0, .int 0, .int 0, .int 0, .int 0, .int 0, .int 0, .int 0, .int 0])), ((a 7), .inr (5, [.int 0, .int 24, .int 32, .ref (a 17), .ref (a 18), .int 0])), ((a 8), .inr (10, [.ref (a 9), .ref (a 21), .int 0, .int 0, .ref (a 22), .int 0, .int 0, .int 0])), ((a 9), .inr (5, [.int 0, .int 8, .int 60, .ref (a 19), .ref (a 20), .int 0]))] sz)) 0 0 (va_A [((a 0), .inr (1, [.ref (a 1), .ref (a 4), .ref (a 5), .ref (a 6), .ref (a 8), .ref (a 10), .int 0, .int (nI (k + 1)), .int (nI k)])), ((a 6), .inr (3, [.ref (a 7), .int 0, .int 0, .int 0, .int 0, .int 0, .int 0, .int 0, .int 0, .int 0, .int 0, .int 0, .int 0, .int 0])), ((a 7), .inr (5, [.int 0, .int 24, .int 32, .ref (a 17), .ref (a 18), .int 0])), ((a 8), .inr (10, [.ref (a 9), .ref (a 21), .int 0, .int 0, .ref (a 22), .int 0, .int 0, .int 0])), ((a 9), .inr (5, [.int 0, .int 8, .int 60, .ref (a 19), .ref (a 20), .int 0]))] sz) := by
  refine Met.ofW (cc := cX11_linkFact) (maxL := 4) (ret := (some .int)) (by decide) rfl ?_
  intro p e s m args below meth c s₁ B hml hv
  obtain ⟨rfl, hsz, hP, hK, hD0, hN⟩ := hv
  have hx := B.exec
  have hb := B.bytes
  have hr := B.returns
  have hts := atoms_spec (ws := w_c_linkFact_9) B.pre
  have hown : s.vm.findClass RX11 = some m.cls := findClass_of_methodNamed B.named
  have hlocks := B.notSynchronized
  have hi_X1 : ∀ w ∈ wsX10, w ∈ w_c_linkFact_9 := fun _ h => List.mem_cons_of_mem _ (List.mem_append_left _ (List.mem_append_right _ h))
  have hi_X10 : ∀ w ∈ wsX100, w ∈ w_c_linkFact_9 := fun _ h => List.mem_cons_of_mem _ (List.mem_append_right _ h)
  subst hsz
  have hD := hD0.self (sz := s.heap.size)
  generalize hAe : va_A [((a 0), .inr (1, [.ref (a 1), .ref (a 4), .ref (a 5), .ref (a 6), .ref (a 8), .ref (a 10), .int 0, .int (nI (k + 1)), .int (nI k)])), ((a 6), .inr (3, [.ref (a 7), .int 0, .int 0, .int 0, .int 0, .int 0, .int 0, .int 0, .int 0, .int 0, .int 0, .int 0, .int 0, .int 0])), ((a 7), .inr (5, [.int 0, .int 24, .int 32, .ref (a 17), .ref (a 18), .int 0])), ((a 8), .inr (10, [.ref (a 9), .ref (a 21), .int 0, .int 0, .ref (a 22), .int 0, .int 0, .int 0])), ((a 9), .inr (5, [.int 0, .int 8, .int 60, .ref (a 19), .ref (a 20), .int 0]))] s.heap.size = A at hD ⊢
  have hA : ∀ q : Nat, s.heap.size ≤ q → A q := fun q h => by rw [← hAe]; exact Or.inr h
  have hS : va_S A s.heap s.heap [] := va_S.rf
  have hP : va_P D vwCl [((a 0), .inr (1, [.ref (a 1), .ref (a 4), .ref (a 5), .ref (a 6), .ref (a 8), .ref (a 10), .int 0, .int (nI (k + 1)), .int (nI k)])), ((a 6), .inr (3, [.ref (a 7), .int 0, .int 0, .int 0, .int 0, .int 0, .int 0, .int 0, .int 0, .int 0, .int 0, .int 0, .int 0, .int 0])), ((a 7), .inr (5, [.int 0, .int 24, .int 32, .ref (a 17), .ref (a 18), .int 0])), ((a 8), .inr (10, [.ref (a 9), .ref (a 21), .int 0, .int 0, .ref (a 22), .int 0, .int 0, .int 0])), ((a 9), .inr (5, [.int 0, .int 8, .int 60, .ref (a 19), .ref (a 20), .int 0]))] s.heap := hP
  have hl := lv_entry ([.ref (a 0), .int 9]) (n := 4) (Nat.le_of_ble_eq_true rfl)
  rw [lg_entry_eq]
  generalize (lg_sl ([.ref (a 0), .int 9]) ++ List.replicate (4 - (lg_sl ([.ref (a 0), .int 9])).length) Slot.unset).toArray = ls at hl ⊢
  have hl : lv_has ls 4 [(0, .ref (a 0)), (1, .int 9)] := hl
  refine lv_aload_n hx hb dX11_linkFact_0 rfl (lv_at hl 0 rfl) ?_
  refine va_get (D := D) (ci := 1) (v := .ref (a 6)) (C := RX1) (T := TX1) (N := 9) hx hb hts hi_X1 hown hK hP 0 rfl rfl 3 (by decide) (hts (.fieldLink RX11 92 "BeamHouse$Device" "link" "LBeamHouse$Link;") (List.mem_of_getElem? (i := 1) rfl)) (fun _ h9 => h9) rfl dX11_linkFact_1 ?_
  refine lv_astore_n (lv' := [(2, .ref (a 6)), (0, .ref (a 0)), (1, .int 9)]) hx hb dX11_linkFact_4 rfl hl (by decide) rfl (fun ls hl => ?_)
  refine lv_aload_n hx hb dX11_linkFact_5 rfl (lv_at hl 1 rfl) ?_
  refine kGo_i (wr := [((a 6), .inr (3, [.ref (a 7), .int 0, .int 0, .int 0, .int 0, .int 0, .int 0, .int 0, .int 0, .int 0, .int 0, .int 0, .int 0, .int 0])), ((a 7), .inr (5, [.int 0, .int 24, .int 32, .ref (a 17), .ref (a 18), .int 0])), ((a 8), .inr (10, [.ref (a 9), .ref (a 21), .int 0, .int 0, .ref (a 22), .int 0, .int 0, .int 0])), ((a 9), .inr (5, [.int 0, .int 8, .int 60, .ref (a 19), .ref (a 20), .int 0]))]) (kRunV (As := []) (rest := []) ⟨hx, hb, hml, hown, hts⟩ (c_isLinked l D ca _ a k) (cwV 0 hts g_c_linkFact_9_c_isLinked_177 rfl rfl rfl (by decide +kernel) ⟨Nat.le_of_ble_eq_true rfl, Nat.le_of_ble_eq_true rfl⟩) hK hN hP hD [0] rfl rfl rfl rfl rfl rfl hl.1 rfl (Nat.le_of_ble_eq_true rfl) dX11_linkFact_6 ⟨Nat.le_of_ble_eq_true rfl, Nat.le_of_ble_eq_true rfl⟩) hP hD hS hA [0] [1, 2, 3, 4] rfl rfl rfl (by decide) (fun r_1 uu_ tt H locs hr_1 hB hj hS => ?_)
  have hWd := hB
  obtain ⟨hP, hD⟩ := hj _ hWd
  have hP : va_P D vwCl [((a 6), .inr (3, [.ref (a 7), .int 0, .int 0, .int 0, .int 0, .int 0, .int 0, .int 0, .int 0, .int 0, .int 0, .int 0, .int 0, .int 0])), ((a 7), .inr (5, [.int 0, .int 24, .int 32, .ref (a 17), .ref (a 18), .int 0])), ((a 8), .inr (10, [.ref (a 9), .ref (a 21), .int 0, .int 0, .ref (a 22), .int 0, .int 0, .int 0])), ((a 9), .inr (5, [.int 0, .int 8, .int 60, .ref (a 19), .ref (a 20), .int 0])), ((a 0), .inr (1, [.ref (a 1), .ref (a 4), .ref (a 5), .ref (a 6), .ref (a 8), .ref (a 10), .int 0, .int (nI (k + 1)), .int (nI k)]))] H := hP
  have hD : va_D A [((a 6), .inr (3, [.ref (a 7), .int 0, .int 0, .int 0, .int 0, .int 0, .int 0, .int 0, .int 0, .int 0, .int 0, .int 0, .int 0, .int 0])), ((a 7), .inr (5, [.int 0, .int 24, .int 32, .ref (a 17), .ref (a 18), .int 0])), ((a 8), .inr (10, [.ref (a 9), .ref (a 21), .int 0, .int 0, .ref (a 22), .int 0, .int 0, .int 0])), ((a 9), .inr (5, [.int 0, .int 8, .int 60, .ref (a 19), .ref (a 20), .int 0])), ((a 0), .inr (1, [.ref (a 1), .ref (a 4), .ref (a 5), .ref (a 6), .ref (a 8), .ref (a 10), .int 0, .int (nI (k + 1)), .int (nI k)]))] := hD
  subst hr_1
  refine lv_istore_n (lv' := [(3, .int 0), (2, .ref (a 6)), (0, .ref (a 0)), (1, .int 9)]) hx hb dX11_linkFact_9 rfl hl (by decide) rfl (fun ls hl => ?_)
  refine lv_iload_n hx hb dX11_linkFact_10 rfl (lv_at hl 3 rfl) ?_
  refine lv_tableOut (tgt := 149) hx hb dX11_linkFact_11 (by decide) (by decide) ?_
  refine lv_aload_n hx hb dX11_linkFact_149 rfl (lv_at hl 2 rfl) ?_
  refine va_get (D := D) (ci := 1) (v := .ref (a 8)) (C := RX1) (T := TX1) (N := 9) hx hb hts hi_X1 hown hK hP 4 rfl rfl 4 (by decide) (hts (.fieldLink RX11 198 "BeamHouse$Device" "up" "LBeamHouse$Up;") (List.mem_of_getElem? (i := 8) rfl)) (fun _ h9 => h9) rfl dX11_linkFact_150 ?_
  refine va_get (D := D) (ci := 10) (v := .int 0) (C := RX10) (T := TX10) (N := 8) hx hb hts hi_X10 hown hK hP 2 rfl rfl 3 (by decide) (hts (.fieldLink RX11 210 "BeamHouse$Up" "owed" "I") (List.mem_of_getElem? (i := 9) rfl)) (fun _ h9 => h9) rfl dX11_linkFact_153 ?_
  exact W.iret (v := 0) hx hb hr (fun tt ht hW => ⟨⟨0, (), rfl, rfl, ⟨by rw [ht]; exact hP.sub [] rfl, hD.sub [] rfl rfl⟩⟩, hS.F ht⟩) hS.2.2 dX11_linkFact_156
def w_c_deviceFact_10 : List Cond := .code yX11_deviceFact cX11_deviceFact 2 (some .int) :: (([.fieldLink RX11 43 "BeamHouse$Device" "air" "LBeamHouse$Air;", .fieldLink RX11 57 "BeamHouse$Air" "length" "I"] : List Cond) ++ wsX10 ++ wsX00)
set_option maxHeartbeats 4000000 in
set_option maxRecDepth 100000 in
theorem c_deviceFact_10 (l : Launch) (D : va_G) (ca : Nat → ClassId) (sz : Nat) (a : Nat → Nat) (k : Nat)  : Met l yX11_deviceFact w_c_deviceFact_10 ({ frames := 0, cells := 0, slots := 0, locals := 0 }) (Pre D ca [.ref (a 0), .int 10] [((a 0), .inr (1, [.ref (a 1), .ref (a 4), .ref (a 5), .ref (a 6), .ref (a 8), .ref (a 10), .int 0, .int (nI (k + 1)), .int (nI k)])), ((a 1), .inr (0, [.ref (a 2), .int 0, .ref (a 3), .int 0])), ((a 4), .inr (2, [.ref (a 15), .int 0, .int 0, .int 0, .int 0, .int 0])), ((a 10), .inr (4, [.ref (a 11), .ref (a 23), .int 0, .ref (a 24), .int 0, .int 0, .int 0, .ref (a 25), .int 0, .ref (a 26), .int 0, .int 0])), ((a 11), .inr (8, [.int 0, .ref (a 12)])), ((a 6), .inr (3, [.ref (a 7), .int 0, .int 0, .int 0, .int 0, .int 0, .int 0, .int 0, .int 0, .int 0, .int 0, .int 0, .int 0, .int 0])), ((a 5), .inr (7, [.ref (a 16), .int 0, .int 0, .int 0, .int 0, .int 0, .int 0]))] sz) (va_Qi (fun (r : Int32) (_ : Unit) => r = 0) (fun (_ : Unit) (tt : State) => Wd D (va_A [((a 0), .inr (1, [.ref (a 1), .ref (a 4), .ref (a 5), .ref (a 6), .ref (a 8), .ref (a 10), .int 0, .int (nI (k + 1)), .int (nI k)])), ((a 1), .inr (0, [.ref (a 2), .int 0, .ref (a 3), .int 0])), ((a 4), .inr (2, [.ref (a 15), .int 0, .int 0, .int 0, .int 0, .int 0])), ((a 10), .inr (4, [.ref (a 11), .ref (a 23), .int 0, .ref (a 24), .int 0, .int 0, .int 0, .ref (a 25), .int 0, .ref (a 26), .int 0, .int 0])), ((a 11), .inr (8, [.int 0, .ref (a 12)])), ((a 6), .inr (3, [.ref (a 7), .int 0, .int 0, .int 0, .int 0, .int 0, .int 0, .int 0, .int 0, .int 0, .int 0, .int 0, .int 0, .int 0])), ((a 5), .inr (7, [.ref (a 16), .int 0, .int 0, .int 0, .int 0, .int 0, .int 0]))] sz) [] tt) (va_A [((a 0), .inr (1, [.ref (a 1), .ref (a 4), .ref (a 5), .ref (a 6), .ref (a 8), .ref (a 10), .int 0, .int (nI (k + 1)), .int (nI k)])), ((a 1), .inr (0, [.ref (a 2), .int 0, .ref (a 3), .int 0])), ((a 4), .inr (2, [.ref (a 15), .int 0, .int 0, .int 0, .int 0, .int 0])), ((a 10), .inr (4, [.ref (a 11), .ref (a 23), .int 0, .ref (a 24), .int 0, .int 0, .int 0, .ref (a 25), .int 0, .ref (a 26), .int 0, .int 0])), ((a 11), .inr (8, [.int 0, .ref (a 12)])), ((a 6), .inr (3, [.ref (a 7), .int 0, .int 0, .int 0, .int 0, .int 0, .int 0, .int 0, .int 0, .int 0, .int 0, .int 0, .int 0, .int 0])), ((a 5), .inr (7, [.ref (a 16), .int 0, .int 0, .int 0, .int 0, .int 0, .int 0]))] sz)) 0 0 (va_A [((a 0), .inr (1, [.ref (a 1), .ref (a 4), .ref (a 5), .ref (a 6), .ref (a 8), .ref (a 10), .int 0, .int (nI (k + 1)), .int (nI k)])), ((a 1), .inr (0, [.ref (a 2), .int 0, .ref (a 3), .int 0])), ((a 4), .inr (2, [.ref (a 15), .int 0, .int 0, .int 0, .int 0, .int 0])), ((a 10), .inr (4, [.ref (a 11), .ref (a 23), .int 0, .ref (a 24), .int 0, .int 0, .int 0, .ref (a 25), .int 0, .ref (a 26), .int 0, .int 0])), ((a 11), .inr (8, [.int 0, .ref (a 12)])), ((a 6), .inr (3, [.ref (a 7), .int 0, .int 0, .int 0, .int 0, .int 0, .int 0, .int 0, .int 0, .int 0, .int 0, .int 0, .int 0, .int 0])), ((a 5), .inr (7, [.ref (a 16), .int 0, .int 0, .int 0, .int 0, .int 0, .int 0]))] sz) := by
  refine Met.ofW (cc := cX11_deviceFact) (maxL := 2) (ret := (some .int)) (by decide) rfl ?_
  intro p e s m args below meth c s₁ B hml hv
  obtain ⟨rfl, hsz, hP, hK, hD0, hN⟩ := hv
  have hx := B.exec
  have hb := B.bytes
  have hr := B.returns
  have hts := atoms_spec (ws := w_c_deviceFact_10) B.pre
  have hown : s.vm.findClass RX11 = some m.cls := findClass_of_methodNamed B.named
  have hlocks := B.notSynchronized
  have hi_X1 : ∀ w ∈ wsX10, w ∈ w_c_deviceFact_10 := fun _ h => List.mem_cons_of_mem _ (List.mem_append_left _ (List.mem_append_right _ h))
  have hi_X0 : ∀ w ∈ wsX00, w ∈ w_c_deviceFact_10 := fun _ h => List.mem_cons_of_mem _ (List.mem_append_right _ h)
  subst hsz
  have hD := hD0.self (sz := s.heap.size)
  generalize hAe : va_A [((a 0), .inr (1, [.ref (a 1), .ref (a 4), .ref (a 5), .ref (a 6), .ref (a 8), .ref (a 10), .int 0, .int (nI (k + 1)), .int (nI k)])), ((a 1), .inr (0, [.ref (a 2), .int 0, .ref (a 3), .int 0])), ((a 4), .inr (2, [.ref (a 15), .int 0, .int 0, .int 0, .int 0, .int 0])), ((a 10), .inr (4, [.ref (a 11), .ref (a 23), .int 0, .ref (a 24), .int 0, .int 0, .int 0, .ref (a 25), .int 0, .ref (a 26), .int 0, .int 0])), ((a 11), .inr (8, [.int 0, .ref (a 12)])), ((a 6), .inr (3, [.ref (a 7), .int 0, .int 0, .int 0, .int 0, .int 0, .int 0, .int 0, .int 0, .int 0, .int 0, .int 0, .int 0, .int 0])), ((a 5), .inr (7, [.ref (a 16), .int 0, .int 0, .int 0, .int 0, .int 0, .int 0]))] s.heap.size = A at hD ⊢
  have hA : ∀ q : Nat, s.heap.size ≤ q → A q := fun q h => by rw [← hAe]; exact Or.inr h
  have hS : va_S A s.heap s.heap [] := va_S.rf
  have hP : va_P D vwCl [((a 0), .inr (1, [.ref (a 1), .ref (a 4), .ref (a 5), .ref (a 6), .ref (a 8), .ref (a 10), .int 0, .int (nI (k + 1)), .int (nI k)])), ((a 1), .inr (0, [.ref (a 2), .int 0, .ref (a 3), .int 0])), ((a 4), .inr (2, [.ref (a 15), .int 0, .int 0, .int 0, .int 0, .int 0])), ((a 10), .inr (4, [.ref (a 11), .ref (a 23), .int 0, .ref (a 24), .int 0, .int 0, .int 0, .ref (a 25), .int 0, .ref (a 26), .int 0, .int 0])), ((a 11), .inr (8, [.int 0, .ref (a 12)])), ((a 6), .inr (3, [.ref (a 7), .int 0, .int 0, .int 0, .int 0, .int 0, .int 0, .int 0, .int 0, .int 0, .int 0, .int 0, .int 0, .int 0])), ((a 5), .inr (7, [.ref (a 16), .int 0, .int 0, .int 0, .int 0, .int 0, .int 0]))] s.heap := hP
  have hl := lv_entry ([.ref (a 0), .int 10]) (n := 2) (Nat.le_of_ble_eq_true rfl)
  rw [lg_entry_eq]
  generalize (lg_sl ([.ref (a 0), .int 10]) ++ List.replicate (2 - (lg_sl ([.ref (a 0), .int 10])).length) Slot.unset).toArray = ls at hl ⊢
  have hl : lv_has ls 2 [(0, .ref (a 0)), (1, .int 10)] := hl
  refine lv_iload_n hx hb dX11_deviceFact_0 rfl (lv_at hl 1 rfl) ?_
  refine lv_tableIn (tgt := 40) (off := 39) hx hb dX11_deviceFact_1 (by decide) (by decide) rfl (by decide) ?_
  refine lv_aload_n hx hb dX11_deviceFact_40 rfl (lv_at hl 0 rfl) ?_
  refine va_get (D := D) (ci := 1) (v := .ref (a 1)) (C := RX1) (T := TX1) (N := 9) hx hb hts hi_X1 hown hK hP 0 rfl rfl 0 (by decide) (hts (.fieldLink RX11 43 "BeamHouse$Device" "air" "LBeamHouse$Air;") (List.mem_of_getElem? (i := 1) rfl)) (fun _ h9 => h9) rfl dX11_deviceFact_41 ?_
  refine va_get (D := D) (ci := 0) (v := .int 0) (C := RX0) (T := TX0) (N := 4) hx hb hts hi_X0 hown hK hP 1 rfl rfl 1 (by decide) (hts (.fieldLink RX11 57 "BeamHouse$Air" "length" "I") (List.mem_of_getElem? (i := 2) rfl)) (fun _ h9 => h9) rfl dX11_deviceFact_44 ?_
  exact W.iret (v := 0) hx hb hr (fun tt ht hW => ⟨⟨0, (), rfl, rfl, ⟨by rw [ht]; exact hP.sub [] rfl, hD.sub [] rfl rfl⟩⟩, hS.F ht⟩) hS.2.2 dX11_deviceFact_47
def w_c_deviceFact_11 : List Cond := .code yX11_deviceFact cX11_deviceFact 2 (some .int) :: (([.fieldLink RX11 213 "BeamHouse$Device" "ear" "LBeamHouse$Ear;", .fieldLink RX11 217 "BeamHouse$Ear" "frames" "I"] : List Cond) ++ wsX10 ++ wsX20)
set_option maxHeartbeats 4000000 in
set_option maxRecDepth 100000 in
theorem c_deviceFact_11 (l : Launch) (D : va_G) (ca : Nat → ClassId) (sz : Nat) (a : Nat → Nat) (k : Nat)  : Met l yX11_deviceFact w_c_deviceFact_11 ({ frames := 0, cells := 0, slots := 0, locals := 0 }) (Pre D ca [.ref (a 0), .int 11] [((a 0), .inr (1, [.ref (a 1), .ref (a 4), .ref (a 5), .ref (a 6), .ref (a 8), .ref (a 10), .int 0, .int (nI (k + 1)), .int (nI k)])), ((a 1), .inr (0, [.ref (a 2), .int 0, .ref (a 3), .int 0])), ((a 4), .inr (2, [.ref (a 15), .int 0, .int 0, .int 0, .int 0, .int 0])), ((a 10), .inr (4, [.ref (a 11), .ref (a 23), .int 0, .ref (a 24), .int 0, .int 0, .int 0, .ref (a 25), .int 0, .ref (a 26), .int 0, .int 0])), ((a 11), .inr (8, [.int 0, .ref (a 12)])), ((a 6), .inr (3, [.ref (a 7), .int 0, .int 0, .int 0, .int 0, .int 0, .int 0, .int 0, .int 0, .int 0, .int 0, .int 0, .int 0, .int 0])), ((a 5), .inr (7, [.ref (a 16), .int 0, .int 0, .int 0, .int 0, .int 0, .int 0]))] sz) (va_Qi (fun (r : Int32) (_ : Unit) => r = 0) (fun (_ : Unit) (tt : State) => Wd D (va_A [((a 0), .inr (1, [.ref (a 1), .ref (a 4), .ref (a 5), .ref (a 6), .ref (a 8), .ref (a 10), .int 0, .int (nI (k + 1)), .int (nI k)])), ((a 1), .inr (0, [.ref (a 2), .int 0, .ref (a 3), .int 0])), ((a 4), .inr (2, [.ref (a 15), .int 0, .int 0, .int 0, .int 0, .int 0])), ((a 10), .inr (4, [.ref (a 11), .ref (a 23), .int 0, .ref (a 24), .int 0, .int 0, .int 0, .ref (a 25), .int 0, .ref (a 26), .int 0, .int 0])), ((a 11), .inr (8, [.int 0, .ref (a 12)])), ((a 6), .inr (3, [.ref (a 7), .int 0, .int 0, .int 0, .int 0, .int 0, .int 0, .int 0, .int 0, .int 0, .int 0, .int 0, .int 0, .int 0])), ((a 5), .inr (7, [.ref (a 16), .int 0, .int 0, .int 0, .int 0, .int 0, .int 0]))] sz) [] tt) (va_A [((a 0), .inr (1, [.ref (a 1), .ref (a 4), .ref (a 5), .ref (a 6), .ref (a 8), .ref (a 10), .int 0, .int (nI (k + 1)), .int (nI k)])), ((a 1), .inr (0, [.ref (a 2), .int 0, .ref (a 3), .int 0])), ((a 4), .inr (2, [.ref (a 15), .int 0, .int 0, .int 0, .int 0, .int 0])), ((a 10), .inr (4, [.ref (a 11), .ref (a 23), .int 0, .ref (a 24), .int 0, .int 0, .int 0, .ref (a 25), .int 0, .ref (a 26), .int 0, .int 0])), ((a 11), .inr (8, [.int 0, .ref (a 12)])), ((a 6), .inr (3, [.ref (a 7), .int 0, .int 0, .int 0, .int 0, .int 0, .int 0, .int 0, .int 0, .int 0, .int 0, .int 0, .int 0, .int 0])), ((a 5), .inr (7, [.ref (a 16), .int 0, .int 0, .int 0, .int 0, .int 0, .int 0]))] sz)) 0 0 (va_A [((a 0), .inr (1, [.ref (a 1), .ref (a 4), .ref (a 5), .ref (a 6), .ref (a 8), .ref (a 10), .int 0, .int (nI (k + 1)), .int (nI k)])), ((a 1), .inr (0, [.ref (a 2), .int 0, .ref (a 3), .int 0])), ((a 4), .inr (2, [.ref (a 15), .int 0, .int 0, .int 0, .int 0, .int 0])), ((a 10), .inr (4, [.ref (a 11), .ref (a 23), .int 0, .ref (a 24), .int 0, .int 0, .int 0, .ref (a 25), .int 0, .ref (a 26), .int 0, .int 0])), ((a 11), .inr (8, [.int 0, .ref (a 12)])), ((a 6), .inr (3, [.ref (a 7), .int 0, .int 0, .int 0, .int 0, .int 0, .int 0, .int 0, .int 0, .int 0, .int 0, .int 0, .int 0, .int 0])), ((a 5), .inr (7, [.ref (a 16), .int 0, .int 0, .int 0, .int 0, .int 0, .int 0]))] sz) := by
  refine Met.ofW (cc := cX11_deviceFact) (maxL := 2) (ret := (some .int)) (by decide) rfl ?_
  intro p e s m args below meth c s₁ B hml hv
  obtain ⟨rfl, hsz, hP, hK, hD0, hN⟩ := hv
  have hx := B.exec
  have hb := B.bytes
  have hr := B.returns
  have hts := atoms_spec (ws := w_c_deviceFact_11) B.pre
  have hown : s.vm.findClass RX11 = some m.cls := findClass_of_methodNamed B.named
  have hlocks := B.notSynchronized
  have hi_X1 : ∀ w ∈ wsX10, w ∈ w_c_deviceFact_11 := fun _ h => List.mem_cons_of_mem _ (List.mem_append_left _ (List.mem_append_right _ h))
  have hi_X2 : ∀ w ∈ wsX20, w ∈ w_c_deviceFact_11 := fun _ h => List.mem_cons_of_mem _ (List.mem_append_right _ h)
  subst hsz
  have hD := hD0.self (sz := s.heap.size)
  generalize hAe : va_A [((a 0), .inr (1, [.ref (a 1), .ref (a 4), .ref (a 5), .ref (a 6), .ref (a 8), .ref (a 10), .int 0, .int (nI (k + 1)), .int (nI k)])), ((a 1), .inr (0, [.ref (a 2), .int 0, .ref (a 3), .int 0])), ((a 4), .inr (2, [.ref (a 15), .int 0, .int 0, .int 0, .int 0, .int 0])), ((a 10), .inr (4, [.ref (a 11), .ref (a 23), .int 0, .ref (a 24), .int 0, .int 0, .int 0, .ref (a 25), .int 0, .ref (a 26), .int 0, .int 0])), ((a 11), .inr (8, [.int 0, .ref (a 12)])), ((a 6), .inr (3, [.ref (a 7), .int 0, .int 0, .int 0, .int 0, .int 0, .int 0, .int 0, .int 0, .int 0, .int 0, .int 0, .int 0, .int 0])), ((a 5), .inr (7, [.ref (a 16), .int 0, .int 0, .int 0, .int 0, .int 0, .int 0]))] s.heap.size = A at hD ⊢
  have hA : ∀ q : Nat, s.heap.size ≤ q → A q := fun q h => by rw [← hAe]; exact Or.inr h
  have hS : va_S A s.heap s.heap [] := va_S.rf
  have hP : va_P D vwCl [((a 0), .inr (1, [.ref (a 1), .ref (a 4), .ref (a 5), .ref (a 6), .ref (a 8), .ref (a 10), .int 0, .int (nI (k + 1)), .int (nI k)])), ((a 1), .inr (0, [.ref (a 2), .int 0, .ref (a 3), .int 0])), ((a 4), .inr (2, [.ref (a 15), .int 0, .int 0, .int 0, .int 0, .int 0])), ((a 10), .inr (4, [.ref (a 11), .ref (a 23), .int 0, .ref (a 24), .int 0, .int 0, .int 0, .ref (a 25), .int 0, .ref (a 26), .int 0, .int 0])), ((a 11), .inr (8, [.int 0, .ref (a 12)])), ((a 6), .inr (3, [.ref (a 7), .int 0, .int 0, .int 0, .int 0, .int 0, .int 0, .int 0, .int 0, .int 0, .int 0, .int 0, .int 0, .int 0])), ((a 5), .inr (7, [.ref (a 16), .int 0, .int 0, .int 0, .int 0, .int 0, .int 0]))] s.heap := hP
  have hl := lv_entry ([.ref (a 0), .int 11]) (n := 2) (Nat.le_of_ble_eq_true rfl)
  rw [lg_entry_eq]
  generalize (lg_sl ([.ref (a 0), .int 11]) ++ List.replicate (2 - (lg_sl ([.ref (a 0), .int 11])).length) Slot.unset).toArray = ls at hl ⊢
  have hl : lv_has ls 2 [(0, .ref (a 0)), (1, .int 11)] := hl
  refine lv_iload_n hx hb dX11_deviceFact_0 rfl (lv_at hl 1 rfl) ?_
  refine lv_tableIn (tgt := 48) (off := 47) hx hb dX11_deviceFact_1 (by decide) (by decide) rfl (by decide) ?_
  refine lv_aload_n hx hb dX11_deviceFact_48 rfl (lv_at hl 0 rfl) ?_
  refine va_get (D := D) (ci := 1) (v := .ref (a 4)) (C := RX1) (T := TX1) (N := 9) hx hb hts hi_X1 hown hK hP 0 rfl rfl 1 (by decide) (hts (.fieldLink RX11 213 "BeamHouse$Device" "ear" "LBeamHouse$Ear;") (List.mem_of_getElem? (i := 1) rfl)) (fun _ h9 => h9) rfl dX11_deviceFact_49 ?_
  refine va_get (D := D) (ci := 2) (v := .int 0) (C := RX2) (T := TX2) (N := 6) hx hb hts hi_X2 hown hK hP 2 rfl rfl 1 (by decide) (hts (.fieldLink RX11 217 "BeamHouse$Ear" "frames" "I") (List.mem_of_getElem? (i := 2) rfl)) (fun _ h9 => h9) rfl dX11_deviceFact_52 ?_
  exact W.iret (v := 0) hx hb hr (fun tt ht hW => ⟨⟨0, (), rfl, rfl, ⟨by rw [ht]; exact hP.sub [] rfl, hD.sub [] rfl rfl⟩⟩, hS.F ht⟩) hS.2.2 dX11_deviceFact_55
def w_c_deviceFact_12 : List Cond := .code yX11_deviceFact cX11_deviceFact 2 (some .int) :: (([.fieldLink RX11 213 "BeamHouse$Device" "ear" "LBeamHouse$Ear;", .fieldLink RX11 222 "BeamHouse$Ear" "dropped" "I"] : List Cond) ++ wsX10 ++ wsX20)
set_option maxHeartbeats 4000000 in
set_option maxRecDepth 100000 in
theorem c_deviceFact_12 (l : Launch) (D : va_G) (ca : Nat → ClassId) (sz : Nat) (a : Nat → Nat) (k : Nat)  : Met l yX11_deviceFact w_c_deviceFact_12 ({ frames := 0, cells := 0, slots := 0, locals := 0 }) (Pre D ca [.ref (a 0), .int 12] [((a 0), .inr (1, [.ref (a 1), .ref (a 4), .ref (a 5), .ref (a 6), .ref (a 8), .ref (a 10), .int 0, .int (nI (k + 1)), .int (nI k)])), ((a 1), .inr (0, [.ref (a 2), .int 0, .ref (a 3), .int 0])), ((a 4), .inr (2, [.ref (a 15), .int 0, .int 0, .int 0, .int 0, .int 0])), ((a 10), .inr (4, [.ref (a 11), .ref (a 23), .int 0, .ref (a 24), .int 0, .int 0, .int 0, .ref (a 25), .int 0, .ref (a 26), .int 0, .int 0])), ((a 11), .inr (8, [.int 0, .ref (a 12)])), ((a 6), .inr (3, [.ref (a 7), .int 0, .int 0, .int 0, .int 0, .int 0, .int 0, .int 0, .int 0, .int 0, .int 0, .int 0, .int 0, .int 0])), ((a 5), .inr (7, [.ref (a 16), .int 0, .int 0, .int 0, .int 0, .int 0, .int 0]))] sz) (va_Qi (fun (r : Int32) (_ : Unit) => r = 0) (fun (_ : Unit) (tt : State) => Wd D (va_A [((a 0), .inr (1, [.ref (a 1), .ref (a 4), .ref (a 5), .ref (a 6), .ref (a 8), .ref (a 10), .int 0, .int (nI (k + 1)), .int (nI k)])), ((a 1), .inr (0, [.ref (a 2), .int 0, .ref (a 3), .int 0])), ((a 4), .inr (2, [.ref (a 15), .int 0, .int 0, .int 0, .int 0, .int 0])), ((a 10), .inr (4, [.ref (a 11), .ref (a 23), .int 0, .ref (a 24), .int 0, .int 0, .int 0, .ref (a 25), .int 0, .ref (a 26), .int 0, .int 0])), ((a 11), .inr (8, [.int 0, .ref (a 12)])), ((a 6), .inr (3, [.ref (a 7), .int 0, .int 0, .int 0, .int 0, .int 0, .int 0, .int 0, .int 0, .int 0, .int 0, .int 0, .int 0, .int 0])), ((a 5), .inr (7, [.ref (a 16), .int 0, .int 0, .int 0, .int 0, .int 0, .int 0]))] sz) [] tt) (va_A [((a 0), .inr (1, [.ref (a 1), .ref (a 4), .ref (a 5), .ref (a 6), .ref (a 8), .ref (a 10), .int 0, .int (nI (k + 1)), .int (nI k)])), ((a 1), .inr (0, [.ref (a 2), .int 0, .ref (a 3), .int 0])), ((a 4), .inr (2, [.ref (a 15), .int 0, .int 0, .int 0, .int 0, .int 0])), ((a 10), .inr (4, [.ref (a 11), .ref (a 23), .int 0, .ref (a 24), .int 0, .int 0, .int 0, .ref (a 25), .int 0, .ref (a 26), .int 0, .int 0])), ((a 11), .inr (8, [.int 0, .ref (a 12)])), ((a 6), .inr (3, [.ref (a 7), .int 0, .int 0, .int 0, .int 0, .int 0, .int 0, .int 0, .int 0, .int 0, .int 0, .int 0, .int 0, .int 0])), ((a 5), .inr (7, [.ref (a 16), .int 0, .int 0, .int 0, .int 0, .int 0, .int 0]))] sz)) 0 0 (va_A [((a 0), .inr (1, [.ref (a 1), .ref (a 4), .ref (a 5), .ref (a 6), .ref (a 8), .ref (a 10), .int 0, .int (nI (k + 1)), .int (nI k)])), ((a 1), .inr (0, [.ref (a 2), .int 0, .ref (a 3), .int 0])), ((a 4), .inr (2, [.ref (a 15), .int 0, .int 0, .int 0, .int 0, .int 0])), ((a 10), .inr (4, [.ref (a 11), .ref (a 23), .int 0, .ref (a 24), .int 0, .int 0, .int 0, .ref (a 25), .int 0, .ref (a 26), .int 0, .int 0])), ((a 11), .inr (8, [.int 0, .ref (a 12)])), ((a 6), .inr (3, [.ref (a 7), .int 0, .int 0, .int 0, .int 0, .int 0, .int 0, .int 0, .int 0, .int 0, .int 0, .int 0, .int 0, .int 0])), ((a 5), .inr (7, [.ref (a 16), .int 0, .int 0, .int 0, .int 0, .int 0, .int 0]))] sz) := by
  refine Met.ofW (cc := cX11_deviceFact) (maxL := 2) (ret := (some .int)) (by decide) rfl ?_
  intro p e s m args below meth c s₁ B hml hv
  obtain ⟨rfl, hsz, hP, hK, hD0, hN⟩ := hv
  have hx := B.exec
  have hb := B.bytes
  have hr := B.returns
  have hts := atoms_spec (ws := w_c_deviceFact_12) B.pre
  have hown : s.vm.findClass RX11 = some m.cls := findClass_of_methodNamed B.named
  have hlocks := B.notSynchronized
  have hi_X1 : ∀ w ∈ wsX10, w ∈ w_c_deviceFact_12 := fun _ h => List.mem_cons_of_mem _ (List.mem_append_left _ (List.mem_append_right _ h))
  have hi_X2 : ∀ w ∈ wsX20, w ∈ w_c_deviceFact_12 := fun _ h => List.mem_cons_of_mem _ (List.mem_append_right _ h)
  subst hsz
  have hD := hD0.self (sz := s.heap.size)
  generalize hAe : va_A [((a 0), .inr (1, [.ref (a 1), .ref (a 4), .ref (a 5), .ref (a 6), .ref (a 8), .ref (a 10), .int 0, .int (nI (k + 1)), .int (nI k)])), ((a 1), .inr (0, [.ref (a 2), .int 0, .ref (a 3), .int 0])), ((a 4), .inr (2, [.ref (a 15), .int 0, .int 0, .int 0, .int 0, .int 0])), ((a 10), .inr (4, [.ref (a 11), .ref (a 23), .int 0, .ref (a 24), .int 0, .int 0, .int 0, .ref (a 25), .int 0, .ref (a 26), .int 0, .int 0])), ((a 11), .inr (8, [.int 0, .ref (a 12)])), ((a 6), .inr (3, [.ref (a 7), .int 0, .int 0, .int 0, .int 0, .int 0, .int 0, .int 0, .int 0, .int 0, .int 0, .int 0, .int 0, .int 0])), ((a 5), .inr (7, [.ref (a 16), .int 0, .int 0, .int 0, .int 0, .int 0, .int 0]))] s.heap.size = A at hD ⊢
  have hA : ∀ q : Nat, s.heap.size ≤ q → A q := fun q h => by rw [← hAe]; exact Or.inr h
  have hS : va_S A s.heap s.heap [] := va_S.rf
  have hP : va_P D vwCl [((a 0), .inr (1, [.ref (a 1), .ref (a 4), .ref (a 5), .ref (a 6), .ref (a 8), .ref (a 10), .int 0, .int (nI (k + 1)), .int (nI k)])), ((a 1), .inr (0, [.ref (a 2), .int 0, .ref (a 3), .int 0])), ((a 4), .inr (2, [.ref (a 15), .int 0, .int 0, .int 0, .int 0, .int 0])), ((a 10), .inr (4, [.ref (a 11), .ref (a 23), .int 0, .ref (a 24), .int 0, .int 0, .int 0, .ref (a 25), .int 0, .ref (a 26), .int 0, .int 0])), ((a 11), .inr (8, [.int 0, .ref (a 12)])), ((a 6), .inr (3, [.ref (a 7), .int 0, .int 0, .int 0, .int 0, .int 0, .int 0, .int 0, .int 0, .int 0, .int 0, .int 0, .int 0, .int 0])), ((a 5), .inr (7, [.ref (a 16), .int 0, .int 0, .int 0, .int 0, .int 0, .int 0]))] s.heap := hP
  have hl := lv_entry ([.ref (a 0), .int 12]) (n := 2) (Nat.le_of_ble_eq_true rfl)
  rw [lg_entry_eq]
  generalize (lg_sl ([.ref (a 0), .int 12]) ++ List.replicate (2 - (lg_sl ([.ref (a 0), .int 12])).length) Slot.unset).toArray = ls at hl ⊢
  have hl : lv_has ls 2 [(0, .ref (a 0)), (1, .int 12)] := hl
  refine lv_iload_n hx hb dX11_deviceFact_0 rfl (lv_at hl 1 rfl) ?_
  refine lv_tableIn (tgt := 56) (off := 55) hx hb dX11_deviceFact_1 (by decide) (by decide) rfl (by decide) ?_
  refine lv_aload_n hx hb dX11_deviceFact_56 rfl (lv_at hl 0 rfl) ?_
  refine va_get (D := D) (ci := 1) (v := .ref (a 4)) (C := RX1) (T := TX1) (N := 9) hx hb hts hi_X1 hown hK hP 0 rfl rfl 1 (by decide) (hts (.fieldLink RX11 213 "BeamHouse$Device" "ear" "LBeamHouse$Ear;") (List.mem_of_getElem? (i := 1) rfl)) (fun _ h9 => h9) rfl dX11_deviceFact_57 ?_
  refine va_get (D := D) (ci := 2) (v := .int 0) (C := RX2) (T := TX2) (N := 6) hx hb hts hi_X2 hown hK hP 2 rfl rfl 2 (by decide) (hts (.fieldLink RX11 222 "BeamHouse$Ear" "dropped" "I") (List.mem_of_getElem? (i := 2) rfl)) (fun _ h9 => h9) rfl dX11_deviceFact_60 ?_
  exact W.iret (v := 0) hx hb hr (fun tt ht hW => ⟨⟨0, (), rfl, rfl, ⟨by rw [ht]; exact hP.sub [] rfl, hD.sub [] rfl rfl⟩⟩, hS.F ht⟩) hS.2.2 dX11_deviceFact_63
def w_c_deviceFact_13 : List Cond := .code yX11_deviceFact cX11_deviceFact 2 (some .int) :: (([.fieldLink RX11 119 "BeamHouse$Device" "objects" "LBeamHouse$Objects;", .fieldLink RX11 123 "BeamHouse$Objects" "store" "LBeamHouse$Store;", .fieldLink RX11 225 "BeamHouse$Store" "count" "I"] : List Cond) ++ wsX10 ++ wsX40 ++ wsX80)
set_option maxHeartbeats 4000000 in
set_option maxRecDepth 100000 in
theorem c_deviceFact_13 (l : Launch) (D : va_G) (ca : Nat → ClassId) (sz : Nat) (a : Nat → Nat) (k : Nat)  : Met l yX11_deviceFact w_c_deviceFact_13 ({ frames := 0, cells := 0, slots := 0, locals := 0 }) (Pre D ca [.ref (a 0), .int 13] [((a 0), .inr (1, [.ref (a 1), .ref (a 4), .ref (a 5), .ref (a 6), .ref (a 8), .ref (a 10), .int 0, .int (nI (k + 1)), .int (nI k)])), ((a 1), .inr (0, [.ref (a 2), .int 0, .ref (a 3), .int 0])), ((a 4), .inr (2, [.ref (a 15), .int 0, .int 0, .int 0, .int 0, .int 0])), ((a 10), .inr (4, [.ref (a 11), .ref (a 23), .int 0, .ref (a 24), .int 0, .int 0, .int 0, .ref (a 25), .int 0, .ref (a 26), .int 0, .int 0])), ((a 11), .inr (8, [.int 0, .ref (a 12)])), ((a 6), .inr (3, [.ref (a 7), .int 0, .int 0, .int 0, .int 0, .int 0, .int 0, .int 0, .int 0, .int 0, .int 0, .int 0, .int 0, .int 0])), ((a 5), .inr (7, [.ref (a 16), .int 0, .int 0, .int 0, .int 0, .int 0, .int 0]))] sz) (va_Qi (fun (r : Int32) (_ : Unit) => r = 0) (fun (_ : Unit) (tt : State) => Wd D (va_A [((a 0), .inr (1, [.ref (a 1), .ref (a 4), .ref (a 5), .ref (a 6), .ref (a 8), .ref (a 10), .int 0, .int (nI (k + 1)), .int (nI k)])), ((a 1), .inr (0, [.ref (a 2), .int 0, .ref (a 3), .int 0])), ((a 4), .inr (2, [.ref (a 15), .int 0, .int 0, .int 0, .int 0, .int 0])), ((a 10), .inr (4, [.ref (a 11), .ref (a 23), .int 0, .ref (a 24), .int 0, .int 0, .int 0, .ref (a 25), .int 0, .ref (a 26), .int 0, .int 0])), ((a 11), .inr (8, [.int 0, .ref (a 12)])), ((a 6), .inr (3, [.ref (a 7), .int 0, .int 0, .int 0, .int 0, .int 0, .int 0, .int 0, .int 0, .int 0, .int 0, .int 0, .int 0, .int 0])), ((a 5), .inr (7, [.ref (a 16), .int 0, .int 0, .int 0, .int 0, .int 0, .int 0]))] sz) [] tt) (va_A [((a 0), .inr (1, [.ref (a 1), .ref (a 4), .ref (a 5), .ref (a 6), .ref (a 8), .ref (a 10), .int 0, .int (nI (k + 1)), .int (nI k)])), ((a 1), .inr (0, [.ref (a 2), .int 0, .ref (a 3), .int 0])), ((a 4), .inr (2, [.ref (a 15), .int 0, .int 0, .int 0, .int 0, .int 0])), ((a 10), .inr (4, [.ref (a 11), .ref (a 23), .int 0, .ref (a 24), .int 0, .int 0, .int 0, .ref (a 25), .int 0, .ref (a 26), .int 0, .int 0])), ((a 11), .inr (8, [.int 0, .ref (a 12)])), ((a 6), .inr (3, [.ref (a 7), .int 0, .int 0, .int 0, .int 0, .int 0, .int 0, .int 0, .int 0, .int 0, .int 0, .int 0, .int 0, .int 0])), ((a 5), .inr (7, [.ref (a 16), .int 0, .int 0, .int 0, .int 0, .int 0, .int 0]))] sz)) 0 0 (va_A [((a 0), .inr (1, [.ref (a 1), .ref (a 4), .ref (a 5), .ref (a 6), .ref (a 8), .ref (a 10), .int 0, .int (nI (k + 1)), .int (nI k)])), ((a 1), .inr (0, [.ref (a 2), .int 0, .ref (a 3), .int 0])), ((a 4), .inr (2, [.ref (a 15), .int 0, .int 0, .int 0, .int 0, .int 0])), ((a 10), .inr (4, [.ref (a 11), .ref (a 23), .int 0, .ref (a 24), .int 0, .int 0, .int 0, .ref (a 25), .int 0, .ref (a 26), .int 0, .int 0])), ((a 11), .inr (8, [.int 0, .ref (a 12)])), ((a 6), .inr (3, [.ref (a 7), .int 0, .int 0, .int 0, .int 0, .int 0, .int 0, .int 0, .int 0, .int 0, .int 0, .int 0, .int 0, .int 0])), ((a 5), .inr (7, [.ref (a 16), .int 0, .int 0, .int 0, .int 0, .int 0, .int 0]))] sz) := by
  refine Met.ofW (cc := cX11_deviceFact) (maxL := 2) (ret := (some .int)) (by decide) rfl ?_
  intro p e s m args below meth c s₁ B hml hv
  obtain ⟨rfl, hsz, hP, hK, hD0, hN⟩ := hv
  have hx := B.exec
  have hb := B.bytes
  have hr := B.returns
  have hts := atoms_spec (ws := w_c_deviceFact_13) B.pre
  have hown : s.vm.findClass RX11 = some m.cls := findClass_of_methodNamed B.named
  have hlocks := B.notSynchronized
  have hi_X1 : ∀ w ∈ wsX10, w ∈ w_c_deviceFact_13 := fun _ h => List.mem_cons_of_mem _ (List.mem_append_left _ (List.mem_append_left _ (List.mem_append_right _ h)))
  have hi_X4 : ∀ w ∈ wsX40, w ∈ w_c_deviceFact_13 := fun _ h => List.mem_cons_of_mem _ (List.mem_append_left _ (List.mem_append_right _ h))
  have hi_X8 : ∀ w ∈ wsX80, w ∈ w_c_deviceFact_13 := fun _ h => List.mem_cons_of_mem _ (List.mem_append_right _ h)
  subst hsz
  have hD := hD0.self (sz := s.heap.size)
  generalize hAe : va_A [((a 0), .inr (1, [.ref (a 1), .ref (a 4), .ref (a 5), .ref (a 6), .ref (a 8), .ref (a 10), .int 0, .int (nI (k + 1)), .int (nI k)])), ((a 1), .inr (0, [.ref (a 2), .int 0, .ref (a 3), .int 0])), ((a 4), .inr (2, [.ref (a 15), .int 0, .int 0, .int 0, .int 0, .int 0])), ((a 10), .inr (4, [.ref (a 11), .ref (a 23), .int 0, .ref (a 24), .int 0, .int 0, .int 0, .ref (a 25), .int 0, .ref (a 26), .int 0, .int 0])), ((a 11), .inr (8, [.int 0, .ref (a 12)])), ((a 6), .inr (3, [.ref (a 7), .int 0, .int 0, .int 0, .int 0, .int 0, .int 0, .int 0, .int 0, .int 0, .int 0, .int 0, .int 0, .int 0])), ((a 5), .inr (7, [.ref (a 16), .int 0, .int 0, .int 0, .int 0, .int 0, .int 0]))] s.heap.size = A at hD ⊢
  have hA : ∀ q : Nat, s.heap.size ≤ q → A q := fun q h => by rw [← hAe]; exact Or.inr h
  have hS : va_S A s.heap s.heap [] := va_S.rf
  have hP : va_P D vwCl [((a 0), .inr (1, [.ref (a 1), .ref (a 4), .ref (a 5), .ref (a 6), .ref (a 8), .ref (a 10), .int 0, .int (nI (k + 1)), .int (nI k)])), ((a 1), .inr (0, [.ref (a 2), .int 0, .ref (a 3), .int 0])), ((a 4), .inr (2, [.ref (a 15), .int 0, .int 0, .int 0, .int 0, .int 0])), ((a 10), .inr (4, [.ref (a 11), .ref (a 23), .int 0, .ref (a 24), .int 0, .int 0, .int 0, .ref (a 25), .int 0, .ref (a 26), .int 0, .int 0])), ((a 11), .inr (8, [.int 0, .ref (a 12)])), ((a 6), .inr (3, [.ref (a 7), .int 0, .int 0, .int 0, .int 0, .int 0, .int 0, .int 0, .int 0, .int 0, .int 0, .int 0, .int 0, .int 0])), ((a 5), .inr (7, [.ref (a 16), .int 0, .int 0, .int 0, .int 0, .int 0, .int 0]))] s.heap := hP
  have hl := lv_entry ([.ref (a 0), .int 13]) (n := 2) (Nat.le_of_ble_eq_true rfl)
  rw [lg_entry_eq]
  generalize (lg_sl ([.ref (a 0), .int 13]) ++ List.replicate (2 - (lg_sl ([.ref (a 0), .int 13])).length) Slot.unset).toArray = ls at hl ⊢
  have hl : lv_has ls 2 [(0, .ref (a 0)), (1, .int 13)] := hl
  refine lv_iload_n hx hb dX11_deviceFact_0 rfl (lv_at hl 1 rfl) ?_
  refine lv_tableIn (tgt := 64) (off := 63) hx hb dX11_deviceFact_1 (by decide) (by decide) rfl (by decide) ?_
  refine lv_aload_n hx hb dX11_deviceFact_64 rfl (lv_at hl 0 rfl) ?_
  refine va_get (D := D) (ci := 1) (v := .ref (a 10)) (C := RX1) (T := TX1) (N := 9) hx hb hts hi_X1 hown hK hP 0 rfl rfl 5 (by decide) (hts (.fieldLink RX11 119 "BeamHouse$Device" "objects" "LBeamHouse$Objects;") (List.mem_of_getElem? (i := 1) rfl)) (fun _ h9 => h9) rfl dX11_deviceFact_65 ?_
  refine va_get (D := D) (ci := 4) (v := .ref (a 11)) (C := RX4) (T := TX4) (N := 12) hx hb hts hi_X4 hown hK hP 3 rfl rfl 0 (by decide) (hts (.fieldLink RX11 123 "BeamHouse$Objects" "store" "LBeamHouse$Store;") (List.mem_of_getElem? (i := 2) rfl)) (fun _ h9 => h9) rfl dX11_deviceFact_68 ?_
  refine va_get (D := D) (ci := 8) (v := .int 0) (C := RX8) (T := TX8) (N := 2) hx hb hts hi_X8 hown hK hP 4 rfl rfl 0 (by decide) (hts (.fieldLink RX11 225 "BeamHouse$Store" "count" "I") (List.mem_of_getElem? (i := 3) rfl)) (fun _ h9 => h9) rfl dX11_deviceFact_71 ?_
  exact W.iret (v := 0) hx hb hr (fun tt ht hW => ⟨⟨0, (), rfl, rfl, ⟨by rw [ht]; exact hP.sub [] rfl, hD.sub [] rfl rfl⟩⟩, hS.F ht⟩) hS.2.2 dX11_deviceFact_74
def w_c_deviceFact_14 : List Cond := .code yX11_deviceFact cX11_deviceFact 2 (some .int) :: (([.fieldLink RX11 119 "BeamHouse$Device" "objects" "LBeamHouse$Objects;", .fieldLink RX11 226 "BeamHouse$Objects" "status" "I"] : List Cond) ++ wsX10 ++ wsX40)
set_option maxHeartbeats 4000000 in
set_option maxRecDepth 100000 in
theorem c_deviceFact_14 (l : Launch) (D : va_G) (ca : Nat → ClassId) (sz : Nat) (a : Nat → Nat) (k : Nat)  : Met l yX11_deviceFact w_c_deviceFact_14 ({ frames := 0, cells := 0, slots := 0, locals := 0 }) (Pre D ca [.ref (a 0), .int 14] [((a 0), .inr (1, [.ref (a 1), .ref (a 4), .ref (a 5), .ref (a 6), .ref (a 8), .ref (a 10), .int 0, .int (nI (k + 1)), .int (nI k)])), ((a 1), .inr (0, [.ref (a 2), .int 0, .ref (a 3), .int 0])), ((a 4), .inr (2, [.ref (a 15), .int 0, .int 0, .int 0, .int 0, .int 0])), ((a 10), .inr (4, [.ref (a 11), .ref (a 23), .int 0, .ref (a 24), .int 0, .int 0, .int 0, .ref (a 25), .int 0, .ref (a 26), .int 0, .int 0])), ((a 11), .inr (8, [.int 0, .ref (a 12)])), ((a 6), .inr (3, [.ref (a 7), .int 0, .int 0, .int 0, .int 0, .int 0, .int 0, .int 0, .int 0, .int 0, .int 0, .int 0, .int 0, .int 0])), ((a 5), .inr (7, [.ref (a 16), .int 0, .int 0, .int 0, .int 0, .int 0, .int 0]))] sz) (va_Qi (fun (r : Int32) (_ : Unit) => r = 0) (fun (_ : Unit) (tt : State) => Wd D (va_A [((a 0), .inr (1, [.ref (a 1), .ref (a 4), .ref (a 5), .ref (a 6), .ref (a 8), .ref (a 10), .int 0, .int (nI (k + 1)), .int (nI k)])), ((a 1), .inr (0, [.ref (a 2), .int 0, .ref (a 3), .int 0])), ((a 4), .inr (2, [.ref (a 15), .int 0, .int 0, .int 0, .int 0, .int 0])), ((a 10), .inr (4, [.ref (a 11), .ref (a 23), .int 0, .ref (a 24), .int 0, .int 0, .int 0, .ref (a 25), .int 0, .ref (a 26), .int 0, .int 0])), ((a 11), .inr (8, [.int 0, .ref (a 12)])), ((a 6), .inr (3, [.ref (a 7), .int 0, .int 0, .int 0, .int 0, .int 0, .int 0, .int 0, .int 0, .int 0, .int 0, .int 0, .int 0, .int 0])), ((a 5), .inr (7, [.ref (a 16), .int 0, .int 0, .int 0, .int 0, .int 0, .int 0]))] sz) [] tt) (va_A [((a 0), .inr (1, [.ref (a 1), .ref (a 4), .ref (a 5), .ref (a 6), .ref (a 8), .ref (a 10), .int 0, .int (nI (k + 1)), .int (nI k)])), ((a 1), .inr (0, [.ref (a 2), .int 0, .ref (a 3), .int 0])), ((a 4), .inr (2, [.ref (a 15), .int 0, .int 0, .int 0, .int 0, .int 0])), ((a 10), .inr (4, [.ref (a 11), .ref (a 23), .int 0, .ref (a 24), .int 0, .int 0, .int 0, .ref (a 25), .int 0, .ref (a 26), .int 0, .int 0])), ((a 11), .inr (8, [.int 0, .ref (a 12)])), ((a 6), .inr (3, [.ref (a 7), .int 0, .int 0, .int 0, .int 0, .int 0, .int 0, .int 0, .int 0, .int 0, .int 0, .int 0, .int 0, .int 0])), ((a 5), .inr (7, [.ref (a 16), .int 0, .int 0, .int 0, .int 0, .int 0, .int 0]))] sz)) 0 0 (va_A [((a 0), .inr (1, [.ref (a 1), .ref (a 4), .ref (a 5), .ref (a 6), .ref (a 8), .ref (a 10), .int 0, .int (nI (k + 1)), .int (nI k)])), ((a 1), .inr (0, [.ref (a 2), .int 0, .ref (a 3), .int 0])), ((a 4), .inr (2, [.ref (a 15), .int 0, .int 0, .int 0, .int 0, .int 0])), ((a 10), .inr (4, [.ref (a 11), .ref (a 23), .int 0, .ref (a 24), .int 0, .int 0, .int 0, .ref (a 25), .int 0, .ref (a 26), .int 0, .int 0])), ((a 11), .inr (8, [.int 0, .ref (a 12)])), ((a 6), .inr (3, [.ref (a 7), .int 0, .int 0, .int 0, .int 0, .int 0, .int 0, .int 0, .int 0, .int 0, .int 0, .int 0, .int 0, .int 0])), ((a 5), .inr (7, [.ref (a 16), .int 0, .int 0, .int 0, .int 0, .int 0, .int 0]))] sz) := by
  refine Met.ofW (cc := cX11_deviceFact) (maxL := 2) (ret := (some .int)) (by decide) rfl ?_
  intro p e s m args below meth c s₁ B hml hv
  obtain ⟨rfl, hsz, hP, hK, hD0, hN⟩ := hv
  have hx := B.exec
  have hb := B.bytes
  have hr := B.returns
  have hts := atoms_spec (ws := w_c_deviceFact_14) B.pre
  have hown : s.vm.findClass RX11 = some m.cls := findClass_of_methodNamed B.named
  have hlocks := B.notSynchronized
  have hi_X1 : ∀ w ∈ wsX10, w ∈ w_c_deviceFact_14 := fun _ h => List.mem_cons_of_mem _ (List.mem_append_left _ (List.mem_append_right _ h))
  have hi_X4 : ∀ w ∈ wsX40, w ∈ w_c_deviceFact_14 := fun _ h => List.mem_cons_of_mem _ (List.mem_append_right _ h)
  subst hsz
  have hD := hD0.self (sz := s.heap.size)
  generalize hAe : va_A [((a 0), .inr (1, [.ref (a 1), .ref (a 4), .ref (a 5), .ref (a 6), .ref (a 8), .ref (a 10), .int 0, .int (nI (k + 1)), .int (nI k)])), ((a 1), .inr (0, [.ref (a 2), .int 0, .ref (a 3), .int 0])), ((a 4), .inr (2, [.ref (a 15), .int 0, .int 0, .int 0, .int 0, .int 0])), ((a 10), .inr (4, [.ref (a 11), .ref (a 23), .int 0, .ref (a 24), .int 0, .int 0, .int 0, .ref (a 25), .int 0, .ref (a 26), .int 0, .int 0])), ((a 11), .inr (8, [.int 0, .ref (a 12)])), ((a 6), .inr (3, [.ref (a 7), .int 0, .int 0, .int 0, .int 0, .int 0, .int 0, .int 0, .int 0, .int 0, .int 0, .int 0, .int 0, .int 0])), ((a 5), .inr (7, [.ref (a 16), .int 0, .int 0, .int 0, .int 0, .int 0, .int 0]))] s.heap.size = A at hD ⊢
  have hA : ∀ q : Nat, s.heap.size ≤ q → A q := fun q h => by rw [← hAe]; exact Or.inr h
  have hS : va_S A s.heap s.heap [] := va_S.rf
  have hP : va_P D vwCl [((a 0), .inr (1, [.ref (a 1), .ref (a 4), .ref (a 5), .ref (a 6), .ref (a 8), .ref (a 10), .int 0, .int (nI (k + 1)), .int (nI k)])), ((a 1), .inr (0, [.ref (a 2), .int 0, .ref (a 3), .int 0])), ((a 4), .inr (2, [.ref (a 15), .int 0, .int 0, .int 0, .int 0, .int 0])), ((a 10), .inr (4, [.ref (a 11), .ref (a 23), .int 0, .ref (a 24), .int 0, .int 0, .int 0, .ref (a 25), .int 0, .ref (a 26), .int 0, .int 0])), ((a 11), .inr (8, [.int 0, .ref (a 12)])), ((a 6), .inr (3, [.ref (a 7), .int 0, .int 0, .int 0, .int 0, .int 0, .int 0, .int 0, .int 0, .int 0, .int 0, .int 0, .int 0, .int 0])), ((a 5), .inr (7, [.ref (a 16), .int 0, .int 0, .int 0, .int 0, .int 0, .int 0]))] s.heap := hP
  have hl := lv_entry ([.ref (a 0), .int 14]) (n := 2) (Nat.le_of_ble_eq_true rfl)
  rw [lg_entry_eq]
  generalize (lg_sl ([.ref (a 0), .int 14]) ++ List.replicate (2 - (lg_sl ([.ref (a 0), .int 14])).length) Slot.unset).toArray = ls at hl ⊢
  have hl : lv_has ls 2 [(0, .ref (a 0)), (1, .int 14)] := hl
  refine lv_iload_n hx hb dX11_deviceFact_0 rfl (lv_at hl 1 rfl) ?_
  refine lv_tableIn (tgt := 75) (off := 74) hx hb dX11_deviceFact_1 (by decide) (by decide) rfl (by decide) ?_
  refine lv_aload_n hx hb dX11_deviceFact_75 rfl (lv_at hl 0 rfl) ?_
  refine va_get (D := D) (ci := 1) (v := .ref (a 10)) (C := RX1) (T := TX1) (N := 9) hx hb hts hi_X1 hown hK hP 0 rfl rfl 5 (by decide) (hts (.fieldLink RX11 119 "BeamHouse$Device" "objects" "LBeamHouse$Objects;") (List.mem_of_getElem? (i := 1) rfl)) (fun _ h9 => h9) rfl dX11_deviceFact_76 ?_
  refine va_get (D := D) (ci := 4) (v := .int 0) (C := RX4) (T := TX4) (N := 12) hx hb hts hi_X4 hown hK hP 3 rfl rfl 2 (by decide) (hts (.fieldLink RX11 226 "BeamHouse$Objects" "status" "I") (List.mem_of_getElem? (i := 2) rfl)) (fun _ h9 => h9) rfl dX11_deviceFact_79 ?_
  exact W.iret (v := 0) hx hb hr (fun tt ht hW => ⟨⟨0, (), rfl, rfl, ⟨by rw [ht]; exact hP.sub [] rfl, hD.sub [] rfl rfl⟩⟩, hS.F ht⟩) hS.2.2 dX11_deviceFact_82
def w_c_deviceFact_15 : List Cond := .code yX11_deviceFact cX11_deviceFact 2 (some .int) :: (([.fieldLink RX11 92 "BeamHouse$Device" "link" "LBeamHouse$Link;", .fieldLink RX11 229 "BeamHouse$Link" "hasTurn" "Z"] : List Cond) ++ wsX10 ++ wsX30)
set_option maxHeartbeats 4000000 in
set_option maxRecDepth 100000 in
theorem c_deviceFact_15 (l : Launch) (D : va_G) (ca : Nat → ClassId) (sz : Nat) (a : Nat → Nat) (k : Nat)  : Met l yX11_deviceFact w_c_deviceFact_15 ({ frames := 0, cells := 0, slots := 0, locals := 0 }) (Pre D ca [.ref (a 0), .int 15] [((a 0), .inr (1, [.ref (a 1), .ref (a 4), .ref (a 5), .ref (a 6), .ref (a 8), .ref (a 10), .int 0, .int (nI (k + 1)), .int (nI k)])), ((a 1), .inr (0, [.ref (a 2), .int 0, .ref (a 3), .int 0])), ((a 4), .inr (2, [.ref (a 15), .int 0, .int 0, .int 0, .int 0, .int 0])), ((a 10), .inr (4, [.ref (a 11), .ref (a 23), .int 0, .ref (a 24), .int 0, .int 0, .int 0, .ref (a 25), .int 0, .ref (a 26), .int 0, .int 0])), ((a 11), .inr (8, [.int 0, .ref (a 12)])), ((a 6), .inr (3, [.ref (a 7), .int 0, .int 0, .int 0, .int 0, .int 0, .int 0, .int 0, .int 0, .int 0, .int 0, .int 0, .int 0, .int 0])), ((a 5), .inr (7, [.ref (a 16), .int 0, .int 0, .int 0, .int 0, .int 0, .int 0]))] sz) (va_Qi (fun (r : Int32) (_ : Unit) => r = 0) (fun (_ : Unit) (tt : State) => Wd D (va_A [((a 0), .inr (1, [.ref (a 1), .ref (a 4), .ref (a 5), .ref (a 6), .ref (a 8), .ref (a 10), .int 0, .int (nI (k + 1)), .int (nI k)])), ((a 1), .inr (0, [.ref (a 2), .int 0, .ref (a 3), .int 0])), ((a 4), .inr (2, [.ref (a 15), .int 0, .int 0, .int 0, .int 0, .int 0])), ((a 10), .inr (4, [.ref (a 11), .ref (a 23), .int 0, .ref (a 24), .int 0, .int 0, .int 0, .ref (a 25), .int 0, .ref (a 26), .int 0, .int 0])), ((a 11), .inr (8, [.int 0, .ref (a 12)])), ((a 6), .inr (3, [.ref (a 7), .int 0, .int 0, .int 0, .int 0, .int 0, .int 0, .int 0, .int 0, .int 0, .int 0, .int 0, .int 0, .int 0])), ((a 5), .inr (7, [.ref (a 16), .int 0, .int 0, .int 0, .int 0, .int 0, .int 0]))] sz) [] tt) (va_A [((a 0), .inr (1, [.ref (a 1), .ref (a 4), .ref (a 5), .ref (a 6), .ref (a 8), .ref (a 10), .int 0, .int (nI (k + 1)), .int (nI k)])), ((a 1), .inr (0, [.ref (a 2), .int 0, .ref (a 3), .int 0])), ((a 4), .inr (2, [.ref (a 15), .int 0, .int 0, .int 0, .int 0, .int 0])), ((a 10), .inr (4, [.ref (a 11), .ref (a 23), .int 0, .ref (a 24), .int 0, .int 0, .int 0, .ref (a 25), .int 0, .ref (a 26), .int 0, .int 0])), ((a 11), .inr (8, [.int 0, .ref (a 12)])), ((a 6), .inr (3, [.ref (a 7), .int 0, .int 0, .int 0, .int 0, .int 0, .int 0, .int 0, .int 0, .int 0, .int 0, .int 0, .int 0, .int 0])), ((a 5), .inr (7, [.ref (a 16), .int 0, .int 0, .int 0, .int 0, .int 0, .int 0]))] sz)) 0 0 (va_A [((a 0), .inr (1, [.ref (a 1), .ref (a 4), .ref (a 5), .ref (a 6), .ref (a 8), .ref (a 10), .int 0, .int (nI (k + 1)), .int (nI k)])), ((a 1), .inr (0, [.ref (a 2), .int 0, .ref (a 3), .int 0])), ((a 4), .inr (2, [.ref (a 15), .int 0, .int 0, .int 0, .int 0, .int 0])), ((a 10), .inr (4, [.ref (a 11), .ref (a 23), .int 0, .ref (a 24), .int 0, .int 0, .int 0, .ref (a 25), .int 0, .ref (a 26), .int 0, .int 0])), ((a 11), .inr (8, [.int 0, .ref (a 12)])), ((a 6), .inr (3, [.ref (a 7), .int 0, .int 0, .int 0, .int 0, .int 0, .int 0, .int 0, .int 0, .int 0, .int 0, .int 0, .int 0, .int 0])), ((a 5), .inr (7, [.ref (a 16), .int 0, .int 0, .int 0, .int 0, .int 0, .int 0]))] sz) := by
  refine Met.ofW (cc := cX11_deviceFact) (maxL := 2) (ret := (some .int)) (by decide) rfl ?_
  intro p e s m args below meth c s₁ B hml hv
  obtain ⟨rfl, hsz, hP, hK, hD0, hN⟩ := hv
  have hx := B.exec
  have hb := B.bytes
  have hr := B.returns
  have hts := atoms_spec (ws := w_c_deviceFact_15) B.pre
  have hown : s.vm.findClass RX11 = some m.cls := findClass_of_methodNamed B.named
  have hlocks := B.notSynchronized
  have hi_X1 : ∀ w ∈ wsX10, w ∈ w_c_deviceFact_15 := fun _ h => List.mem_cons_of_mem _ (List.mem_append_left _ (List.mem_append_right _ h))
  have hi_X3 : ∀ w ∈ wsX30, w ∈ w_c_deviceFact_15 := fun _ h => List.mem_cons_of_mem _ (List.mem_append_right _ h)
  subst hsz
  have hD := hD0.self (sz := s.heap.size)
  generalize hAe : va_A [((a 0), .inr (1, [.ref (a 1), .ref (a 4), .ref (a 5), .ref (a 6), .ref (a 8), .ref (a 10), .int 0, .int (nI (k + 1)), .int (nI k)])), ((a 1), .inr (0, [.ref (a 2), .int 0, .ref (a 3), .int 0])), ((a 4), .inr (2, [.ref (a 15), .int 0, .int 0, .int 0, .int 0, .int 0])), ((a 10), .inr (4, [.ref (a 11), .ref (a 23), .int 0, .ref (a 24), .int 0, .int 0, .int 0, .ref (a 25), .int 0, .ref (a 26), .int 0, .int 0])), ((a 11), .inr (8, [.int 0, .ref (a 12)])), ((a 6), .inr (3, [.ref (a 7), .int 0, .int 0, .int 0, .int 0, .int 0, .int 0, .int 0, .int 0, .int 0, .int 0, .int 0, .int 0, .int 0])), ((a 5), .inr (7, [.ref (a 16), .int 0, .int 0, .int 0, .int 0, .int 0, .int 0]))] s.heap.size = A at hD ⊢
  have hA : ∀ q : Nat, s.heap.size ≤ q → A q := fun q h => by rw [← hAe]; exact Or.inr h
  have hS : va_S A s.heap s.heap [] := va_S.rf
  have hP : va_P D vwCl [((a 0), .inr (1, [.ref (a 1), .ref (a 4), .ref (a 5), .ref (a 6), .ref (a 8), .ref (a 10), .int 0, .int (nI (k + 1)), .int (nI k)])), ((a 1), .inr (0, [.ref (a 2), .int 0, .ref (a 3), .int 0])), ((a 4), .inr (2, [.ref (a 15), .int 0, .int 0, .int 0, .int 0, .int 0])), ((a 10), .inr (4, [.ref (a 11), .ref (a 23), .int 0, .ref (a 24), .int 0, .int 0, .int 0, .ref (a 25), .int 0, .ref (a 26), .int 0, .int 0])), ((a 11), .inr (8, [.int 0, .ref (a 12)])), ((a 6), .inr (3, [.ref (a 7), .int 0, .int 0, .int 0, .int 0, .int 0, .int 0, .int 0, .int 0, .int 0, .int 0, .int 0, .int 0, .int 0])), ((a 5), .inr (7, [.ref (a 16), .int 0, .int 0, .int 0, .int 0, .int 0, .int 0]))] s.heap := hP
  have hl := lv_entry ([.ref (a 0), .int 15]) (n := 2) (Nat.le_of_ble_eq_true rfl)
  rw [lg_entry_eq]
  generalize (lg_sl ([.ref (a 0), .int 15]) ++ List.replicate (2 - (lg_sl ([.ref (a 0), .int 15])).length) Slot.unset).toArray = ls at hl ⊢
  have hl : lv_has ls 2 [(0, .ref (a 0)), (1, .int 15)] := hl
  refine lv_iload_n hx hb dX11_deviceFact_0 rfl (lv_at hl 1 rfl) ?_
  refine lv_tableIn (tgt := 83) (off := 82) hx hb dX11_deviceFact_1 (by decide) (by decide) rfl (by decide) ?_
  refine lv_aload_n hx hb dX11_deviceFact_83 rfl (lv_at hl 0 rfl) ?_
  refine va_get (D := D) (ci := 1) (v := .ref (a 6)) (C := RX1) (T := TX1) (N := 9) hx hb hts hi_X1 hown hK hP 0 rfl rfl 3 (by decide) (hts (.fieldLink RX11 92 "BeamHouse$Device" "link" "LBeamHouse$Link;") (List.mem_of_getElem? (i := 1) rfl)) (fun _ h9 => h9) rfl dX11_deviceFact_84 ?_
  refine va_get (D := D) (ci := 3) (v := .int 0) (C := RX3) (T := TX3) (N := 14) hx hb hts hi_X3 hown hK hP 5 rfl rfl 8 (by decide) (hts (.fieldLink RX11 229 "BeamHouse$Link" "hasTurn" "Z") (List.mem_of_getElem? (i := 2) rfl)) (fun _ h9 => h9) rfl dX11_deviceFact_87 ?_
  refine lv_if_eq (tgt := 97) hx hb dX11_deviceFact_90 (by decide) (fun _ => ?_) (fun h => absurd (by decide) h)
  refine lv_iconst (v := 0) hx hb dX11_deviceFact_97 (by decide) ?_
  exact W.iret (v := 0) hx hb hr (fun tt ht hW => ⟨⟨0, (), rfl, rfl, ⟨by rw [ht]; exact hP.sub [] rfl, hD.sub [] rfl rfl⟩⟩, hS.F ht⟩) hS.2.2 dX11_deviceFact_98
def w_c_deviceFact_16 : List Cond := .code yX11_deviceFact cX11_deviceFact 2 (some .int) :: (([.fieldLink RX11 74 "BeamHouse$Device" "search" "LBeamHouse$Search;", .fieldLink RX11 83 "BeamHouse$Search" "found" "I"] : List Cond) ++ wsX10 ++ wsX70)
set_option maxHeartbeats 4000000 in
set_option maxRecDepth 100000 in
theorem c_deviceFact_16 (l : Launch) (D : va_G) (ca : Nat → ClassId) (sz : Nat) (a : Nat → Nat) (k : Nat)  : Met l yX11_deviceFact w_c_deviceFact_16 ({ frames := 0, cells := 0, slots := 0, locals := 0 }) (Pre D ca [.ref (a 0), .int 16] [((a 0), .inr (1, [.ref (a 1), .ref (a 4), .ref (a 5), .ref (a 6), .ref (a 8), .ref (a 10), .int 0, .int (nI (k + 1)), .int (nI k)])), ((a 1), .inr (0, [.ref (a 2), .int 0, .ref (a 3), .int 0])), ((a 4), .inr (2, [.ref (a 15), .int 0, .int 0, .int 0, .int 0, .int 0])), ((a 10), .inr (4, [.ref (a 11), .ref (a 23), .int 0, .ref (a 24), .int 0, .int 0, .int 0, .ref (a 25), .int 0, .ref (a 26), .int 0, .int 0])), ((a 11), .inr (8, [.int 0, .ref (a 12)])), ((a 6), .inr (3, [.ref (a 7), .int 0, .int 0, .int 0, .int 0, .int 0, .int 0, .int 0, .int 0, .int 0, .int 0, .int 0, .int 0, .int 0])), ((a 5), .inr (7, [.ref (a 16), .int 0, .int 0, .int 0, .int 0, .int 0, .int 0]))] sz) (va_Qi (fun (r : Int32) (_ : Unit) => r = 0) (fun (_ : Unit) (tt : State) => Wd D (va_A [((a 0), .inr (1, [.ref (a 1), .ref (a 4), .ref (a 5), .ref (a 6), .ref (a 8), .ref (a 10), .int 0, .int (nI (k + 1)), .int (nI k)])), ((a 1), .inr (0, [.ref (a 2), .int 0, .ref (a 3), .int 0])), ((a 4), .inr (2, [.ref (a 15), .int 0, .int 0, .int 0, .int 0, .int 0])), ((a 10), .inr (4, [.ref (a 11), .ref (a 23), .int 0, .ref (a 24), .int 0, .int 0, .int 0, .ref (a 25), .int 0, .ref (a 26), .int 0, .int 0])), ((a 11), .inr (8, [.int 0, .ref (a 12)])), ((a 6), .inr (3, [.ref (a 7), .int 0, .int 0, .int 0, .int 0, .int 0, .int 0, .int 0, .int 0, .int 0, .int 0, .int 0, .int 0, .int 0])), ((a 5), .inr (7, [.ref (a 16), .int 0, .int 0, .int 0, .int 0, .int 0, .int 0]))] sz) [] tt) (va_A [((a 0), .inr (1, [.ref (a 1), .ref (a 4), .ref (a 5), .ref (a 6), .ref (a 8), .ref (a 10), .int 0, .int (nI (k + 1)), .int (nI k)])), ((a 1), .inr (0, [.ref (a 2), .int 0, .ref (a 3), .int 0])), ((a 4), .inr (2, [.ref (a 15), .int 0, .int 0, .int 0, .int 0, .int 0])), ((a 10), .inr (4, [.ref (a 11), .ref (a 23), .int 0, .ref (a 24), .int 0, .int 0, .int 0, .ref (a 25), .int 0, .ref (a 26), .int 0, .int 0])), ((a 11), .inr (8, [.int 0, .ref (a 12)])), ((a 6), .inr (3, [.ref (a 7), .int 0, .int 0, .int 0, .int 0, .int 0, .int 0, .int 0, .int 0, .int 0, .int 0, .int 0, .int 0, .int 0])), ((a 5), .inr (7, [.ref (a 16), .int 0, .int 0, .int 0, .int 0, .int 0, .int 0]))] sz)) 0 0 (va_A [((a 0), .inr (1, [.ref (a 1), .ref (a 4), .ref (a 5), .ref (a 6), .ref (a 8), .ref (a 10), .int 0, .int (nI (k + 1)), .int (nI k)])), ((a 1), .inr (0, [.ref (a 2), .int 0, .ref (a 3), .int 0])), ((a 4), .inr (2, [.ref (a 15), .int 0, .int 0, .int 0, .int 0, .int 0])), ((a 10), .inr (4, [.ref (a 11), .ref (a 23), .int 0, .ref (a 24), .int 0, .int 0, .int 0, .ref (a 25), .int 0, .ref (a 26), .int 0, .int 0])), ((a 11), .inr (8, [.int 0, .ref (a 12)])), ((a 6), .inr (3, [.ref (a 7), .int 0, .int 0, .int 0, .int 0, .int 0, .int 0, .int 0, .int 0, .int 0, .int 0, .int 0, .int 0, .int 0])), ((a 5), .inr (7, [.ref (a 16), .int 0, .int 0, .int 0, .int 0, .int 0, .int 0]))] sz) := by
  refine Met.ofW (cc := cX11_deviceFact) (maxL := 2) (ret := (some .int)) (by decide) rfl ?_
  intro p e s m args below meth c s₁ B hml hv
  obtain ⟨rfl, hsz, hP, hK, hD0, hN⟩ := hv
  have hx := B.exec
  have hb := B.bytes
  have hr := B.returns
  have hts := atoms_spec (ws := w_c_deviceFact_16) B.pre
  have hown : s.vm.findClass RX11 = some m.cls := findClass_of_methodNamed B.named
  have hlocks := B.notSynchronized
  have hi_X1 : ∀ w ∈ wsX10, w ∈ w_c_deviceFact_16 := fun _ h => List.mem_cons_of_mem _ (List.mem_append_left _ (List.mem_append_right _ h))
  have hi_X7 : ∀ w ∈ wsX70, w ∈ w_c_deviceFact_16 := fun _ h => List.mem_cons_of_mem _ (List.mem_append_right _ h)
  subst hsz
  have hD := hD0.self (sz := s.heap.size)
  generalize hAe : va_A [((a 0), .inr (1, [.ref (a 1), .ref (a 4), .ref (a 5), .ref (a 6), .ref (a 8), .ref (a 10), .int 0, .int (nI (k + 1)), .int (nI k)])), ((a 1), .inr (0, [.ref (a 2), .int 0, .ref (a 3), .int 0])), ((a 4), .inr (2, [.ref (a 15), .int 0, .int 0, .int 0, .int 0, .int 0])), ((a 10), .inr (4, [.ref (a 11), .ref (a 23), .int 0, .ref (a 24), .int 0, .int 0, .int 0, .ref (a 25), .int 0, .ref (a 26), .int 0, .int 0])), ((a 11), .inr (8, [.int 0, .ref (a 12)])), ((a 6), .inr (3, [.ref (a 7), .int 0, .int 0, .int 0, .int 0, .int 0, .int 0, .int 0, .int 0, .int 0, .int 0, .int 0, .int 0, .int 0])), ((a 5), .inr (7, [.ref (a 16), .int 0, .int 0, .int 0, .int 0, .int 0, .int 0]))] s.heap.size = A at hD ⊢
  have hA : ∀ q : Nat, s.heap.size ≤ q → A q := fun q h => by rw [← hAe]; exact Or.inr h
  have hS : va_S A s.heap s.heap [] := va_S.rf
  have hP : va_P D vwCl [((a 0), .inr (1, [.ref (a 1), .ref (a 4), .ref (a 5), .ref (a 6), .ref (a 8), .ref (a 10), .int 0, .int (nI (k + 1)), .int (nI k)])), ((a 1), .inr (0, [.ref (a 2), .int 0, .ref (a 3), .int 0])), ((a 4), .inr (2, [.ref (a 15), .int 0, .int 0, .int 0, .int 0, .int 0])), ((a 10), .inr (4, [.ref (a 11), .ref (a 23), .int 0, .ref (a 24), .int 0, .int 0, .int 0, .ref (a 25), .int 0, .ref (a 26), .int 0, .int 0])), ((a 11), .inr (8, [.int 0, .ref (a 12)])), ((a 6), .inr (3, [.ref (a 7), .int 0, .int 0, .int 0, .int 0, .int 0, .int 0, .int 0, .int 0, .int 0, .int 0, .int 0, .int 0, .int 0])), ((a 5), .inr (7, [.ref (a 16), .int 0, .int 0, .int 0, .int 0, .int 0, .int 0]))] s.heap := hP
  have hl := lv_entry ([.ref (a 0), .int 16]) (n := 2) (Nat.le_of_ble_eq_true rfl)
  rw [lg_entry_eq]
  generalize (lg_sl ([.ref (a 0), .int 16]) ++ List.replicate (2 - (lg_sl ([.ref (a 0), .int 16])).length) Slot.unset).toArray = ls at hl ⊢
  have hl : lv_has ls 2 [(0, .ref (a 0)), (1, .int 16)] := hl
  refine lv_iload_n hx hb dX11_deviceFact_0 rfl (lv_at hl 1 rfl) ?_
  refine lv_tableOut (tgt := 99) hx hb dX11_deviceFact_1 (by decide) (by decide) ?_
  refine lv_aload_n hx hb dX11_deviceFact_99 rfl (lv_at hl 0 rfl) ?_
  refine va_get (D := D) (ci := 1) (v := .ref (a 5)) (C := RX1) (T := TX1) (N := 9) hx hb hts hi_X1 hown hK hP 0 rfl rfl 2 (by decide) (hts (.fieldLink RX11 74 "BeamHouse$Device" "search" "LBeamHouse$Search;") (List.mem_of_getElem? (i := 1) rfl)) (fun _ h9 => h9) rfl dX11_deviceFact_100 ?_
  refine va_get (D := D) (ci := 7) (v := .int 0) (C := RX7) (T := TX7) (N := 7) hx hb hts hi_X7 hown hK hP 6 rfl rfl 1 (by decide) (hts (.fieldLink RX11 83 "BeamHouse$Search" "found" "I") (List.mem_of_getElem? (i := 2) rfl)) (fun _ h9 => h9) rfl dX11_deviceFact_103 ?_
  exact W.iret (v := 0) hx hb hr (fun tt ht hW => ⟨⟨0, (), rfl, rfl, ⟨by rw [ht]; exact hP.sub [] rfl, hD.sub [] rfl rfl⟩⟩, hS.F ht⟩) hS.2.2 dX11_deviceFact_106
def w_c_of_no : List Cond := .code yX11_of cX11_of 4 (some .int) :: (([.code yX11_deviceAt cX11_deviceAt 2 (some (.object "BeamHouse$Device")), .methodLink RX11 22 yX11_deviceAt, .instanceMethod yX11_deviceAt, .selects RX11 yX11_deviceAt yX11_deviceAt, .initialized RX11] : List Cond))
theorem g_c_of_no_c_deviceAt_no_22 : GoodIn w_c_of_no (wsV RX11 22 RX11 yX11_deviceAt w_c_deviceAt_no) := (goodIn_app (goodIn_r _ [2, 3, 4, 5] rfl rfl) (goodIn_r _ [1] rfl rfl))
set_option maxHeartbeats 4000000 in
set_option maxRecDepth 100000 in
theorem c_of_no (l : Launch) (D : va_G) (ca : Nat → ClassId) (sz : Nat) (h0 : Nat) (dv : Nat) (tp : Nat) (d : Int32) (wh : Int32) (hd : d < 0 ∨ 4 ≤ d) : Met l yX11_of w_c_of_no ({ frames := 1, cells := 0, slots := 0, locals := 21 }) (Pre D ca [.ref h0, .int d, .int wh] [(h0, .inr (11, [.ref dv, .ref tp, .int 0]))] sz) (va_Qi (fun (r : Int32) (_ : Unit) => r = -9) (fun (_ : Unit) (tt : State) => Wd D (va_A [(h0, .inr (11, [.ref dv, .ref tp, .int 0]))] sz) [] tt) (va_A [(h0, .inr (11, [.ref dv, .ref tp, .int 0]))] sz)) 0 0 (va_A [(h0, .inr (11, [.ref dv, .ref tp, .int 0]))] sz) := by
  refine Met.ofW (cc := cX11_of) (maxL := 4) (ret := (some .int)) (by decide) rfl ?_
  intro p e s m args below meth c s₁ B hml hv
  obtain ⟨rfl, hsz, hP, hK, hD0, hN⟩ := hv
  have hx := B.exec
  have hb := B.bytes
  have hr := B.returns
  have hts := atoms_spec (ws := w_c_of_no) B.pre
  have hown : s.vm.findClass RX11 = some m.cls := findClass_of_methodNamed B.named
  have hlocks := B.notSynchronized
  subst hsz
  have hD := hD0.self (sz := s.heap.size)
  generalize hAe : va_A [(h0, .inr (11, [.ref dv, .ref tp, .int 0]))] s.heap.size = A at hD ⊢
  have hA : ∀ q : Nat, s.heap.size ≤ q → A q := fun q h => by rw [← hAe]; exact Or.inr h
  have hS : va_S A s.heap s.heap [] := va_S.rf
  have hP : va_P D vwCl [(h0, .inr (11, [.ref dv, .ref tp, .int 0]))] s.heap := hP
  have hl := lv_entry ([.ref h0, .int d, .int wh]) (n := 4) (Nat.le_of_ble_eq_true rfl)
  rw [lg_entry_eq]
  generalize (lg_sl ([.ref h0, .int d, .int wh]) ++ List.replicate (4 - (lg_sl ([.ref h0, .int d, .int wh])).length) Slot.unset).toArray = ls at hl ⊢
  have hl : lv_has ls 4 [(0, .ref h0), (1, .int d), (2, .int wh)] := hl
  refine lv_aload_n hx hb dX11_of_0 rfl (lv_at hl 0 rfl) ?_
  refine lv_iload_n hx hb dX11_of_1 rfl (lv_at hl 1 rfl) ?_
  refine kGo_q (wr := []) (kRunV (As := [.int d]) (rest := []) ⟨hx, hb, hml, hown, hts⟩ (c_deviceAt_no l D ca _ h0 dv tp d hd) (cwV 1 hts g_c_of_no_c_deviceAt_no_22 rfl rfl rfl (by decide +kernel) ⟨Nat.le_of_ble_eq_true rfl, Nat.le_of_ble_eq_true rfl⟩) hK hN hP hD [0] rfl rfl rfl rfl rfl rfl hl.1 rfl (Nat.le_of_ble_eq_true rfl) dX11_of_2 ⟨Nat.le_of_ble_eq_true rfl, Nat.le_of_ble_eq_true rfl⟩) hP hD hS hA [0] [] rfl rfl rfl (by decide) (fun r_1 uu_ tt H locs hr_1 hB hj hS => ?_)
  have hWd := hB
  obtain ⟨hP, hD⟩ := hj _ hWd
  have hP : va_P D vwCl [(h0, .inr (11, [.ref dv, .ref tp, .int 0]))] H := hP
  have hD : va_D A [(h0, .inr (11, [.ref dv, .ref tp, .int 0]))] := hD
  subst hr_1
  refine W.eq (g2 := F0 m 5 ls [.null]) rfl ?_
  refine lv_astore_nN (lv' := [(3, .null), (0, .ref h0), (1, .int d), (2, .int wh)]) hx hb dX11_of_5 rfl hl (by decide) rfl (fun ls hl => ?_)
  refine lv_aload_nN hx hb dX11_of_6 rfl (lv_at hl 0 rfl) ?_
  refine lv_ifnullN (tgt := 20) hx hb dX11_of_7 (by decide) ?_
  refine lv_bipush (v := (-9)) hx hb dX11_of_20 (by decide) ?_
  exact W.iret (v := (-9)) hx hb hr (fun tt ht hW => ⟨⟨(-9), (), rfl, rfl, ⟨by rw [ht]; exact hP.sub [] rfl, hD.sub [] rfl rfl⟩⟩, hS.F ht⟩) hS.2.2 dX11_of_22
def w_c_of_yes : List Cond := .code yX11_of cX11_of 4 (some .int) :: (([.code yX11_deviceAt cX11_deviceAt 2 (some (.object "BeamHouse$Device")), .fieldLink RX11 11 "BeamHouse" "devices" "[LBeamHouse$Device;", .methodLink RX11 22 yX11_deviceAt, .instanceMethod yX11_deviceAt, .selects RX11 yX11_deviceAt yX11_deviceAt, .initialized RX11, .code yX11_linkFact cX11_linkFact 4 (some .int), .fieldLink RX11 92 "BeamHouse$Device" "link" "LBeamHouse$Link;", .code yX1_isLinked cX1_isLinked 1 (some .boolean), .fieldLink RX1 60 "BeamHouse$Device" "state" "I", .methodLink RX11 177 yX1_isLinked, .instanceMethod yX1_isLinked, .selects RX1 yX1_isLinked yX1_isLinked, .initialized RX1, .fieldLink RX11 26 "BeamHouse$Device" "state" "I", .methodLink RX11 166 yX11_linkFact, .static yX11_linkFact, .fieldLink RX11 30 "BeamHouse$Device" "address" "I", .fieldLink RX11 183 "BeamHouse$Link" "sentFrom" "I", .fieldLink RX11 186 "BeamHouse$Link" "taken" "I", .fieldLink RX11 189 "BeamHouse$Link" "parts" "LBeamHouse$Queue;", .fieldLink RX11 193 "BeamHouse$Queue" "count" "I", .fieldLink RX11 198 "BeamHouse$Device" "up" "LBeamHouse$Up;", .fieldLink RX11 202 "BeamHouse$Up" "rows" "LBeamHouse$Queue;", .fieldLink RX11 210 "BeamHouse$Up" "owed" "I", .code yX11_deviceFact cX11_deviceFact 2 (some .int), .fieldLink RX11 43 "BeamHouse$Device" "air" "LBeamHouse$Air;", .fieldLink RX11 57 "BeamHouse$Air" "length" "I", .methodLink RX11 170 yX11_deviceFact, .static yX11_deviceFact, .fieldLink RX11 213 "BeamHouse$Device" "ear" "LBeamHouse$Ear;", .fieldLink RX11 217 "BeamHouse$Ear" "frames" "I", .fieldLink RX11 222 "BeamHouse$Ear" "dropped" "I", .fieldLink RX11 119 "BeamHouse$Device" "objects" "LBeamHouse$Objects;", .fieldLink RX11 123 "BeamHouse$Objects" "store" "LBeamHouse$Store;", .fieldLink RX11 225 "BeamHouse$Store" "count" "I", .fieldLink RX11 226 "BeamHouse$Objects" "status" "I", .fieldLink RX11 229 "BeamHouse$Link" "hasTurn" "Z", .fieldLink RX11 74 "BeamHouse$Device" "search" "LBeamHouse$Search;", .fieldLink RX11 83 "BeamHouse$Search" "found" "I"] : List Cond) ++ wsX110 ++ wsX10 ++ wsX30 ++ wsX50 ++ wsX100 ++ wsX00 ++ wsX20 ++ wsX40 ++ wsX80 ++ wsX70)
theorem g_c_of_yes_c_deviceAt_yes_22 : GoodIn w_c_of_yes (wsV RX11 22 RX11 yX11_deviceAt w_c_deviceAt_yes) := (goodIn_app (goodIn_r _ [3, 4, 5, 6] rfl rfl) (goodIn_ca (goodIn_r _ [1, 2] rfl rfl) (goodIn_sub (fun _ h => List.mem_cons_of_mem _ (List.mem_append_left _ (List.mem_append_left _ (List.mem_append_left _ (List.mem_append_left _ (List.mem_append_left _ (List.mem_append_left _ (List.mem_append_left _ (List.mem_append_left _ (List.mem_append_left _ (List.mem_append_right _ h))))))))))) gw_X11)))
theorem g_c_of_yes_c_linkFact_0_166 : GoodIn w_c_of_yes (va_wsS RX11 166 yX11_linkFact w_c_linkFact_0) := (goodIn_app (goodIn_r _ [16, 17, 6] rfl rfl) (goodIn_ca (goodIn_r _ [7, 8, 9, 10, 11, 12, 13, 14, 15] rfl rfl) (goodIn_sub (fun _ h => List.mem_cons_of_mem _ (List.mem_append_left _ (List.mem_append_left _ (List.mem_append_left _ (List.mem_append_left _ (List.mem_append_left _ (List.mem_append_left _ (List.mem_append_left _ (List.mem_append_left _ (List.mem_append_right _ h)))))))))) gw_X1)))
theorem g_c_of_yes_c_linkFact_1_166 : GoodIn w_c_of_yes (va_wsS RX11 166 yX11_linkFact w_c_linkFact_1) := (goodIn_app (goodIn_r _ [16, 17, 6] rfl rfl) (goodIn_ca (goodIn_r _ [7, 8, 9, 10, 11, 12, 13, 14, 18] rfl rfl) (goodIn_sub (fun _ h => List.mem_cons_of_mem _ (List.mem_append_left _ (List.mem_append_left _ (List.mem_append_left _ (List.mem_append_left _ (List.mem_append_left _ (List.mem_append_left _ (List.mem_append_left _ (List.mem_append_left _ (List.mem_append_right _ h)))))))))) gw_X1)))
theorem g_c_of_yes_c_linkFact_2_166 : GoodIn w_c_of_yes (va_wsS RX11 166 yX11_linkFact w_c_linkFact_2) := (goodIn_app (goodIn_r _ [16, 17, 6] rfl rfl) (goodIn_ca (goodIn_r _ [7, 8, 9, 10, 11, 12, 13, 14, 15] rfl rfl) (goodIn_sub (fun _ h => List.mem_cons_of_mem _ (List.mem_append_left _ (List.mem_append_left _ (List.mem_append_left _ (List.mem_append_left _ (List.mem_append_left _ (List.mem_append_left _ (List.mem_append_left _ (List.mem_append_left _ (List.mem_append_right _ h)))))))))) gw_X1)))
theorem g_c_of_yes_c_linkFact_3_166 : GoodIn w_c_of_yes (va_wsS RX11 166 yX11_linkFact w_c_linkFact_3) := (goodIn_app (goodIn_r _ [16, 17, 6] rfl rfl) (goodIn_ca (goodIn_r _ [7, 8, 9, 10, 11, 12, 13, 14] rfl rfl) (goodIn_sub (fun _ h => List.mem_cons_of_mem _ (List.mem_append_left _ (List.mem_append_left _ (List.mem_append_left _ (List.mem_append_left _ (List.mem_append_left _ (List.mem_append_left _ (List.mem_append_left _ (List.mem_append_left _ (List.mem_append_right _ h)))))))))) gw_X1)))
theorem g_c_of_yes_c_linkFact_4_166 : GoodIn w_c_of_yes (va_wsS RX11 166 yX11_linkFact w_c_linkFact_4) := (goodIn_app (goodIn_r _ [16, 17, 6] rfl rfl) (goodIn_ca (goodIn_ca (goodIn_r _ [7, 8, 9, 10, 11, 12, 13, 14, 19] rfl rfl) (goodIn_sub (fun _ h => List.mem_cons_of_mem _ (List.mem_append_left _ (List.mem_append_left _ (List.mem_append_left _ (List.mem_append_left _ (List.mem_append_left _ (List.mem_append_left _ (List.mem_append_left _ (List.mem_append_left _ (List.mem_append_right _ h)))))))))) gw_X1)) (goodIn_sub (fun _ h => List.mem_cons_of_mem _ (List.mem_append_left _ (List.mem_append_left _ (List.mem_append_left _ (List.mem_append_left _ (List.mem_append_left _ (List.mem_append_left _ (List.mem_append_left _ (List.mem_append_right _ h))))))))) gw_X3)))
theorem g_c_of_yes_c_linkFact_5_166 : GoodIn w_c_of_yes (va_wsS RX11 166 yX11_linkFact w_c_linkFact_5) := (goodIn_app (goodIn_r _ [16, 17, 6] rfl rfl) (goodIn_ca (goodIn_ca (goodIn_r _ [7, 8, 9, 10, 11, 12, 13, 14, 20] rfl rfl) (goodIn_sub (fun _ h => List.mem_cons_of_mem _ (List.mem_append_left _ (List.mem_append_left _ (List.mem_append_left _ (List.mem_append_left _ (List.mem_append_left _ (List.mem_append_left _ (List.mem_append_left _ (List.mem_append_left _ (List.mem_append_right _ h)))))))))) gw_X1)) (goodIn_sub (fun _ h => List.mem_cons_of_mem _ (List.mem_append_left _ (List.mem_append_left _ (List.mem_append_left _ (List.mem_append_left _ (List.mem_append_left _ (List.mem_append_left _ (List.mem_append_left _ (List.mem_append_right _ h))))))))) gw_X3)))
theorem g_c_of_yes_c_linkFact_6_166 : GoodIn w_c_of_yes (va_wsS RX11 166 yX11_linkFact w_c_linkFact_6) := (goodIn_app (goodIn_r _ [16, 17, 6] rfl rfl) (goodIn_ca (goodIn_ca (goodIn_ca (goodIn_r _ [7, 8, 9, 10, 11, 12, 13, 14, 21, 22] rfl rfl) (goodIn_sub (fun _ h => List.mem_cons_of_mem _ (List.mem_append_left _ (List.mem_append_left _ (List.mem_append_left _ (List.mem_append_left _ (List.mem_append_left _ (List.mem_append_left _ (List.mem_append_left _ (List.mem_append_left _ (List.mem_append_right _ h)))))))))) gw_X1)) (goodIn_sub (fun _ h => List.mem_cons_of_mem _ (List.mem_append_left _ (List.mem_append_left _ (List.mem_append_left _ (List.mem_append_left _ (List.mem_append_left _ (List.mem_append_left _ (List.mem_append_left _ (List.mem_append_right _ h))))))))) gw_X3)) (goodIn_sub (fun _ h => List.mem_cons_of_mem _ (List.mem_append_left _ (List.mem_append_left _ (List.mem_append_left _ (List.mem_append_left _ (List.mem_append_left _ (List.mem_append_left _ (List.mem_append_right _ h)))))))) gw_X5)))
theorem g_c_of_yes_c_linkFact_7_166 : GoodIn w_c_of_yes (va_wsS RX11 166 yX11_linkFact w_c_linkFact_7) := (goodIn_app (goodIn_r _ [16, 17, 6] rfl rfl) (goodIn_ca (goodIn_ca (goodIn_ca (goodIn_r _ [7, 8, 9, 10, 11, 12, 13, 14, 23, 24, 22] rfl rfl) (goodIn_sub (fun _ h => List.mem_cons_of_mem _ (List.mem_append_left _ (List.mem_append_left _ (List.mem_append_left _ (List.mem_append_left _ (List.mem_append_left _ (List.mem_append_left _ (List.mem_append_left _ (List.mem_append_left _ (List.mem_append_right _ h)))))))))) gw_X1)) (goodIn_sub (fun _ h => List.mem_cons_of_mem _ (List.mem_append_left _ (List.mem_append_left _ (List.mem_append_left _ (List.mem_append_left _ (List.mem_append_left _ (List.mem_append_right _ h))))))) gw_X10)) (goodIn_sub (fun _ h => List.mem_cons_of_mem _ (List.mem_append_left _ (List.mem_append_left _ (List.mem_append_left _ (List.mem_append_left _ (List.mem_append_left _ (List.mem_append_left _ (List.mem_append_right _ h)))))))) gw_X5)))
theorem g_c_of_yes_c_linkFact_8_166 : GoodIn w_c_of_yes (va_wsS RX11 166 yX11_linkFact w_c_linkFact_8) := (goodIn_app (goodIn_r _ [16, 17, 6] rfl rfl) (goodIn_ca (goodIn_r _ [7, 8, 9, 10, 11, 12, 13, 14] rfl rfl) (goodIn_sub (fun _ h => List.mem_cons_of_mem _ (List.mem_append_left _ (List.mem_append_left _ (List.mem_append_left _ (List.mem_append_left _ (List.mem_append_left _ (List.mem_append_left _ (List.mem_append_left _ (List.mem_append_left _ (List.mem_append_right _ h)))))))))) gw_X1)))
theorem g_c_of_yes_c_linkFact_9_166 : GoodIn w_c_of_yes (va_wsS RX11 166 yX11_linkFact w_c_linkFact_9) := (goodIn_app (goodIn_r _ [16, 17, 6] rfl rfl) (goodIn_ca (goodIn_ca (goodIn_r _ [7, 8, 9, 10, 11, 12, 13, 14, 23, 25] rfl rfl) (goodIn_sub (fun _ h => List.mem_cons_of_mem _ (List.mem_append_left _ (List.mem_append_left _ (List.mem_append_left _ (List.mem_append_left _ (List.mem_append_left _ (List.mem_append_left _ (List.mem_append_left _ (List.mem_append_left _ (List.mem_append_right _ h)))))))))) gw_X1)) (goodIn_sub (fun _ h => List.mem_cons_of_mem _ (List.mem_append_left _ (List.mem_append_left _ (List.mem_append_left _ (List.mem_append_left _ (List.mem_append_left _ (List.mem_append_right _ h))))))) gw_X10)))
theorem g_c_of_yes_c_deviceFact_10_170 : GoodIn w_c_of_yes (va_wsS RX11 170 yX11_deviceFact w_c_deviceFact_10) := (goodIn_app (goodIn_r _ [29, 30, 6] rfl rfl) (goodIn_ca (goodIn_ca (goodIn_r _ [26, 27, 28] rfl rfl) (goodIn_sub (fun _ h => List.mem_cons_of_mem _ (List.mem_append_left _ (List.mem_append_left _ (List.mem_append_left _ (List.mem_append_left _ (List.mem_append_left _ (List.mem_append_left _ (List.mem_append_left _ (List.mem_append_left _ (List.mem_append_right _ h)))))))))) gw_X1)) (goodIn_sub (fun _ h => List.mem_cons_of_mem _ (List.mem_append_left _ (List.mem_append_left _ (List.mem_append_left _ (List.mem_append_left _ (List.mem_append_right _ h)))))) gw_X0)))
theorem g_c_of_yes_c_deviceFact_11_170 : GoodIn w_c_of_yes (va_wsS RX11 170 yX11_deviceFact w_c_deviceFact_11) := (goodIn_app (goodIn_r _ [29, 30, 6] rfl rfl) (goodIn_ca (goodIn_ca (goodIn_r _ [26, 31, 32] rfl rfl) (goodIn_sub (fun _ h => List.mem_cons_of_mem _ (List.mem_append_left _ (List.mem_append_left _ (List.mem_append_left _ (List.mem_append_left _ (List.mem_append_left _ (List.mem_append_left _ (List.mem_append_left _ (List.mem_append_left _ (List.mem_append_right _ h)))))))))) gw_X1)) (goodIn_sub (fun _ h => List.mem_cons_of_mem _ (List.mem_append_left _ (List.mem_append_left _ (List.mem_append_left _ (List.mem_append_right _ h))))) gw_X2)))
theorem g_c_of_yes_c_deviceFact_12_170 : GoodIn w_c_of_yes (va_wsS RX11 170 yX11_deviceFact w_c_deviceFact_12) := (goodIn_app (goodIn_r _ [29, 30, 6] rfl rfl) (goodIn_ca (goodIn_ca (goodIn_r _ [26, 31, 33] rfl rfl) (goodIn_sub (fun _ h => List.mem_cons_of_mem _ (List.mem_append_left _ (List.mem_append_left _ (List.mem_append_left _ (List.mem_append_left _ (List.mem_append_left _ (List.mem_append_left _ (List.mem_append_left _ (List.mem_append_left _ (List.mem_append_right _ h)))))))))) gw_X1)) (goodIn_sub (fun _ h => List.mem_cons_of_mem _ (List.mem_append_left _ (List.mem_append_left _ (List.mem_append_left _ (List.mem_append_right _ h))))) gw_X2)))
theorem g_c_of_yes_c_deviceFact_13_170 : GoodIn w_c_of_yes (va_wsS RX11 170 yX11_deviceFact w_c_deviceFact_13) := (goodIn_app (goodIn_r _ [29, 30, 6] rfl rfl) (goodIn_ca (goodIn_ca (goodIn_ca (goodIn_r _ [26, 34, 35, 36] rfl rfl) (goodIn_sub (fun _ h => List.mem_cons_of_mem _ (List.mem_append_left _ (List.mem_append_left _ (List.mem_append_left _ (List.mem_append_left _ (List.mem_append_left _ (List.mem_append_left _ (List.mem_append_left _ (List.mem_append_left _ (List.mem_append_right _ h)))))))))) gw_X1)) (goodIn_sub (fun _ h => List.mem_cons_of_mem _ (List.mem_append_left _ (List.mem_append_left _ (List.mem_append_right _ h)))) gw_X4)) (goodIn_sub (fun _ h => List.mem_cons_of_mem _ (List.mem_append_left _ (List.mem_append_right _ h))) gw_X8)))
theorem g_c_of_yes_c_deviceFact_14_170 : GoodIn w_c_of_yes (va_wsS RX11 170 yX11_deviceFact w_c_deviceFact_14) := (goodIn_app (goodIn_r _ [29, 30, 6] rfl rfl) (goodIn_ca (goodIn_ca (goodIn_r _ [26, 34, 37] rfl rfl) (goodIn_sub (fun _ h => List.mem_cons_of_mem _ (List.mem_append_left _ (List.mem_append_left _ (List.mem_append_left _ (List.mem_append_left _ (List.mem_append_left _ (List.mem_append_left _ (List.mem_append_left _ (List.mem_append_left _ (List.mem_append_right _ h)))))))))) gw_X1)) (goodIn_sub (fun _ h => List.mem_cons_of_mem _ (List.mem_append_left _ (List.mem_append_left _ (List.mem_append_right _ h)))) gw_X4)))
theorem g_c_of_yes_c_deviceFact_15_170 : GoodIn w_c_of_yes (va_wsS RX11 170 yX11_deviceFact w_c_deviceFact_15) := (goodIn_app (goodIn_r _ [29, 30, 6] rfl rfl) (goodIn_ca (goodIn_ca (goodIn_r _ [26, 8, 38] rfl rfl) (goodIn_sub (fun _ h => List.mem_cons_of_mem _ (List.mem_append_left _ (List.mem_append_left _ (List.mem_append_left _ (List.mem_append_left _ (List.mem_append_left _ (List.mem_append_left _ (List.mem_append_left _ (List.mem_append_left _ (List.mem_append_right _ h)))))))))) gw_X1)) (goodIn_sub (fun _ h => List.mem_cons_of_mem _ (List.mem_append_left _ (List.mem_append_left _ (List.mem_append_left _ (List.mem_append_left _ (List.mem_append_left _ (List.mem_append_left _ (List.mem_append_left _ (List.mem_append_right _ h))))))))) gw_X3)))
theorem g_c_of_yes_c_deviceFact_16_170 : GoodIn w_c_of_yes (va_wsS RX11 170 yX11_deviceFact w_c_deviceFact_16) := (goodIn_app (goodIn_r _ [29, 30, 6] rfl rfl) (goodIn_ca (goodIn_ca (goodIn_r _ [26, 39, 40] rfl rfl) (goodIn_sub (fun _ h => List.mem_cons_of_mem _ (List.mem_append_left _ (List.mem_append_left _ (List.mem_append_left _ (List.mem_append_left _ (List.mem_append_left _ (List.mem_append_left _ (List.mem_append_left _ (List.mem_append_left _ (List.mem_append_right _ h)))))))))) gw_X1)) (goodIn_sub (fun _ h => List.mem_cons_of_mem _ (List.mem_append_right _ h)) gw_X7)))
set_option maxHeartbeats 4000000 in
set_option maxRecDepth 100000 in
theorem c_of_yes (l : Launch) (D : va_G) (ca : Nat → ClassId) (sz : Nat) (h0 : Nat) (dv : Nat) (tp : Nat) (fd : Nat → Option Nat) (a : Nat → Nat) (k : Nat) (wh : Int32) (hk : k < 4) (hfd : fd k = some (a 0)) : Met l yX11_of w_c_of_yes ({ frames := 2, cells := 0, slots := 0, locals := 43 }) (Pre D ca [.ref h0, .int (nI k), .int wh] [(h0, .inr (11, [.ref dv, .ref tp, .int 0])), (dv, .inl (ca 2, 4, .inr (.inr (.inr (.inr fd))))), ((a 0), .inr (1, [.ref (a 1), .ref (a 4), .ref (a 5), .ref (a 6), .ref (a 8), .ref (a 10), .int 0, .int (nI (k + 1)), .int (nI k)])), ((a 1), .inr (0, [.ref (a 2), .int 0, .ref (a 3), .int 0])), ((a 4), .inr (2, [.ref (a 15), .int 0, .int 0, .int 0, .int 0, .int 0])), ((a 5), .inr (7, [.ref (a 16), .int 0, .int 0, .int 0, .int 0, .int 0, .int 0])), ((a 6), .inr (3, [.ref (a 7), .int 0, .int 0, .int 0, .int 0, .int 0, .int 0, .int 0, .int 0, .int 0, .int 0, .int 0, .int 0, .int 0])), ((a 7), .inr (5, [.int 0, .int 24, .int 32, .ref (a 17), .ref (a 18), .int 0])), ((a 8), .inr (10, [.ref (a 9), .ref (a 21), .int 0, .int 0, .ref (a 22), .int 0, .int 0, .int 0])), ((a 9), .inr (5, [.int 0, .int 8, .int 60, .ref (a 19), .ref (a 20), .int 0])), ((a 10), .inr (4, [.ref (a 11), .ref (a 23), .int 0, .ref (a 24), .int 0, .int 0, .int 0, .ref (a 25), .int 0, .ref (a 26), .int 0, .int 0])), ((a 11), .inr (8, [.int 0, .ref (a 12)]))] sz) (va_Qi (fun (r : Int32) (_ : Unit) => r = if wh = 1 then nI (k + 1) else if 0 ≤ wh ∧ wh ≤ 16 then 0 else -9) (fun (_ : Unit) (tt : State) => Wd D (va_A [(h0, .inr (11, [.ref dv, .ref tp, .int 0])), (dv, .inl (ca 2, 4, .inr (.inr (.inr (.inr fd))))), ((a 0), .inr (1, [.ref (a 1), .ref (a 4), .ref (a 5), .ref (a 6), .ref (a 8), .ref (a 10), .int 0, .int (nI (k + 1)), .int (nI k)])), ((a 1), .inr (0, [.ref (a 2), .int 0, .ref (a 3), .int 0])), ((a 4), .inr (2, [.ref (a 15), .int 0, .int 0, .int 0, .int 0, .int 0])), ((a 5), .inr (7, [.ref (a 16), .int 0, .int 0, .int 0, .int 0, .int 0, .int 0])), ((a 6), .inr (3, [.ref (a 7), .int 0, .int 0, .int 0, .int 0, .int 0, .int 0, .int 0, .int 0, .int 0, .int 0, .int 0, .int 0, .int 0])), ((a 7), .inr (5, [.int 0, .int 24, .int 32, .ref (a 17), .ref (a 18), .int 0])), ((a 8), .inr (10, [.ref (a 9), .ref (a 21), .int 0, .int 0, .ref (a 22), .int 0, .int 0, .int 0])), ((a 9), .inr (5, [.int 0, .int 8, .int 60, .ref (a 19), .ref (a 20), .int 0])), ((a 10), .inr (4, [.ref (a 11), .ref (a 23), .int 0, .ref (a 24), .int 0, .int 0, .int 0, .ref (a 25), .int 0, .ref (a 26), .int 0, .int 0])), ((a 11), .inr (8, [.int 0, .ref (a 12)]))] sz) [] tt) (va_A [(h0, .inr (11, [.ref dv, .ref tp, .int 0])), (dv, .inl (ca 2, 4, .inr (.inr (.inr (.inr fd))))), ((a 0), .inr (1, [.ref (a 1), .ref (a 4), .ref (a 5), .ref (a 6), .ref (a 8), .ref (a 10), .int 0, .int (nI (k + 1)), .int (nI k)])), ((a 1), .inr (0, [.ref (a 2), .int 0, .ref (a 3), .int 0])), ((a 4), .inr (2, [.ref (a 15), .int 0, .int 0, .int 0, .int 0, .int 0])), ((a 5), .inr (7, [.ref (a 16), .int 0, .int 0, .int 0, .int 0, .int 0, .int 0])), ((a 6), .inr (3, [.ref (a 7), .int 0, .int 0, .int 0, .int 0, .int 0, .int 0, .int 0, .int 0, .int 0, .int 0, .int 0, .int 0, .int 0])), ((a 7), .inr (5, [.int 0, .int 24, .int 32, .ref (a 17), .ref (a 18), .int 0])), ((a 8), .inr (10, [.ref (a 9), .ref (a 21), .int 0, .int 0, .ref (a 22), .int 0, .int 0, .int 0])), ((a 9), .inr (5, [.int 0, .int 8, .int 60, .ref (a 19), .ref (a 20), .int 0])), ((a 10), .inr (4, [.ref (a 11), .ref (a 23), .int 0, .ref (a 24), .int 0, .int 0, .int 0, .ref (a 25), .int 0, .ref (a 26), .int 0, .int 0])), ((a 11), .inr (8, [.int 0, .ref (a 12)]))] sz)) 0 0 (va_A [(h0, .inr (11, [.ref dv, .ref tp, .int 0])), (dv, .inl (ca 2, 4, .inr (.inr (.inr (.inr fd))))), ((a 0), .inr (1, [.ref (a 1), .ref (a 4), .ref (a 5), .ref (a 6), .ref (a 8), .ref (a 10), .int 0, .int (nI (k + 1)), .int (nI k)])), ((a 1), .inr (0, [.ref (a 2), .int 0, .ref (a 3), .int 0])), ((a 4), .inr (2, [.ref (a 15), .int 0, .int 0, .int 0, .int 0, .int 0])), ((a 5), .inr (7, [.ref (a 16), .int 0, .int 0, .int 0, .int 0, .int 0, .int 0])), ((a 6), .inr (3, [.ref (a 7), .int 0, .int 0, .int 0, .int 0, .int 0, .int 0, .int 0, .int 0, .int 0, .int 0, .int 0, .int 0, .int 0])), ((a 7), .inr (5, [.int 0, .int 24, .int 32, .ref (a 17), .ref (a 18), .int 0])), ((a 8), .inr (10, [.ref (a 9), .ref (a 21), .int 0, .int 0, .ref (a 22), .int 0, .int 0, .int 0])), ((a 9), .inr (5, [.int 0, .int 8, .int 60, .ref (a 19), .ref (a 20), .int 0])), ((a 10), .inr (4, [.ref (a 11), .ref (a 23), .int 0, .ref (a 24), .int 0, .int 0, .int 0, .ref (a 25), .int 0, .ref (a 26), .int 0, .int 0])), ((a 11), .inr (8, [.int 0, .ref (a 12)]))] sz) := by
  refine Met.ofW (cc := cX11_of) (maxL := 4) (ret := (some .int)) (by decide) rfl ?_
  intro p e s m args below meth c s₁ B hml hv
  obtain ⟨rfl, hsz, hP, hK, hD0, hN⟩ := hv
  have hx := B.exec
  have hb := B.bytes
  have hr := B.returns
  have hts := atoms_spec (ws := w_c_of_yes) B.pre
  have hown : s.vm.findClass RX11 = some m.cls := findClass_of_methodNamed B.named
  have hlocks := B.notSynchronized
  have hi_X11 : ∀ w ∈ wsX110, w ∈ w_c_of_yes := fun _ h => List.mem_cons_of_mem _ (List.mem_append_left _ (List.mem_append_left _ (List.mem_append_left _ (List.mem_append_left _ (List.mem_append_left _ (List.mem_append_left _ (List.mem_append_left _ (List.mem_append_left _ (List.mem_append_left _ (List.mem_append_right _ h))))))))))
  have hi_X1 : ∀ w ∈ wsX10, w ∈ w_c_of_yes := fun _ h => List.mem_cons_of_mem _ (List.mem_append_left _ (List.mem_append_left _ (List.mem_append_left _ (List.mem_append_left _ (List.mem_append_left _ (List.mem_append_left _ (List.mem_append_left _ (List.mem_append_left _ (List.mem_append_right _ h)))))))))
  have hi_X3 : ∀ w ∈ wsX30, w ∈ w_c_of_yes := fun _ h => List.mem_cons_of_mem _ (List.mem_append_left _ (List.mem_append_left _ (List.mem_append_left _ (List.mem_append_left _ (List.mem_append_left _ (List.mem_append_left _ (List.mem_append_left _ (List.mem_append_right _ h))))))))
  have hi_X5 : ∀ w ∈ wsX50, w ∈ w_c_of_yes := fun _ h => List.mem_cons_of_mem _ (List.mem_append_left _ (List.mem_append_left _ (List.mem_append_left _ (List.mem_append_left _ (List.mem_append_left _ (List.mem_append_left _ (List.mem_append_right _ h)))))))
  have hi_X10 : ∀ w ∈ wsX100, w ∈ w_c_of_yes := fun _ h => List.mem_cons_of_mem _ (List.mem_append_left _ (List.mem_append_left _ (List.mem_append_left _ (List.mem_append_left _ (List.mem_append_left _ (List.mem_append_right _ h))))))
  have hi_X0 : ∀ w ∈ wsX00, w ∈ w_c_of_yes := fun _ h => List.mem_cons_of_mem _ (List.mem_append_left _ (List.mem_append_left _ (List.mem_append_left _ (List.mem_append_left _ (List.mem_append_right _ h)))))
  have hi_X2 : ∀ w ∈ wsX20, w ∈ w_c_of_yes := fun _ h => List.mem_cons_of_mem _ (List.mem_append_left _ (List.mem_append_left _ (List.mem_append_left _ (List.mem_append_right _ h))))
  have hi_X4 : ∀ w ∈ wsX40, w ∈ w_c_of_yes := fun _ h => List.mem_cons_of_mem _ (List.mem_append_left _ (List.mem_append_left _ (List.mem_append_right _ h)))
  have hi_X8 : ∀ w ∈ wsX80, w ∈ w_c_of_yes := fun _ h => List.mem_cons_of_mem _ (List.mem_append_left _ (List.mem_append_right _ h))
  have hi_X7 : ∀ w ∈ wsX70, w ∈ w_c_of_yes := fun _ h => List.mem_cons_of_mem _ (List.mem_append_right _ h)
  subst hsz
  have hD := hD0.self (sz := s.heap.size)
  generalize hAe : va_A [(h0, .inr (11, [.ref dv, .ref tp, .int 0])), (dv, .inl (ca 2, 4, .inr (.inr (.inr (.inr fd))))), ((a 0), .inr (1, [.ref (a 1), .ref (a 4), .ref (a 5), .ref (a 6), .ref (a 8), .ref (a 10), .int 0, .int (nI (k + 1)), .int (nI k)])), ((a 1), .inr (0, [.ref (a 2), .int 0, .ref (a 3), .int 0])), ((a 4), .inr (2, [.ref (a 15), .int 0, .int 0, .int 0, .int 0, .int 0])), ((a 5), .inr (7, [.ref (a 16), .int 0, .int 0, .int 0, .int 0, .int 0, .int 0])), ((a 6), .inr (3, [.ref (a 7), .int 0, .int 0, .int 0, .int 0, .int 0, .int 0, .int 0, .int 0, .int 0, .int 0, .int 0, .int 0, .int 0])), ((a 7), .inr (5, [.int 0, .int 24, .int 32, .ref (a 17), .ref (a 18), .int 0])), ((a 8), .inr (10, [.ref (a 9), .ref (a 21), .int 0, .int 0, .ref (a 22), .int 0, .int 0, .int 0])), ((a 9), .inr (5, [.int 0, .int 8, .int 60, .ref (a 19), .ref (a 20), .int 0])), ((a 10), .inr (4, [.ref (a 11), .ref (a 23), .int 0, .ref (a 24), .int 0, .int 0, .int 0, .ref (a 25), .int 0, .ref (a 26), .int 0, .int 0])), ((a 11), .inr (8, [.int 0, .ref (a 12)]))] s.heap.size = A at hD ⊢
  have hA : ∀ q : Nat, s.heap.size ≤ q → A q := fun q h => by rw [← hAe]; exact Or.inr h
  have hS : va_S A s.heap s.heap [] := va_S.rf
  have hP : va_P D vwCl [(h0, .inr (11, [.ref dv, .ref tp, .int 0])), (dv, .inl (ca 2, 4, .inr (.inr (.inr (.inr fd))))), ((a 0), .inr (1, [.ref (a 1), .ref (a 4), .ref (a 5), .ref (a 6), .ref (a 8), .ref (a 10), .int 0, .int (nI (k + 1)), .int (nI k)])), ((a 1), .inr (0, [.ref (a 2), .int 0, .ref (a 3), .int 0])), ((a 4), .inr (2, [.ref (a 15), .int 0, .int 0, .int 0, .int 0, .int 0])), ((a 5), .inr (7, [.ref (a 16), .int 0, .int 0, .int 0, .int 0, .int 0, .int 0])), ((a 6), .inr (3, [.ref (a 7), .int 0, .int 0, .int 0, .int 0, .int 0, .int 0, .int 0, .int 0, .int 0, .int 0, .int 0, .int 0, .int 0])), ((a 7), .inr (5, [.int 0, .int 24, .int 32, .ref (a 17), .ref (a 18), .int 0])), ((a 8), .inr (10, [.ref (a 9), .ref (a 21), .int 0, .int 0, .ref (a 22), .int 0, .int 0, .int 0])), ((a 9), .inr (5, [.int 0, .int 8, .int 60, .ref (a 19), .ref (a 20), .int 0])), ((a 10), .inr (4, [.ref (a 11), .ref (a 23), .int 0, .ref (a 24), .int 0, .int 0, .int 0, .ref (a 25), .int 0, .ref (a 26), .int 0, .int 0])), ((a 11), .inr (8, [.int 0, .ref (a 12)]))] s.heap := hP
  have hl := lv_entry ([.ref h0, .int (nI k), .int wh]) (n := 4) (Nat.le_of_ble_eq_true rfl)
  rw [lg_entry_eq]
  generalize (lg_sl ([.ref h0, .int (nI k), .int wh]) ++ List.replicate (4 - (lg_sl ([.ref h0, .int (nI k), .int wh])).length) Slot.unset).toArray = ls at hl ⊢
  have hl : lv_has ls 4 [(0, .ref h0), (1, .int (nI k)), (2, .int wh)] := hl
  refine lv_aload_n hx hb dX11_of_0 rfl (lv_at hl 0 rfl) ?_
  refine lv_iload_n hx hb dX11_of_1 rfl (lv_at hl 1 rfl) ?_
  refine kGo_q (wr := [((a 0), .inr (1, [.ref (a 1), .ref (a 4), .ref (a 5), .ref (a 6), .ref (a 8), .ref (a 10), .int 0, .int (nI (k + 1)), .int (nI k)])), ((a 1), .inr (0, [.ref (a 2), .int 0, .ref (a 3), .int 0])), ((a 4), .inr (2, [.ref (a 15), .int 0, .int 0, .int 0, .int 0, .int 0])), ((a 5), .inr (7, [.ref (a 16), .int 0, .int 0, .int 0, .int 0, .int 0, .int 0])), ((a 6), .inr (3, [.ref (a 7), .int 0, .int 0, .int 0, .int 0, .int 0, .int 0, .int 0, .int 0, .int 0, .int 0, .int 0, .int 0, .int 0])), ((a 7), .inr (5, [.int 0, .int 24, .int 32, .ref (a 17), .ref (a 18), .int 0])), ((a 8), .inr (10, [.ref (a 9), .ref (a 21), .int 0, .int 0, .ref (a 22), .int 0, .int 0, .int 0])), ((a 9), .inr (5, [.int 0, .int 8, .int 60, .ref (a 19), .ref (a 20), .int 0])), ((a 10), .inr (4, [.ref (a 11), .ref (a 23), .int 0, .ref (a 24), .int 0, .int 0, .int 0, .ref (a 25), .int 0, .ref (a 26), .int 0, .int 0])), ((a 11), .inr (8, [.int 0, .ref (a 12)]))]) (kRunV (As := [.int (nI k)]) (rest := []) ⟨hx, hb, hml, hown, hts⟩ (c_deviceAt_yes l D ca _ h0 dv tp fd a k hk hfd) (cwV 1 hts g_c_of_yes_c_deviceAt_yes_22 rfl rfl rfl (by decide +kernel) ⟨Nat.le_of_ble_eq_true rfl, Nat.le_of_ble_eq_true rfl⟩) hK hN hP hD [0, 1] rfl rfl rfl rfl rfl rfl hl.1 rfl (Nat.le_of_ble_eq_true rfl) dX11_of_2 ⟨Nat.le_of_ble_eq_true rfl, Nat.le_of_ble_eq_true rfl⟩) hP hD hS hA [0, 1] [2, 3, 4, 5, 6, 7, 8, 9, 10, 11] rfl rfl rfl (by decide) (fun r_1 uu_ tt H locs hr_1 hB hj hS => ?_)
  have hWd := hB
  obtain ⟨hP, hD⟩ := hj _ hWd
  have hP : va_P D vwCl [((a 0), .inr (1, [.ref (a 1), .ref (a 4), .ref (a 5), .ref (a 6), .ref (a 8), .ref (a 10), .int 0, .int (nI (k + 1)), .int (nI k)])), ((a 1), .inr (0, [.ref (a 2), .int 0, .ref (a 3), .int 0])), ((a 4), .inr (2, [.ref (a 15), .int 0, .int 0, .int 0, .int 0, .int 0])), ((a 5), .inr (7, [.ref (a 16), .int 0, .int 0, .int 0, .int 0, .int 0, .int 0])), ((a 6), .inr (3, [.ref (a 7), .int 0, .int 0, .int 0, .int 0, .int 0, .int 0, .int 0, .int 0, .int 0, .int 0, .int 0, .int 0, .int 0])), ((a 7), .inr (5, [.int 0, .int 24, .int 32, .ref (a 17), .ref (a 18), .int 0])), ((a 8), .inr (10, [.ref (a 9), .ref (a 21), .int 0, .int 0, .ref (a 22), .int 0, .int 0, .int 0])), ((a 9), .inr (5, [.int 0, .int 8, .int 60, .ref (a 19), .ref (a 20), .int 0])), ((a 10), .inr (4, [.ref (a 11), .ref (a 23), .int 0, .ref (a 24), .int 0, .int 0, .int 0, .ref (a 25), .int 0, .ref (a 26), .int 0, .int 0])), ((a 11), .inr (8, [.int 0, .ref (a 12)])), (h0, .inr (11, [.ref dv, .ref tp, .int 0])), (dv, .inl (ca 2, 4, .inr (.inr (.inr (.inr fd)))))] H := hP
  have hD : va_D A [((a 0), .inr (1, [.ref (a 1), .ref (a 4), .ref (a 5), .ref (a 6), .ref (a 8), .ref (a 10), .int 0, .int (nI (k + 1)), .int (nI k)])), ((a 1), .inr (0, [.ref (a 2), .int 0, .ref (a 3), .int 0])), ((a 4), .inr (2, [.ref (a 15), .int 0, .int 0, .int 0, .int 0, .int 0])), ((a 5), .inr (7, [.ref (a 16), .int 0, .int 0, .int 0, .int 0, .int 0, .int 0])), ((a 6), .inr (3, [.ref (a 7), .int 0, .int 0, .int 0, .int 0, .int 0, .int 0, .int 0, .int 0, .int 0, .int 0, .int 0, .int 0, .int 0])), ((a 7), .inr (5, [.int 0, .int 24, .int 32, .ref (a 17), .ref (a 18), .int 0])), ((a 8), .inr (10, [.ref (a 9), .ref (a 21), .int 0, .int 0, .ref (a 22), .int 0, .int 0, .int 0])), ((a 9), .inr (5, [.int 0, .int 8, .int 60, .ref (a 19), .ref (a 20), .int 0])), ((a 10), .inr (4, [.ref (a 11), .ref (a 23), .int 0, .ref (a 24), .int 0, .int 0, .int 0, .ref (a 25), .int 0, .ref (a 26), .int 0, .int 0])), ((a 11), .inr (8, [.int 0, .ref (a 12)])), (h0, .inr (11, [.ref dv, .ref tp, .int 0])), (dv, .inl (ca 2, 4, .inr (.inr (.inr (.inr fd)))))] := hD
  subst hr_1
  refine W.eq (g2 := F0 m 5 ls [.ref (a 0)]) rfl ?_
  refine lv_astore_n (lv' := [(3, .ref (a 0)), (0, .ref h0), (1, .int (nI k)), (2, .int wh)]) hx hb dX11_of_5 rfl hl (by decide) rfl (fun ls hl => ?_)
  refine lv_aload_n hx hb dX11_of_6 rfl (lv_at hl 0 rfl) ?_
  refine lv_ifnull hx hb dX11_of_7 ?_
  refine lv_iload_n hx hb dX11_of_10 rfl (lv_at hl 3 rfl) ?_
  refine lv_if_lt (tgt := 20) hx hb dX11_of_11 (by decide) (fun c_11 => ?_) (fun c_11 => ?_)
  · refine lv_bipush (v := (-9)) hx hb dX11_of_20 (by decide) ?_
    exact W.iret (v := (-9)) hx hb hr (fun tt ht hW => ⟨⟨(-9), (), rfl, (by rw [if_neg (fun h => absurd c_11 (by rw [h]; decide)), if_neg (fun h => absurd c_11 (Int32.not_lt.mpr h.1))]), ⟨by rw [ht]; exact hP.sub [] rfl, hD.sub [] rfl rfl⟩⟩, hS.F ht⟩) hS.2.2 dX11_of_22
  · refine lv_iload_n hx hb dX11_of_14 rfl (lv_at hl 3 rfl) ?_
    refine lv_bipush (v := 16) hx hb dX11_of_15 (by decide) ?_
    refine lv_icmp_le (tgt := 23) hx hb dX11_of_17 (by decide) (fun c_17 => ?_) (fun c_17 => ?_)
    · obtain ⟨j, hj, rfl⟩ := nI_of2 (M := 16) (n := 16) (by decide) c_11 c_17
      rcases (show j = 0 ∨ j = 1 ∨ j = 2 ∨ j = 3 ∨ j = 4 ∨ j = 5 ∨ j = 6 ∨ j = 7 ∨ j = 8 ∨ j = 9 ∨ j = 10 ∨ j = 11 ∨ j = 12 ∨ j = 13 ∨ j = 14 ∨ j = 15 ∨ j = 16 by omega) with rfl | rfl | rfl | rfl | rfl | rfl | rfl | rfl | rfl | rfl | rfl | rfl | rfl | rfl | rfl | rfl | rfl
      · refine lv_iload_n hx hb dX11_of_23 rfl (lv_at hl 3 rfl) ?_
        refine lv_bipush (v := 10) hx hb dX11_of_24 (by decide) ?_
        refine lv_icmp_ge (tgt := 37) hx hb dX11_of_26 (by decide) (fun h => absurd h (by decide)) (fun _ => ?_)
        refine lv_aload_n hx hb dX11_of_29 rfl (lv_at hl 0 rfl) ?_
        refine lv_iload_n hx hb dX11_of_30 rfl (lv_at hl 3 rfl) ?_
        refine kGo_i (wr := [((a 1), .inr (0, [.ref (a 2), .int 0, .ref (a 3), .int 0])), ((a 4), .inr (2, [.ref (a 15), .int 0, .int 0, .int 0, .int 0, .int 0])), ((a 5), .inr (7, [.ref (a 16), .int 0, .int 0, .int 0, .int 0, .int 0, .int 0])), ((a 10), .inr (4, [.ref (a 11), .ref (a 23), .int 0, .ref (a 24), .int 0, .int 0, .int 0, .ref (a 25), .int 0, .ref (a 26), .int 0, .int 0])), ((a 11), .inr (8, [.int 0, .ref (a 12)])), (h0, .inr (11, [.ref dv, .ref tp, .int 0])), (dv, .inl (ca 2, 4, .inr (.inr (.inr (.inr fd)))))]) (kRunS (As := [.ref (a 0), .int 0]) (rest := []) ⟨hx, hb, hml, hown, hts⟩ (c_linkFact_0 l D ca _ a k) (va_cwS 2 hts g_c_of_yes_c_linkFact_0_166 rfl rfl rfl (by decide +kernel) ⟨Nat.le_of_ble_eq_true rfl, Nat.le_of_ble_eq_true rfl⟩) hK hN hP hD [0, 4, 5, 6, 7] rfl rfl rfl hl.1 rfl (Nat.le_of_ble_eq_true rfl) dX11_of_31 ⟨Nat.le_of_ble_eq_true rfl, Nat.le_of_ble_eq_true rfl⟩) hP hD hS hA [0, 4, 5, 6, 7] [1, 2, 3, 8, 9, 10, 11] rfl rfl rfl (by decide) (fun r_2 uu_ tt H locs hr_2 hB hj hS => ?_)
        have hWd := hB
        obtain ⟨hP, hD⟩ := hj _ hWd
        have hP : va_P D vwCl [((a 1), .inr (0, [.ref (a 2), .int 0, .ref (a 3), .int 0])), ((a 4), .inr (2, [.ref (a 15), .int 0, .int 0, .int 0, .int 0, .int 0])), ((a 5), .inr (7, [.ref (a 16), .int 0, .int 0, .int 0, .int 0, .int 0, .int 0])), ((a 10), .inr (4, [.ref (a 11), .ref (a 23), .int 0, .ref (a 24), .int 0, .int 0, .int 0, .ref (a 25), .int 0, .ref (a 26), .int 0, .int 0])), ((a 11), .inr (8, [.int 0, .ref (a 12)])), (h0, .inr (11, [.ref dv, .ref tp, .int 0])), (dv, .inl (ca 2, 4, .inr (.inr (.inr (.inr fd)))))] H := hP
        have hD : va_D A [((a 1), .inr (0, [.ref (a 2), .int 0, .ref (a 3), .int 0])), ((a 4), .inr (2, [.ref (a 15), .int 0, .int 0, .int 0, .int 0, .int 0])), ((a 5), .inr (7, [.ref (a 16), .int 0, .int 0, .int 0, .int 0, .int 0, .int 0])), ((a 10), .inr (4, [.ref (a 11), .ref (a 23), .int 0, .ref (a 24), .int 0, .int 0, .int 0, .ref (a 25), .int 0, .ref (a 26), .int 0, .int 0])), ((a 11), .inr (8, [.int 0, .ref (a 12)])), (h0, .inr (11, [.ref dv, .ref tp, .int 0])), (dv, .inl (ca 2, 4, .inr (.inr (.inr (.inr fd)))))] := hD
        subst hr_2
        refine lv_goto (tgt := 42) hx hb dX11_of_34 (by decide) ?_
        exact W.iret (v := 0) hx hb hr (fun tt ht hW => ⟨⟨0, (), rfl, (by rw [if_neg (by decide), if_pos (by decide)]), ⟨by rw [ht]; exact hP.sub [] rfl, hD.sub [] rfl rfl⟩⟩, hS.F ht⟩) hS.2.2 dX11_of_42
      · refine lv_iload_n hx hb dX11_of_23 rfl (lv_at hl 3 rfl) ?_
        refine lv_bipush (v := 10) hx hb dX11_of_24 (by decide) ?_
        refine lv_icmp_ge (tgt := 37) hx hb dX11_of_26 (by decide) (fun h => absurd h (by decide)) (fun _ => ?_)
        refine lv_aload_n hx hb dX11_of_29 rfl (lv_at hl 0 rfl) ?_
        refine lv_iload_n hx hb dX11_of_30 rfl (lv_at hl 3 rfl) ?_
        refine kGo_i (wr := [((a 1), .inr (0, [.ref (a 2), .int 0, .ref (a 3), .int 0])), ((a 4), .inr (2, [.ref (a 15), .int 0, .int 0, .int 0, .int 0, .int 0])), ((a 5), .inr (7, [.ref (a 16), .int 0, .int 0, .int 0, .int 0, .int 0, .int 0])), ((a 10), .inr (4, [.ref (a 11), .ref (a 23), .int 0, .ref (a 24), .int 0, .int 0, .int 0, .ref (a 25), .int 0, .ref (a 26), .int 0, .int 0])), ((a 11), .inr (8, [.int 0, .ref (a 12)])), (h0, .inr (11, [.ref dv, .ref tp, .int 0])), (dv, .inl (ca 2, 4, .inr (.inr (.inr (.inr fd)))))]) (kRunS (As := [.ref (a 0), .int 1]) (rest := []) ⟨hx, hb, hml, hown, hts⟩ (c_linkFact_1 l D ca _ a k) (va_cwS 2 hts g_c_of_yes_c_linkFact_1_166 rfl rfl rfl (by decide +kernel) ⟨Nat.le_of_ble_eq_true rfl, Nat.le_of_ble_eq_true rfl⟩) hK hN hP hD [0, 4, 5, 6, 7] rfl rfl rfl hl.1 rfl (Nat.le_of_ble_eq_true rfl) dX11_of_31 ⟨Nat.le_of_ble_eq_true rfl, Nat.le_of_ble_eq_true rfl⟩) hP hD hS hA [0, 4, 5, 6, 7] [1, 2, 3, 8, 9, 10, 11] rfl rfl rfl (by decide) (fun r_3 uu_ tt H locs hr_3 hB hj hS => ?_)
        have hWd := hB
        obtain ⟨hP, hD⟩ := hj _ hWd
        have hP : va_P D vwCl [((a 1), .inr (0, [.ref (a 2), .int 0, .ref (a 3), .int 0])), ((a 4), .inr (2, [.ref (a 15), .int 0, .int 0, .int 0, .int 0, .int 0])), ((a 5), .inr (7, [.ref (a 16), .int 0, .int 0, .int 0, .int 0, .int 0, .int 0])), ((a 10), .inr (4, [.ref (a 11), .ref (a 23), .int 0, .ref (a 24), .int 0, .int 0, .int 0, .ref (a 25), .int 0, .ref (a 26), .int 0, .int 0])), ((a 11), .inr (8, [.int 0, .ref (a 12)])), (h0, .inr (11, [.ref dv, .ref tp, .int 0])), (dv, .inl (ca 2, 4, .inr (.inr (.inr (.inr fd)))))] H := hP
        have hD : va_D A [((a 1), .inr (0, [.ref (a 2), .int 0, .ref (a 3), .int 0])), ((a 4), .inr (2, [.ref (a 15), .int 0, .int 0, .int 0, .int 0, .int 0])), ((a 5), .inr (7, [.ref (a 16), .int 0, .int 0, .int 0, .int 0, .int 0, .int 0])), ((a 10), .inr (4, [.ref (a 11), .ref (a 23), .int 0, .ref (a 24), .int 0, .int 0, .int 0, .ref (a 25), .int 0, .ref (a 26), .int 0, .int 0])), ((a 11), .inr (8, [.int 0, .ref (a 12)])), (h0, .inr (11, [.ref dv, .ref tp, .int 0])), (dv, .inl (ca 2, 4, .inr (.inr (.inr (.inr fd)))))] := hD
        subst hr_3
        refine lv_goto (tgt := 42) hx hb dX11_of_34 (by decide) ?_
        exact W.iret (v := (nI (k + 1))) hx hb hr (fun tt ht hW => ⟨⟨(nI (k + 1)), (), rfl, (by rw [if_pos (by decide)]), ⟨by rw [ht]; exact hP.sub [] rfl, hD.sub [] rfl rfl⟩⟩, hS.F ht⟩) hS.2.2 dX11_of_42
      · refine lv_iload_n hx hb dX11_of_23 rfl (lv_at hl 3 rfl) ?_
        refine lv_bipush (v := 10) hx hb dX11_of_24 (by decide) ?_
        refine lv_icmp_ge (tgt := 37) hx hb dX11_of_26 (by decide) (fun h => absurd h (by decide)) (fun _ => ?_)
        refine lv_aload_n hx hb dX11_of_29 rfl (lv_at hl 0 rfl) ?_
        refine lv_iload_n hx hb dX11_of_30 rfl (lv_at hl 3 rfl) ?_
        refine kGo_i (wr := [((a 1), .inr (0, [.ref (a 2), .int 0, .ref (a 3), .int 0])), ((a 4), .inr (2, [.ref (a 15), .int 0, .int 0, .int 0, .int 0, .int 0])), ((a 5), .inr (7, [.ref (a 16), .int 0, .int 0, .int 0, .int 0, .int 0, .int 0])), ((a 10), .inr (4, [.ref (a 11), .ref (a 23), .int 0, .ref (a 24), .int 0, .int 0, .int 0, .ref (a 25), .int 0, .ref (a 26), .int 0, .int 0])), ((a 11), .inr (8, [.int 0, .ref (a 12)])), (h0, .inr (11, [.ref dv, .ref tp, .int 0])), (dv, .inl (ca 2, 4, .inr (.inr (.inr (.inr fd)))))]) (kRunS (As := [.ref (a 0), .int 2]) (rest := []) ⟨hx, hb, hml, hown, hts⟩ (c_linkFact_2 l D ca _ a k) (va_cwS 2 hts g_c_of_yes_c_linkFact_2_166 rfl rfl rfl (by decide +kernel) ⟨Nat.le_of_ble_eq_true rfl, Nat.le_of_ble_eq_true rfl⟩) hK hN hP hD [0, 4, 5, 6, 7] rfl rfl rfl hl.1 rfl (Nat.le_of_ble_eq_true rfl) dX11_of_31 ⟨Nat.le_of_ble_eq_true rfl, Nat.le_of_ble_eq_true rfl⟩) hP hD hS hA [0, 4, 5, 6, 7] [1, 2, 3, 8, 9, 10, 11] rfl rfl rfl (by decide) (fun r_4 uu_ tt H locs hr_4 hB hj hS => ?_)
        have hWd := hB
        obtain ⟨hP, hD⟩ := hj _ hWd
        have hP : va_P D vwCl [((a 1), .inr (0, [.ref (a 2), .int 0, .ref (a 3), .int 0])), ((a 4), .inr (2, [.ref (a 15), .int 0, .int 0, .int 0, .int 0, .int 0])), ((a 5), .inr (7, [.ref (a 16), .int 0, .int 0, .int 0, .int 0, .int 0, .int 0])), ((a 10), .inr (4, [.ref (a 11), .ref (a 23), .int 0, .ref (a 24), .int 0, .int 0, .int 0, .ref (a 25), .int 0, .ref (a 26), .int 0, .int 0])), ((a 11), .inr (8, [.int 0, .ref (a 12)])), (h0, .inr (11, [.ref dv, .ref tp, .int 0])), (dv, .inl (ca 2, 4, .inr (.inr (.inr (.inr fd)))))] H := hP
        have hD : va_D A [((a 1), .inr (0, [.ref (a 2), .int 0, .ref (a 3), .int 0])), ((a 4), .inr (2, [.ref (a 15), .int 0, .int 0, .int 0, .int 0, .int 0])), ((a 5), .inr (7, [.ref (a 16), .int 0, .int 0, .int 0, .int 0, .int 0, .int 0])), ((a 10), .inr (4, [.ref (a 11), .ref (a 23), .int 0, .ref (a 24), .int 0, .int 0, .int 0, .ref (a 25), .int 0, .ref (a 26), .int 0, .int 0])), ((a 11), .inr (8, [.int 0, .ref (a 12)])), (h0, .inr (11, [.ref dv, .ref tp, .int 0])), (dv, .inl (ca 2, 4, .inr (.inr (.inr (.inr fd)))))] := hD
        subst hr_4
        refine lv_goto (tgt := 42) hx hb dX11_of_34 (by decide) ?_
        exact W.iret (v := 0) hx hb hr (fun tt ht hW => ⟨⟨0, (), rfl, (by rw [if_neg (by decide), if_pos (by decide)]), ⟨by rw [ht]; exact hP.sub [] rfl, hD.sub [] rfl rfl⟩⟩, hS.F ht⟩) hS.2.2 dX11_of_42
      · refine lv_iload_n hx hb dX11_of_23 rfl (lv_at hl 3 rfl) ?_
        refine lv_bipush (v := 10) hx hb dX11_of_24 (by decide) ?_
        refine lv_icmp_ge (tgt := 37) hx hb dX11_of_26 (by decide) (fun h => absurd h (by decide)) (fun _ => ?_)
        refine lv_aload_n hx hb dX11_of_29 rfl (lv_at hl 0 rfl) ?_
        refine lv_iload_n hx hb dX11_of_30 rfl (lv_at hl 3 rfl) ?_
        refine kGo_i (wr := [((a 1), .inr (0, [.ref (a 2), .int 0, .ref (a 3), .int 0])), ((a 4), .inr (2, [.ref (a 15), .int 0, .int 0, .int 0, .int 0, .int 0])), ((a 5), .inr (7, [.ref (a 16), .int 0, .int 0, .int 0, .int 0, .int 0, .int 0])), ((a 10), .inr (4, [.ref (a 11), .ref (a 23), .int 0, .ref (a 24), .int 0, .int 0, .int 0, .ref (a 25), .int 0, .ref (a 26), .int 0, .int 0])), ((a 11), .inr (8, [.int 0, .ref (a 12)])), (h0, .inr (11, [.ref dv, .ref tp, .int 0])), (dv, .inl (ca 2, 4, .inr (.inr (.inr (.inr fd)))))]) (kRunS (As := [.ref (a 0), .int 3]) (rest := []) ⟨hx, hb, hml, hown, hts⟩ (c_linkFact_3 l D ca _ a k) (va_cwS 2 hts g_c_of_yes_c_linkFact_3_166 rfl rfl rfl (by decide +kernel) ⟨Nat.le_of_ble_eq_true rfl, Nat.le_of_ble_eq_true rfl⟩) hK hN hP hD [0, 4, 5, 6, 7] rfl rfl rfl hl.1 rfl (Nat.le_of_ble_eq_true rfl) dX11_of_31 ⟨Nat.le_of_ble_eq_true rfl, Nat.le_of_ble_eq_true rfl⟩) hP hD hS hA [0, 4, 5, 6, 7] [1, 2, 3, 8, 9, 10, 11] rfl rfl rfl (by decide) (fun r_5 uu_ tt H locs hr_5 hB hj hS => ?_)
        have hWd := hB
        obtain ⟨hP, hD⟩ := hj _ hWd
        have hP : va_P D vwCl [((a 1), .inr (0, [.ref (a 2), .int 0, .ref (a 3), .int 0])), ((a 4), .inr (2, [.ref (a 15), .int 0, .int 0, .int 0, .int 0, .int 0])), ((a 5), .inr (7, [.ref (a 16), .int 0, .int 0, .int 0, .int 0, .int 0, .int 0])), ((a 10), .inr (4, [.ref (a 11), .ref (a 23), .int 0, .ref (a 24), .int 0, .int 0, .int 0, .ref (a 25), .int 0, .ref (a 26), .int 0, .int 0])), ((a 11), .inr (8, [.int 0, .ref (a 12)])), (h0, .inr (11, [.ref dv, .ref tp, .int 0])), (dv, .inl (ca 2, 4, .inr (.inr (.inr (.inr fd)))))] H := hP
        have hD : va_D A [((a 1), .inr (0, [.ref (a 2), .int 0, .ref (a 3), .int 0])), ((a 4), .inr (2, [.ref (a 15), .int 0, .int 0, .int 0, .int 0, .int 0])), ((a 5), .inr (7, [.ref (a 16), .int 0, .int 0, .int 0, .int 0, .int 0, .int 0])), ((a 10), .inr (4, [.ref (a 11), .ref (a 23), .int 0, .ref (a 24), .int 0, .int 0, .int 0, .ref (a 25), .int 0, .ref (a 26), .int 0, .int 0])), ((a 11), .inr (8, [.int 0, .ref (a 12)])), (h0, .inr (11, [.ref dv, .ref tp, .int 0])), (dv, .inl (ca 2, 4, .inr (.inr (.inr (.inr fd)))))] := hD
        subst hr_5
        refine lv_goto (tgt := 42) hx hb dX11_of_34 (by decide) ?_
        exact W.iret (v := 0) hx hb hr (fun tt ht hW => ⟨⟨0, (), rfl, (by rw [if_neg (by decide), if_pos (by decide)]), ⟨by rw [ht]; exact hP.sub [] rfl, hD.sub [] rfl rfl⟩⟩, hS.F ht⟩) hS.2.2 dX11_of_42
      · refine lv_iload_n hx hb dX11_of_23 rfl (lv_at hl 3 rfl) ?_
        refine lv_bipush (v := 10) hx hb dX11_of_24 (by decide) ?_
        refine lv_icmp_ge (tgt := 37) hx hb dX11_of_26 (by decide) (fun h => absurd h (by decide)) (fun _ => ?_)
        refine lv_aload_n hx hb dX11_of_29 rfl (lv_at hl 0 rfl) ?_
        refine lv_iload_n hx hb dX11_of_30 rfl (lv_at hl 3 rfl) ?_
        refine kGo_i (wr := [((a 1), .inr (0, [.ref (a 2), .int 0, .ref (a 3), .int 0])), ((a 4), .inr (2, [.ref (a 15), .int 0, .int 0, .int 0, .int 0, .int 0])), ((a 5), .inr (7, [.ref (a 16), .int 0, .int 0, .int 0, .int 0, .int 0, .int 0])), ((a 10), .inr (4, [.ref (a 11), .ref (a 23), .int 0, .ref (a 24), .int 0, .int 0, .int 0, .ref (a 25), .int 0, .ref (a 26), .int 0, .int 0])), ((a 11), .inr (8, [.int 0, .ref (a 12)])), (h0, .inr (11, [.ref dv, .ref tp, .int 0])), (dv, .inl (ca 2, 4, .inr (.inr (.inr (.inr fd)))))]) (kRunS (As := [.ref (a 0), .int 4]) (rest := []) ⟨hx, hb, hml, hown, hts⟩ (c_linkFact_4 l D ca _ a k) (va_cwS 2 hts g_c_of_yes_c_linkFact_4_166 rfl rfl rfl (by decide +kernel) ⟨Nat.le_of_ble_eq_true rfl, Nat.le_of_ble_eq_true rfl⟩) hK hN hP hD [0, 4, 5, 6, 7] rfl rfl rfl hl.1 rfl (Nat.le_of_ble_eq_true rfl) dX11_of_31 ⟨Nat.le_of_ble_eq_true rfl, Nat.le_of_ble_eq_true rfl⟩) hP hD hS hA [0, 4, 5, 6, 7] [1, 2, 3, 8, 9, 10, 11] rfl rfl rfl (by decide) (fun r_6 uu_ tt H locs hr_6 hB hj hS => ?_)
        have hWd := hB
        obtain ⟨hP, hD⟩ := hj _ hWd
        have hP : va_P D vwCl [((a 1), .inr (0, [.ref (a 2), .int 0, .ref (a 3), .int 0])), ((a 4), .inr (2, [.ref (a 15), .int 0, .int 0, .int 0, .int 0, .int 0])), ((a 5), .inr (7, [.ref (a 16), .int 0, .int 0, .int 0, .int 0, .int 0, .int 0])), ((a 10), .inr (4, [.ref (a 11), .ref (a 23), .int 0, .ref (a 24), .int 0, .int 0, .int 0, .ref (a 25), .int 0, .ref (a 26), .int 0, .int 0])), ((a 11), .inr (8, [.int 0, .ref (a 12)])), (h0, .inr (11, [.ref dv, .ref tp, .int 0])), (dv, .inl (ca 2, 4, .inr (.inr (.inr (.inr fd)))))] H := hP
        have hD : va_D A [((a 1), .inr (0, [.ref (a 2), .int 0, .ref (a 3), .int 0])), ((a 4), .inr (2, [.ref (a 15), .int 0, .int 0, .int 0, .int 0, .int 0])), ((a 5), .inr (7, [.ref (a 16), .int 0, .int 0, .int 0, .int 0, .int 0, .int 0])), ((a 10), .inr (4, [.ref (a 11), .ref (a 23), .int 0, .ref (a 24), .int 0, .int 0, .int 0, .ref (a 25), .int 0, .ref (a 26), .int 0, .int 0])), ((a 11), .inr (8, [.int 0, .ref (a 12)])), (h0, .inr (11, [.ref dv, .ref tp, .int 0])), (dv, .inl (ca 2, 4, .inr (.inr (.inr (.inr fd)))))] := hD
        subst hr_6
        refine lv_goto (tgt := 42) hx hb dX11_of_34 (by decide) ?_
        exact W.iret (v := 0) hx hb hr (fun tt ht hW => ⟨⟨0, (), rfl, (by rw [if_neg (by decide), if_pos (by decide)]), ⟨by rw [ht]; exact hP.sub [] rfl, hD.sub [] rfl rfl⟩⟩, hS.F ht⟩) hS.2.2 dX11_of_42
      · refine lv_iload_n hx hb dX11_of_23 rfl (lv_at hl 3 rfl) ?_
        refine lv_bipush (v := 10) hx hb dX11_of_24 (by decide) ?_
        refine lv_icmp_ge (tgt := 37) hx hb dX11_of_26 (by decide) (fun h => absurd h (by decide)) (fun _ => ?_)
        refine lv_aload_n hx hb dX11_of_29 rfl (lv_at hl 0 rfl) ?_
        refine lv_iload_n hx hb dX11_of_30 rfl (lv_at hl 3 rfl) ?_
        refine kGo_i (wr := [((a 1), .inr (0, [.ref (a 2), .int 0, .ref (a 3), .int 0])), ((a 4), .inr (2, [.ref (a 15), .int 0, .int 0, .int 0, .int 0, .int 0])), ((a 5), .inr (7, [.ref (a 16), .int 0, .int 0, .int 0, .int 0, .int 0, .int 0])), ((a 10), .inr (4, [.ref (a 11), .ref (a 23), .int 0, .ref (a 24), .int 0, .int 0, .int 0, .ref (a 25), .int 0, .ref (a 26), .int 0, .int 0])), ((a 11), .inr (8, [.int 0, .ref (a 12)])), (h0, .inr (11, [.ref dv, .ref tp, .int 0])), (dv, .inl (ca 2, 4, .inr (.inr (.inr (.inr fd)))))]) (kRunS (As := [.ref (a 0), .int 5]) (rest := []) ⟨hx, hb, hml, hown, hts⟩ (c_linkFact_5 l D ca _ a k) (va_cwS 2 hts g_c_of_yes_c_linkFact_5_166 rfl rfl rfl (by decide +kernel) ⟨Nat.le_of_ble_eq_true rfl, Nat.le_of_ble_eq_true rfl⟩) hK hN hP hD [0, 4, 5, 6, 7] rfl rfl rfl hl.1 rfl (Nat.le_of_ble_eq_true rfl) dX11_of_31 ⟨Nat.le_of_ble_eq_true rfl, Nat.le_of_ble_eq_true rfl⟩) hP hD hS hA [0, 4, 5, 6, 7] [1, 2, 3, 8, 9, 10, 11] rfl rfl rfl (by decide) (fun r_7 uu_ tt H locs hr_7 hB hj hS => ?_)
        have hWd := hB
        obtain ⟨hP, hD⟩ := hj _ hWd
        have hP : va_P D vwCl [((a 1), .inr (0, [.ref (a 2), .int 0, .ref (a 3), .int 0])), ((a 4), .inr (2, [.ref (a 15), .int 0, .int 0, .int 0, .int 0, .int 0])), ((a 5), .inr (7, [.ref (a 16), .int 0, .int 0, .int 0, .int 0, .int 0, .int 0])), ((a 10), .inr (4, [.ref (a 11), .ref (a 23), .int 0, .ref (a 24), .int 0, .int 0, .int 0, .ref (a 25), .int 0, .ref (a 26), .int 0, .int 0])), ((a 11), .inr (8, [.int 0, .ref (a 12)])), (h0, .inr (11, [.ref dv, .ref tp, .int 0])), (dv, .inl (ca 2, 4, .inr (.inr (.inr (.inr fd)))))] H := hP
        have hD : va_D A [((a 1), .inr (0, [.ref (a 2), .int 0, .ref (a 3), .int 0])), ((a 4), .inr (2, [.ref (a 15), .int 0, .int 0, .int 0, .int 0, .int 0])), ((a 5), .inr (7, [.ref (a 16), .int 0, .int 0, .int 0, .int 0, .int 0, .int 0])), ((a 10), .inr (4, [.ref (a 11), .ref (a 23), .int 0, .ref (a 24), .int 0, .int 0, .int 0, .ref (a 25), .int 0, .ref (a 26), .int 0, .int 0])), ((a 11), .inr (8, [.int 0, .ref (a 12)])), (h0, .inr (11, [.ref dv, .ref tp, .int 0])), (dv, .inl (ca 2, 4, .inr (.inr (.inr (.inr fd)))))] := hD
        subst hr_7
        refine lv_goto (tgt := 42) hx hb dX11_of_34 (by decide) ?_
        exact W.iret (v := 0) hx hb hr (fun tt ht hW => ⟨⟨0, (), rfl, (by rw [if_neg (by decide), if_pos (by decide)]), ⟨by rw [ht]; exact hP.sub [] rfl, hD.sub [] rfl rfl⟩⟩, hS.F ht⟩) hS.2.2 dX11_of_42
      · refine lv_iload_n hx hb dX11_of_23 rfl (lv_at hl 3 rfl) ?_
        refine lv_bipush (v := 10) hx hb dX11_of_24 (by decide) ?_
        refine lv_icmp_ge (tgt := 37) hx hb dX11_of_26 (by decide) (fun h => absurd h (by decide)) (fun _ => ?_)
        refine lv_aload_n hx hb dX11_of_29 rfl (lv_at hl 0 rfl) ?_
        refine lv_iload_n hx hb dX11_of_30 rfl (lv_at hl 3 rfl) ?_
        refine kGo_i (wr := [((a 1), .inr (0, [.ref (a 2), .int 0, .ref (a 3), .int 0])), ((a 4), .inr (2, [.ref (a 15), .int 0, .int 0, .int 0, .int 0, .int 0])), ((a 5), .inr (7, [.ref (a 16), .int 0, .int 0, .int 0, .int 0, .int 0, .int 0])), ((a 10), .inr (4, [.ref (a 11), .ref (a 23), .int 0, .ref (a 24), .int 0, .int 0, .int 0, .ref (a 25), .int 0, .ref (a 26), .int 0, .int 0])), ((a 11), .inr (8, [.int 0, .ref (a 12)])), (h0, .inr (11, [.ref dv, .ref tp, .int 0])), (dv, .inl (ca 2, 4, .inr (.inr (.inr (.inr fd)))))]) (kRunS (As := [.ref (a 0), .int 6]) (rest := []) ⟨hx, hb, hml, hown, hts⟩ (c_linkFact_6 l D ca _ a k) (va_cwS 2 hts g_c_of_yes_c_linkFact_6_166 rfl rfl rfl (by decide +kernel) ⟨Nat.le_of_ble_eq_true rfl, Nat.le_of_ble_eq_true rfl⟩) hK hN hP hD [0, 4, 5, 6, 7] rfl rfl rfl hl.1 rfl (Nat.le_of_ble_eq_true rfl) dX11_of_31 ⟨Nat.le_of_ble_eq_true rfl, Nat.le_of_ble_eq_true rfl⟩) hP hD hS hA [0, 4, 5, 6, 7] [1, 2, 3, 8, 9, 10, 11] rfl rfl rfl (by decide) (fun r_8 uu_ tt H locs hr_8 hB hj hS => ?_)
        have hWd := hB
        obtain ⟨hP, hD⟩ := hj _ hWd
        have hP : va_P D vwCl [((a 1), .inr (0, [.ref (a 2), .int 0, .ref (a 3), .int 0])), ((a 4), .inr (2, [.ref (a 15), .int 0, .int 0, .int 0, .int 0, .int 0])), ((a 5), .inr (7, [.ref (a 16), .int 0, .int 0, .int 0, .int 0, .int 0, .int 0])), ((a 10), .inr (4, [.ref (a 11), .ref (a 23), .int 0, .ref (a 24), .int 0, .int 0, .int 0, .ref (a 25), .int 0, .ref (a 26), .int 0, .int 0])), ((a 11), .inr (8, [.int 0, .ref (a 12)])), (h0, .inr (11, [.ref dv, .ref tp, .int 0])), (dv, .inl (ca 2, 4, .inr (.inr (.inr (.inr fd)))))] H := hP
        have hD : va_D A [((a 1), .inr (0, [.ref (a 2), .int 0, .ref (a 3), .int 0])), ((a 4), .inr (2, [.ref (a 15), .int 0, .int 0, .int 0, .int 0, .int 0])), ((a 5), .inr (7, [.ref (a 16), .int 0, .int 0, .int 0, .int 0, .int 0, .int 0])), ((a 10), .inr (4, [.ref (a 11), .ref (a 23), .int 0, .ref (a 24), .int 0, .int 0, .int 0, .ref (a 25), .int 0, .ref (a 26), .int 0, .int 0])), ((a 11), .inr (8, [.int 0, .ref (a 12)])), (h0, .inr (11, [.ref dv, .ref tp, .int 0])), (dv, .inl (ca 2, 4, .inr (.inr (.inr (.inr fd)))))] := hD
        subst hr_8
        refine lv_goto (tgt := 42) hx hb dX11_of_34 (by decide) ?_
        exact W.iret (v := 0) hx hb hr (fun tt ht hW => ⟨⟨0, (), rfl, (by rw [if_neg (by decide), if_pos (by decide)]), ⟨by rw [ht]; exact hP.sub [] rfl, hD.sub [] rfl rfl⟩⟩, hS.F ht⟩) hS.2.2 dX11_of_42
      · refine lv_iload_n hx hb dX11_of_23 rfl (lv_at hl 3 rfl) ?_
        refine lv_bipush (v := 10) hx hb dX11_of_24 (by decide) ?_
        refine lv_icmp_ge (tgt := 37) hx hb dX11_of_26 (by decide) (fun h => absurd h (by decide)) (fun _ => ?_)
        refine lv_aload_n hx hb dX11_of_29 rfl (lv_at hl 0 rfl) ?_
        refine lv_iload_n hx hb dX11_of_30 rfl (lv_at hl 3 rfl) ?_
        refine kGo_i (wr := [((a 1), .inr (0, [.ref (a 2), .int 0, .ref (a 3), .int 0])), ((a 4), .inr (2, [.ref (a 15), .int 0, .int 0, .int 0, .int 0, .int 0])), ((a 5), .inr (7, [.ref (a 16), .int 0, .int 0, .int 0, .int 0, .int 0, .int 0])), ((a 10), .inr (4, [.ref (a 11), .ref (a 23), .int 0, .ref (a 24), .int 0, .int 0, .int 0, .ref (a 25), .int 0, .ref (a 26), .int 0, .int 0])), ((a 11), .inr (8, [.int 0, .ref (a 12)])), (h0, .inr (11, [.ref dv, .ref tp, .int 0])), (dv, .inl (ca 2, 4, .inr (.inr (.inr (.inr fd)))))]) (kRunS (As := [.ref (a 0), .int 7]) (rest := []) ⟨hx, hb, hml, hown, hts⟩ (c_linkFact_7 l D ca _ a k) (va_cwS 2 hts g_c_of_yes_c_linkFact_7_166 rfl rfl rfl (by decide +kernel) ⟨Nat.le_of_ble_eq_true rfl, Nat.le_of_ble_eq_true rfl⟩) hK hN hP hD [0, 4, 5, 6, 7] rfl rfl rfl hl.1 rfl (Nat.le_of_ble_eq_true rfl) dX11_of_31 ⟨Nat.le_of_ble_eq_true rfl, Nat.le_of_ble_eq_true rfl⟩) hP hD hS hA [0, 4, 5, 6, 7] [1, 2, 3, 8, 9, 10, 11] rfl rfl rfl (by decide) (fun r_9 uu_ tt H locs hr_9 hB hj hS => ?_)
        have hWd := hB
        obtain ⟨hP, hD⟩ := hj _ hWd
        have hP : va_P D vwCl [((a 1), .inr (0, [.ref (a 2), .int 0, .ref (a 3), .int 0])), ((a 4), .inr (2, [.ref (a 15), .int 0, .int 0, .int 0, .int 0, .int 0])), ((a 5), .inr (7, [.ref (a 16), .int 0, .int 0, .int 0, .int 0, .int 0, .int 0])), ((a 10), .inr (4, [.ref (a 11), .ref (a 23), .int 0, .ref (a 24), .int 0, .int 0, .int 0, .ref (a 25), .int 0, .ref (a 26), .int 0, .int 0])), ((a 11), .inr (8, [.int 0, .ref (a 12)])), (h0, .inr (11, [.ref dv, .ref tp, .int 0])), (dv, .inl (ca 2, 4, .inr (.inr (.inr (.inr fd)))))] H := hP
        have hD : va_D A [((a 1), .inr (0, [.ref (a 2), .int 0, .ref (a 3), .int 0])), ((a 4), .inr (2, [.ref (a 15), .int 0, .int 0, .int 0, .int 0, .int 0])), ((a 5), .inr (7, [.ref (a 16), .int 0, .int 0, .int 0, .int 0, .int 0, .int 0])), ((a 10), .inr (4, [.ref (a 11), .ref (a 23), .int 0, .ref (a 24), .int 0, .int 0, .int 0, .ref (a 25), .int 0, .ref (a 26), .int 0, .int 0])), ((a 11), .inr (8, [.int 0, .ref (a 12)])), (h0, .inr (11, [.ref dv, .ref tp, .int 0])), (dv, .inl (ca 2, 4, .inr (.inr (.inr (.inr fd)))))] := hD
        subst hr_9
        refine lv_goto (tgt := 42) hx hb dX11_of_34 (by decide) ?_
        exact W.iret (v := 0) hx hb hr (fun tt ht hW => ⟨⟨0, (), rfl, (by rw [if_neg (by decide), if_pos (by decide)]), ⟨by rw [ht]; exact hP.sub [] rfl, hD.sub [] rfl rfl⟩⟩, hS.F ht⟩) hS.2.2 dX11_of_42
      · refine lv_iload_n hx hb dX11_of_23 rfl (lv_at hl 3 rfl) ?_
        refine lv_bipush (v := 10) hx hb dX11_of_24 (by decide) ?_
        refine lv_icmp_ge (tgt := 37) hx hb dX11_of_26 (by decide) (fun h => absurd h (by decide)) (fun _ => ?_)
        refine lv_aload_n hx hb dX11_of_29 rfl (lv_at hl 0 rfl) ?_
        refine lv_iload_n hx hb dX11_of_30 rfl (lv_at hl 3 rfl) ?_
        refine kGo_i (wr := [((a 1), .inr (0, [.ref (a 2), .int 0, .ref (a 3), .int 0])), ((a 4), .inr (2, [.ref (a 15), .int 0, .int 0, .int 0, .int 0, .int 0])), ((a 5), .inr (7, [.ref (a 16), .int 0, .int 0, .int 0, .int 0, .int 0, .int 0])), ((a 10), .inr (4, [.ref (a 11), .ref (a 23), .int 0, .ref (a 24), .int 0, .int 0, .int 0, .ref (a 25), .int 0, .ref (a 26), .int 0, .int 0])), ((a 11), .inr (8, [.int 0, .ref (a 12)])), (h0, .inr (11, [.ref dv, .ref tp, .int 0])), (dv, .inl (ca 2, 4, .inr (.inr (.inr (.inr fd)))))]) (kRunS (As := [.ref (a 0), .int 8]) (rest := []) ⟨hx, hb, hml, hown, hts⟩ (c_linkFact_8 l D ca _ a k) (va_cwS 2 hts g_c_of_yes_c_linkFact_8_166 rfl rfl rfl (by decide +kernel) ⟨Nat.le_of_ble_eq_true rfl, Nat.le_of_ble_eq_true rfl⟩) hK hN hP hD [0, 4, 5, 6, 7] rfl rfl rfl hl.1 rfl (Nat.le_of_ble_eq_true rfl) dX11_of_31 ⟨Nat.le_of_ble_eq_true rfl, Nat.le_of_ble_eq_true rfl⟩) hP hD hS hA [0, 4, 5, 6, 7] [1, 2, 3, 8, 9, 10, 11] rfl rfl rfl (by decide) (fun r_10 uu_ tt H locs hr_10 hB hj hS => ?_)
        have hWd := hB
        obtain ⟨hP, hD⟩ := hj _ hWd
        have hP : va_P D vwCl [((a 1), .inr (0, [.ref (a 2), .int 0, .ref (a 3), .int 0])), ((a 4), .inr (2, [.ref (a 15), .int 0, .int 0, .int 0, .int 0, .int 0])), ((a 5), .inr (7, [.ref (a 16), .int 0, .int 0, .int 0, .int 0, .int 0, .int 0])), ((a 10), .inr (4, [.ref (a 11), .ref (a 23), .int 0, .ref (a 24), .int 0, .int 0, .int 0, .ref (a 25), .int 0, .ref (a 26), .int 0, .int 0])), ((a 11), .inr (8, [.int 0, .ref (a 12)])), (h0, .inr (11, [.ref dv, .ref tp, .int 0])), (dv, .inl (ca 2, 4, .inr (.inr (.inr (.inr fd)))))] H := hP
        have hD : va_D A [((a 1), .inr (0, [.ref (a 2), .int 0, .ref (a 3), .int 0])), ((a 4), .inr (2, [.ref (a 15), .int 0, .int 0, .int 0, .int 0, .int 0])), ((a 5), .inr (7, [.ref (a 16), .int 0, .int 0, .int 0, .int 0, .int 0, .int 0])), ((a 10), .inr (4, [.ref (a 11), .ref (a 23), .int 0, .ref (a 24), .int 0, .int 0, .int 0, .ref (a 25), .int 0, .ref (a 26), .int 0, .int 0])), ((a 11), .inr (8, [.int 0, .ref (a 12)])), (h0, .inr (11, [.ref dv, .ref tp, .int 0])), (dv, .inl (ca 2, 4, .inr (.inr (.inr (.inr fd)))))] := hD
        subst hr_10
        refine lv_goto (tgt := 42) hx hb dX11_of_34 (by decide) ?_
        exact W.iret (v := 0) hx hb hr (fun tt ht hW => ⟨⟨0, (), rfl, (by rw [if_neg (by decide), if_pos (by decide)]), ⟨by rw [ht]; exact hP.sub [] rfl, hD.sub [] rfl rfl⟩⟩, hS.F ht⟩) hS.2.2 dX11_of_42
      · refine lv_iload_n hx hb dX11_of_23 rfl (lv_at hl 3 rfl) ?_
        refine lv_bipush (v := 10) hx hb dX11_of_24 (by decide) ?_
        refine lv_icmp_ge (tgt := 37) hx hb dX11_of_26 (by decide) (fun h => absurd h (by decide)) (fun _ => ?_)
        refine lv_aload_n hx hb dX11_of_29 rfl (lv_at hl 0 rfl) ?_
        refine lv_iload_n hx hb dX11_of_30 rfl (lv_at hl 3 rfl) ?_
        refine kGo_i (wr := [((a 1), .inr (0, [.ref (a 2), .int 0, .ref (a 3), .int 0])), ((a 4), .inr (2, [.ref (a 15), .int 0, .int 0, .int 0, .int 0, .int 0])), ((a 5), .inr (7, [.ref (a 16), .int 0, .int 0, .int 0, .int 0, .int 0, .int 0])), ((a 10), .inr (4, [.ref (a 11), .ref (a 23), .int 0, .ref (a 24), .int 0, .int 0, .int 0, .ref (a 25), .int 0, .ref (a 26), .int 0, .int 0])), ((a 11), .inr (8, [.int 0, .ref (a 12)])), (h0, .inr (11, [.ref dv, .ref tp, .int 0])), (dv, .inl (ca 2, 4, .inr (.inr (.inr (.inr fd)))))]) (kRunS (As := [.ref (a 0), .int 9]) (rest := []) ⟨hx, hb, hml, hown, hts⟩ (c_linkFact_9 l D ca _ a k) (va_cwS 2 hts g_c_of_yes_c_linkFact_9_166 rfl rfl rfl (by decide +kernel) ⟨Nat.le_of_ble_eq_true rfl, Nat.le_of_ble_eq_true rfl⟩) hK hN hP hD [0, 4, 5, 6, 7] rfl rfl rfl hl.1 rfl (Nat.le_of_ble_eq_true rfl) dX11_of_31 ⟨Nat.le_of_ble_eq_true rfl, Nat.le_of_ble_eq_true rfl⟩) hP hD hS hA [0, 4, 5, 6, 7] [1, 2, 3, 8, 9, 10, 11] rfl rfl rfl (by decide) (fun r_11 uu_ tt H locs hr_11 hB hj hS => ?_)
        have hWd := hB
        obtain ⟨hP, hD⟩ := hj _ hWd
        have hP : va_P D vwCl [((a 1), .inr (0, [.ref (a 2), .int 0, .ref (a 3), .int 0])), ((a 4), .inr (2, [.ref (a 15), .int 0, .int 0, .int 0, .int 0, .int 0])), ((a 5), .inr (7, [.ref (a 16), .int 0, .int 0, .int 0, .int 0, .int 0, .int 0])), ((a 10), .inr (4, [.ref (a 11), .ref (a 23), .int 0, .ref (a 24), .int 0, .int 0, .int 0, .ref (a 25), .int 0, .ref (a 26), .int 0, .int 0])), ((a 11), .inr (8, [.int 0, .ref (a 12)])), (h0, .inr (11, [.ref dv, .ref tp, .int 0])), (dv, .inl (ca 2, 4, .inr (.inr (.inr (.inr fd)))))] H := hP
        have hD : va_D A [((a 1), .inr (0, [.ref (a 2), .int 0, .ref (a 3), .int 0])), ((a 4), .inr (2, [.ref (a 15), .int 0, .int 0, .int 0, .int 0, .int 0])), ((a 5), .inr (7, [.ref (a 16), .int 0, .int 0, .int 0, .int 0, .int 0, .int 0])), ((a 10), .inr (4, [.ref (a 11), .ref (a 23), .int 0, .ref (a 24), .int 0, .int 0, .int 0, .ref (a 25), .int 0, .ref (a 26), .int 0, .int 0])), ((a 11), .inr (8, [.int 0, .ref (a 12)])), (h0, .inr (11, [.ref dv, .ref tp, .int 0])), (dv, .inl (ca 2, 4, .inr (.inr (.inr (.inr fd)))))] := hD
        subst hr_11
        refine lv_goto (tgt := 42) hx hb dX11_of_34 (by decide) ?_
        exact W.iret (v := 0) hx hb hr (fun tt ht hW => ⟨⟨0, (), rfl, (by rw [if_neg (by decide), if_pos (by decide)]), ⟨by rw [ht]; exact hP.sub [] rfl, hD.sub [] rfl rfl⟩⟩, hS.F ht⟩) hS.2.2 dX11_of_42
      · refine lv_iload_n hx hb dX11_of_23 rfl (lv_at hl 3 rfl) ?_
        refine lv_bipush (v := 10) hx hb dX11_of_24 (by decide) ?_
        refine lv_icmp_ge (tgt := 37) hx hb dX11_of_26 (by decide) (fun _ => ?_) (fun h => absurd (by decide) h)
        refine lv_aload_n hx hb dX11_of_37 rfl (lv_at hl 0 rfl) ?_
        refine lv_iload_n hx hb dX11_of_38 rfl (lv_at hl 3 rfl) ?_
        refine kGo_i (wr := [((a 7), .inr (5, [.int 0, .int 24, .int 32, .ref (a 17), .ref (a 18), .int 0])), ((a 8), .inr (10, [.ref (a 9), .ref (a 21), .int 0, .int 0, .ref (a 22), .int 0, .int 0, .int 0])), ((a 9), .inr (5, [.int 0, .int 8, .int 60, .ref (a 19), .ref (a 20), .int 0])), (h0, .inr (11, [.ref dv, .ref tp, .int 0])), (dv, .inl (ca 2, 4, .inr (.inr (.inr (.inr fd)))))]) (kRunS (As := [.ref (a 0), .int 10]) (rest := []) ⟨hx, hb, hml, hown, hts⟩ (c_deviceFact_10 l D ca _ a k) (va_cwS 2 hts g_c_of_yes_c_deviceFact_10_170 rfl rfl rfl (by decide +kernel) ⟨Nat.le_of_ble_eq_true rfl, Nat.le_of_ble_eq_true rfl⟩) hK hN hP hD [0, 1, 2, 8, 9, 4, 3] rfl rfl rfl hl.1 rfl (Nat.le_of_ble_eq_true rfl) dX11_of_39 ⟨Nat.le_of_ble_eq_true rfl, Nat.le_of_ble_eq_true rfl⟩) hP hD hS hA [0, 1, 2, 8, 9, 4, 3] [5, 6, 7, 10, 11] rfl rfl rfl (by decide) (fun r_12 uu_ tt H locs hr_12 hB hj hS => ?_)
        have hWd := hB
        obtain ⟨hP, hD⟩ := hj _ hWd
        have hP : va_P D vwCl [((a 7), .inr (5, [.int 0, .int 24, .int 32, .ref (a 17), .ref (a 18), .int 0])), ((a 8), .inr (10, [.ref (a 9), .ref (a 21), .int 0, .int 0, .ref (a 22), .int 0, .int 0, .int 0])), ((a 9), .inr (5, [.int 0, .int 8, .int 60, .ref (a 19), .ref (a 20), .int 0])), (h0, .inr (11, [.ref dv, .ref tp, .int 0])), (dv, .inl (ca 2, 4, .inr (.inr (.inr (.inr fd)))))] H := hP
        have hD : va_D A [((a 7), .inr (5, [.int 0, .int 24, .int 32, .ref (a 17), .ref (a 18), .int 0])), ((a 8), .inr (10, [.ref (a 9), .ref (a 21), .int 0, .int 0, .ref (a 22), .int 0, .int 0, .int 0])), ((a 9), .inr (5, [.int 0, .int 8, .int 60, .ref (a 19), .ref (a 20), .int 0])), (h0, .inr (11, [.ref dv, .ref tp, .int 0])), (dv, .inl (ca 2, 4, .inr (.inr (.inr (.inr fd)))))] := hD
        subst hr_12
        exact W.iret (v := 0) hx hb hr (fun tt ht hW => ⟨⟨0, (), rfl, (by rw [if_neg (by decide), if_pos (by decide)]), ⟨by rw [ht]; exact hP.sub [] rfl, hD.sub [] rfl rfl⟩⟩, hS.F ht⟩) hS.2.2 dX11_of_42
      · refine lv_iload_n hx hb dX11_of_23 rfl (lv_at hl 3 rfl) ?_
        refine lv_bipush (v := 10) hx hb dX11_of_24 (by decide) ?_
        refine lv_icmp_ge (tgt := 37) hx hb dX11_of_26 (by decide) (fun _ => ?_) (fun h => absurd (by decide) h)
        refine lv_aload_n hx hb dX11_of_37 rfl (lv_at hl 0 rfl) ?_
        refine lv_iload_n hx hb dX11_of_38 rfl (lv_at hl 3 rfl) ?_
        refine kGo_i (wr := [((a 7), .inr (5, [.int 0, .int 24, .int 32, .ref (a 17), .ref (a 18), .int 0])), ((a 8), .inr (10, [.ref (a 9), .ref (a 21), .int 0, .int 0, .ref (a 22), .int 0, .int 0, .int 0])), ((a 9), .inr (5, [.int 0, .int 8, .int 60, .ref (a 19), .ref (a 20), .int 0])), (h0, .inr (11, [.ref dv, .ref tp, .int 0])), (dv, .inl (ca 2, 4, .inr (.inr (.inr (.inr fd)))))]) (kRunS (As := [.ref (a 0), .int 11]) (rest := []) ⟨hx, hb, hml, hown, hts⟩ (c_deviceFact_11 l D ca _ a k) (va_cwS 2 hts g_c_of_yes_c_deviceFact_11_170 rfl rfl rfl (by decide +kernel) ⟨Nat.le_of_ble_eq_true rfl, Nat.le_of_ble_eq_true rfl⟩) hK hN hP hD [0, 1, 2, 8, 9, 4, 3] rfl rfl rfl hl.1 rfl (Nat.le_of_ble_eq_true rfl) dX11_of_39 ⟨Nat.le_of_ble_eq_true rfl, Nat.le_of_ble_eq_true rfl⟩) hP hD hS hA [0, 1, 2, 8, 9, 4, 3] [5, 6, 7, 10, 11] rfl rfl rfl (by decide) (fun r_13 uu_ tt H locs hr_13 hB hj hS => ?_)
        have hWd := hB
        obtain ⟨hP, hD⟩ := hj _ hWd
        have hP : va_P D vwCl [((a 7), .inr (5, [.int 0, .int 24, .int 32, .ref (a 17), .ref (a 18), .int 0])), ((a 8), .inr (10, [.ref (a 9), .ref (a 21), .int 0, .int 0, .ref (a 22), .int 0, .int 0, .int 0])), ((a 9), .inr (5, [.int 0, .int 8, .int 60, .ref (a 19), .ref (a 20), .int 0])), (h0, .inr (11, [.ref dv, .ref tp, .int 0])), (dv, .inl (ca 2, 4, .inr (.inr (.inr (.inr fd)))))] H := hP
        have hD : va_D A [((a 7), .inr (5, [.int 0, .int 24, .int 32, .ref (a 17), .ref (a 18), .int 0])), ((a 8), .inr (10, [.ref (a 9), .ref (a 21), .int 0, .int 0, .ref (a 22), .int 0, .int 0, .int 0])), ((a 9), .inr (5, [.int 0, .int 8, .int 60, .ref (a 19), .ref (a 20), .int 0])), (h0, .inr (11, [.ref dv, .ref tp, .int 0])), (dv, .inl (ca 2, 4, .inr (.inr (.inr (.inr fd)))))] := hD
        subst hr_13
        exact W.iret (v := 0) hx hb hr (fun tt ht hW => ⟨⟨0, (), rfl, (by rw [if_neg (by decide), if_pos (by decide)]), ⟨by rw [ht]; exact hP.sub [] rfl, hD.sub [] rfl rfl⟩⟩, hS.F ht⟩) hS.2.2 dX11_of_42
      · refine lv_iload_n hx hb dX11_of_23 rfl (lv_at hl 3 rfl) ?_
        refine lv_bipush (v := 10) hx hb dX11_of_24 (by decide) ?_
        refine lv_icmp_ge (tgt := 37) hx hb dX11_of_26 (by decide) (fun _ => ?_) (fun h => absurd (by decide) h)
        refine lv_aload_n hx hb dX11_of_37 rfl (lv_at hl 0 rfl) ?_
        refine lv_iload_n hx hb dX11_of_38 rfl (lv_at hl 3 rfl) ?_
        refine kGo_i (wr := [((a 7), .inr (5, [.int 0, .int 24, .int 32, .ref (a 17), .ref (a 18), .int 0])), ((a 8), .inr (10, [.ref (a 9), .ref (a 21), .int 0, .int 0, .ref (a 22), .int 0, .int 0, .int 0])), ((a 9), .inr (5, [.int 0, .int 8, .int 60, .ref (a 19), .ref (a 20), .int 0])), (h0, .inr (11, [.ref dv, .ref tp, .int 0])), (dv, .inl (ca 2, 4, .inr (.inr (.inr (.inr fd)))))]) (kRunS (As := [.ref (a 0), .int 12]) (rest := []) ⟨hx, hb, hml, hown, hts⟩ (c_deviceFact_12 l D ca _ a k) (va_cwS 2 hts g_c_of_yes_c_deviceFact_12_170 rfl rfl rfl (by decide +kernel) ⟨Nat.le_of_ble_eq_true rfl, Nat.le_of_ble_eq_true rfl⟩) hK hN hP hD [0, 1, 2, 8, 9, 4, 3] rfl rfl rfl hl.1 rfl (Nat.le_of_ble_eq_true rfl) dX11_of_39 ⟨Nat.le_of_ble_eq_true rfl, Nat.le_of_ble_eq_true rfl⟩) hP hD hS hA [0, 1, 2, 8, 9, 4, 3] [5, 6, 7, 10, 11] rfl rfl rfl (by decide) (fun r_14 uu_ tt H locs hr_14 hB hj hS => ?_)
        have hWd := hB
        obtain ⟨hP, hD⟩ := hj _ hWd
        have hP : va_P D vwCl [((a 7), .inr (5, [.int 0, .int 24, .int 32, .ref (a 17), .ref (a 18), .int 0])), ((a 8), .inr (10, [.ref (a 9), .ref (a 21), .int 0, .int 0, .ref (a 22), .int 0, .int 0, .int 0])), ((a 9), .inr (5, [.int 0, .int 8, .int 60, .ref (a 19), .ref (a 20), .int 0])), (h0, .inr (11, [.ref dv, .ref tp, .int 0])), (dv, .inl (ca 2, 4, .inr (.inr (.inr (.inr fd)))))] H := hP
        have hD : va_D A [((a 7), .inr (5, [.int 0, .int 24, .int 32, .ref (a 17), .ref (a 18), .int 0])), ((a 8), .inr (10, [.ref (a 9), .ref (a 21), .int 0, .int 0, .ref (a 22), .int 0, .int 0, .int 0])), ((a 9), .inr (5, [.int 0, .int 8, .int 60, .ref (a 19), .ref (a 20), .int 0])), (h0, .inr (11, [.ref dv, .ref tp, .int 0])), (dv, .inl (ca 2, 4, .inr (.inr (.inr (.inr fd)))))] := hD
        subst hr_14
        exact W.iret (v := 0) hx hb hr (fun tt ht hW => ⟨⟨0, (), rfl, (by rw [if_neg (by decide), if_pos (by decide)]), ⟨by rw [ht]; exact hP.sub [] rfl, hD.sub [] rfl rfl⟩⟩, hS.F ht⟩) hS.2.2 dX11_of_42
      · refine lv_iload_n hx hb dX11_of_23 rfl (lv_at hl 3 rfl) ?_
        refine lv_bipush (v := 10) hx hb dX11_of_24 (by decide) ?_
        refine lv_icmp_ge (tgt := 37) hx hb dX11_of_26 (by decide) (fun _ => ?_) (fun h => absurd (by decide) h)
        refine lv_aload_n hx hb dX11_of_37 rfl (lv_at hl 0 rfl) ?_
        refine lv_iload_n hx hb dX11_of_38 rfl (lv_at hl 3 rfl) ?_
        refine kGo_i (wr := [((a 7), .inr (5, [.int 0, .int 24, .int 32, .ref (a 17), .ref (a 18), .int 0])), ((a 8), .inr (10, [.ref (a 9), .ref (a 21), .int 0, .int 0, .ref (a 22), .int 0, .int 0, .int 0])), ((a 9), .inr (5, [.int 0, .int 8, .int 60, .ref (a 19), .ref (a 20), .int 0])), (h0, .inr (11, [.ref dv, .ref tp, .int 0])), (dv, .inl (ca 2, 4, .inr (.inr (.inr (.inr fd)))))]) (kRunS (As := [.ref (a 0), .int 13]) (rest := []) ⟨hx, hb, hml, hown, hts⟩ (c_deviceFact_13 l D ca _ a k) (va_cwS 2 hts g_c_of_yes_c_deviceFact_13_170 rfl rfl rfl (by decide +kernel) ⟨Nat.le_of_ble_eq_true rfl, Nat.le_of_ble_eq_true rfl⟩) hK hN hP hD [0, 1, 2, 8, 9, 4, 3] rfl rfl rfl hl.1 rfl (Nat.le_of_ble_eq_true rfl) dX11_of_39 ⟨Nat.le_of_ble_eq_true rfl, Nat.le_of_ble_eq_true rfl⟩) hP hD hS hA [0, 1, 2, 8, 9, 4, 3] [5, 6, 7, 10, 11] rfl rfl rfl (by decide) (fun r_15 uu_ tt H locs hr_15 hB hj hS => ?_)
        have hWd := hB
        obtain ⟨hP, hD⟩ := hj _ hWd
        have hP : va_P D vwCl [((a 7), .inr (5, [.int 0, .int 24, .int 32, .ref (a 17), .ref (a 18), .int 0])), ((a 8), .inr (10, [.ref (a 9), .ref (a 21), .int 0, .int 0, .ref (a 22), .int 0, .int 0, .int 0])), ((a 9), .inr (5, [.int 0, .int 8, .int 60, .ref (a 19), .ref (a 20), .int 0])), (h0, .inr (11, [.ref dv, .ref tp, .int 0])), (dv, .inl (ca 2, 4, .inr (.inr (.inr (.inr fd)))))] H := hP
        have hD : va_D A [((a 7), .inr (5, [.int 0, .int 24, .int 32, .ref (a 17), .ref (a 18), .int 0])), ((a 8), .inr (10, [.ref (a 9), .ref (a 21), .int 0, .int 0, .ref (a 22), .int 0, .int 0, .int 0])), ((a 9), .inr (5, [.int 0, .int 8, .int 60, .ref (a 19), .ref (a 20), .int 0])), (h0, .inr (11, [.ref dv, .ref tp, .int 0])), (dv, .inl (ca 2, 4, .inr (.inr (.inr (.inr fd)))))] := hD
        subst hr_15
        exact W.iret (v := 0) hx hb hr (fun tt ht hW => ⟨⟨0, (), rfl, (by rw [if_neg (by decide), if_pos (by decide)]), ⟨by rw [ht]; exact hP.sub [] rfl, hD.sub [] rfl rfl⟩⟩, hS.F ht⟩) hS.2.2 dX11_of_42
      · refine lv_iload_n hx hb dX11_of_23 rfl (lv_at hl 3 rfl) ?_
        refine lv_bipush (v := 10) hx hb dX11_of_24 (by decide) ?_
        refine lv_icmp_ge (tgt := 37) hx hb dX11_of_26 (by decide) (fun _ => ?_) (fun h => absurd (by decide) h)
        refine lv_aload_n hx hb dX11_of_37 rfl (lv_at hl 0 rfl) ?_
        refine lv_iload_n hx hb dX11_of_38 rfl (lv_at hl 3 rfl) ?_
        refine kGo_i (wr := [((a 7), .inr (5, [.int 0, .int 24, .int 32, .ref (a 17), .ref (a 18), .int 0])), ((a 8), .inr (10, [.ref (a 9), .ref (a 21), .int 0, .int 0, .ref (a 22), .int 0, .int 0, .int 0])), ((a 9), .inr (5, [.int 0, .int 8, .int 60, .ref (a 19), .ref (a 20), .int 0])), (h0, .inr (11, [.ref dv, .ref tp, .int 0])), (dv, .inl (ca 2, 4, .inr (.inr (.inr (.inr fd)))))]) (kRunS (As := [.ref (a 0), .int 14]) (rest := []) ⟨hx, hb, hml, hown, hts⟩ (c_deviceFact_14 l D ca _ a k) (va_cwS 2 hts g_c_of_yes_c_deviceFact_14_170 rfl rfl rfl (by decide +kernel) ⟨Nat.le_of_ble_eq_true rfl, Nat.le_of_ble_eq_true rfl⟩) hK hN hP hD [0, 1, 2, 8, 9, 4, 3] rfl rfl rfl hl.1 rfl (Nat.le_of_ble_eq_true rfl) dX11_of_39 ⟨Nat.le_of_ble_eq_true rfl, Nat.le_of_ble_eq_true rfl⟩) hP hD hS hA [0, 1, 2, 8, 9, 4, 3] [5, 6, 7, 10, 11] rfl rfl rfl (by decide) (fun r_16 uu_ tt H locs hr_16 hB hj hS => ?_)
        have hWd := hB
        obtain ⟨hP, hD⟩ := hj _ hWd
        have hP : va_P D vwCl [((a 7), .inr (5, [.int 0, .int 24, .int 32, .ref (a 17), .ref (a 18), .int 0])), ((a 8), .inr (10, [.ref (a 9), .ref (a 21), .int 0, .int 0, .ref (a 22), .int 0, .int 0, .int 0])), ((a 9), .inr (5, [.int 0, .int 8, .int 60, .ref (a 19), .ref (a 20), .int 0])), (h0, .inr (11, [.ref dv, .ref tp, .int 0])), (dv, .inl (ca 2, 4, .inr (.inr (.inr (.inr fd)))))] H := hP
        have hD : va_D A [((a 7), .inr (5, [.int 0, .int 24, .int 32, .ref (a 17), .ref (a 18), .int 0])), ((a 8), .inr (10, [.ref (a 9), .ref (a 21), .int 0, .int 0, .ref (a 22), .int 0, .int 0, .int 0])), ((a 9), .inr (5, [.int 0, .int 8, .int 60, .ref (a 19), .ref (a 20), .int 0])), (h0, .inr (11, [.ref dv, .ref tp, .int 0])), (dv, .inl (ca 2, 4, .inr (.inr (.inr (.inr fd)))))] := hD
        subst hr_16
        exact W.iret (v := 0) hx hb hr (fun tt ht hW => ⟨⟨0, (), rfl, (by rw [if_neg (by decide), if_pos (by decide)]), ⟨by rw [ht]; exact hP.sub [] rfl, hD.sub [] rfl rfl⟩⟩, hS.F ht⟩) hS.2.2 dX11_of_42
      · refine lv_iload_n hx hb dX11_of_23 rfl (lv_at hl 3 rfl) ?_
        refine lv_bipush (v := 10) hx hb dX11_of_24 (by decide) ?_
        refine lv_icmp_ge (tgt := 37) hx hb dX11_of_26 (by decide) (fun _ => ?_) (fun h => absurd (by decide) h)
        refine lv_aload_n hx hb dX11_of_37 rfl (lv_at hl 0 rfl) ?_
        refine lv_iload_n hx hb dX11_of_38 rfl (lv_at hl 3 rfl) ?_
        refine kGo_i (wr := [((a 7), .inr (5, [.int 0, .int 24, .int 32, .ref (a 17), .ref (a 18), .int 0])), ((a 8), .inr (10, [.ref (a 9), .ref (a 21), .int 0, .int 0, .ref (a 22), .int 0, .int 0, .int 0])), ((a 9), .inr (5, [.int 0, .int 8, .int 60, .ref (a 19), .ref (a 20), .int 0])), (h0, .inr (11, [.ref dv, .ref tp, .int 0])), (dv, .inl (ca 2, 4, .inr (.inr (.inr (.inr fd)))))]) (kRunS (As := [.ref (a 0), .int 15]) (rest := []) ⟨hx, hb, hml, hown, hts⟩ (c_deviceFact_15 l D ca _ a k) (va_cwS 2 hts g_c_of_yes_c_deviceFact_15_170 rfl rfl rfl (by decide +kernel) ⟨Nat.le_of_ble_eq_true rfl, Nat.le_of_ble_eq_true rfl⟩) hK hN hP hD [0, 1, 2, 8, 9, 4, 3] rfl rfl rfl hl.1 rfl (Nat.le_of_ble_eq_true rfl) dX11_of_39 ⟨Nat.le_of_ble_eq_true rfl, Nat.le_of_ble_eq_true rfl⟩) hP hD hS hA [0, 1, 2, 8, 9, 4, 3] [5, 6, 7, 10, 11] rfl rfl rfl (by decide) (fun r_17 uu_ tt H locs hr_17 hB hj hS => ?_)
        have hWd := hB
        obtain ⟨hP, hD⟩ := hj _ hWd
        have hP : va_P D vwCl [((a 7), .inr (5, [.int 0, .int 24, .int 32, .ref (a 17), .ref (a 18), .int 0])), ((a 8), .inr (10, [.ref (a 9), .ref (a 21), .int 0, .int 0, .ref (a 22), .int 0, .int 0, .int 0])), ((a 9), .inr (5, [.int 0, .int 8, .int 60, .ref (a 19), .ref (a 20), .int 0])), (h0, .inr (11, [.ref dv, .ref tp, .int 0])), (dv, .inl (ca 2, 4, .inr (.inr (.inr (.inr fd)))))] H := hP
        have hD : va_D A [((a 7), .inr (5, [.int 0, .int 24, .int 32, .ref (a 17), .ref (a 18), .int 0])), ((a 8), .inr (10, [.ref (a 9), .ref (a 21), .int 0, .int 0, .ref (a 22), .int 0, .int 0, .int 0])), ((a 9), .inr (5, [.int 0, .int 8, .int 60, .ref (a 19), .ref (a 20), .int 0])), (h0, .inr (11, [.ref dv, .ref tp, .int 0])), (dv, .inl (ca 2, 4, .inr (.inr (.inr (.inr fd)))))] := hD
        subst hr_17
        exact W.iret (v := 0) hx hb hr (fun tt ht hW => ⟨⟨0, (), rfl, (by rw [if_neg (by decide), if_pos (by decide)]), ⟨by rw [ht]; exact hP.sub [] rfl, hD.sub [] rfl rfl⟩⟩, hS.F ht⟩) hS.2.2 dX11_of_42
      · refine lv_iload_n hx hb dX11_of_23 rfl (lv_at hl 3 rfl) ?_
        refine lv_bipush (v := 10) hx hb dX11_of_24 (by decide) ?_
        refine lv_icmp_ge (tgt := 37) hx hb dX11_of_26 (by decide) (fun _ => ?_) (fun h => absurd (by decide) h)
        refine lv_aload_n hx hb dX11_of_37 rfl (lv_at hl 0 rfl) ?_
        refine lv_iload_n hx hb dX11_of_38 rfl (lv_at hl 3 rfl) ?_
        refine kGo_i (wr := [((a 7), .inr (5, [.int 0, .int 24, .int 32, .ref (a 17), .ref (a 18), .int 0])), ((a 8), .inr (10, [.ref (a 9), .ref (a 21), .int 0, .int 0, .ref (a 22), .int 0, .int 0, .int 0])), ((a 9), .inr (5, [.int 0, .int 8, .int 60, .ref (a 19), .ref (a 20), .int 0])), (h0, .inr (11, [.ref dv, .ref tp, .int 0])), (dv, .inl (ca 2, 4, .inr (.inr (.inr (.inr fd)))))]) (kRunS (As := [.ref (a 0), .int 16]) (rest := []) ⟨hx, hb, hml, hown, hts⟩ (c_deviceFact_16 l D ca _ a k) (va_cwS 2 hts g_c_of_yes_c_deviceFact_16_170 rfl rfl rfl (by decide +kernel) ⟨Nat.le_of_ble_eq_true rfl, Nat.le_of_ble_eq_true rfl⟩) hK hN hP hD [0, 1, 2, 8, 9, 4, 3] rfl rfl rfl hl.1 rfl (Nat.le_of_ble_eq_true rfl) dX11_of_39 ⟨Nat.le_of_ble_eq_true rfl, Nat.le_of_ble_eq_true rfl⟩) hP hD hS hA [0, 1, 2, 8, 9, 4, 3] [5, 6, 7, 10, 11] rfl rfl rfl (by decide) (fun r_18 uu_ tt H locs hr_18 hB hj hS => ?_)
        have hWd := hB
        obtain ⟨hP, hD⟩ := hj _ hWd
        have hP : va_P D vwCl [((a 7), .inr (5, [.int 0, .int 24, .int 32, .ref (a 17), .ref (a 18), .int 0])), ((a 8), .inr (10, [.ref (a 9), .ref (a 21), .int 0, .int 0, .ref (a 22), .int 0, .int 0, .int 0])), ((a 9), .inr (5, [.int 0, .int 8, .int 60, .ref (a 19), .ref (a 20), .int 0])), (h0, .inr (11, [.ref dv, .ref tp, .int 0])), (dv, .inl (ca 2, 4, .inr (.inr (.inr (.inr fd)))))] H := hP
        have hD : va_D A [((a 7), .inr (5, [.int 0, .int 24, .int 32, .ref (a 17), .ref (a 18), .int 0])), ((a 8), .inr (10, [.ref (a 9), .ref (a 21), .int 0, .int 0, .ref (a 22), .int 0, .int 0, .int 0])), ((a 9), .inr (5, [.int 0, .int 8, .int 60, .ref (a 19), .ref (a 20), .int 0])), (h0, .inr (11, [.ref dv, .ref tp, .int 0])), (dv, .inl (ca 2, 4, .inr (.inr (.inr (.inr fd)))))] := hD
        subst hr_18
        exact W.iret (v := 0) hx hb hr (fun tt ht hW => ⟨⟨0, (), rfl, (by rw [if_neg (by decide), if_pos (by decide)]), ⟨by rw [ht]; exact hP.sub [] rfl, hD.sub [] rfl rfl⟩⟩, hS.F ht⟩) hS.2.2 dX11_of_42
    · refine lv_bipush (v := (-9)) hx hb dX11_of_20 (by decide) ?_
      exact W.iret (v := (-9)) hx hb hr (fun tt ht hW => ⟨⟨(-9), (), rfl, (by rw [if_neg (fun h => c_17 (by rw [h]; decide)), if_neg (fun h => c_17 h.2)]), ⟨by rw [ht]; exact hP.sub [] rfl, hD.sub [] rfl rfl⟩⟩, hS.F ht⟩) hS.2.2 dX11_of_22

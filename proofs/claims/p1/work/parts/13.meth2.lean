def w_c_feedFour : List Cond := .code yX11_feedFour cX11_feedFour 3 none :: (([.fieldLink RX11 36 "BeamHouse" "taped" "I", .fieldLink RX11 15 "BeamHouse" "tape" "[I"] : List Cond) ++ wsX110)
set_option maxHeartbeats 4000000 in
set_option maxRecDepth 100000 in
theorem c_feedFour (l : Launch) (D : va_G) (ca : Nat → ClassId) (sz : Nat) (h0 : Nat) (dv : Nat) (tp : Nat) (t : Nat) (f0 : Nat → Int32) (v : Int32) (ht : t ≤ 996) : Met l yX11_feedFour w_c_feedFour ({ frames := 0, cells := 0, slots := 0, locals := 0 }) (Pre D ca [.ref h0, .int v] [(h0, .inr (11, [.ref dv, .ref tp, .int (nI t)])), (tp, .inl (ca 0, 1000, .inl f0))] sz) (va_Qv (fun _ : Unit => True) (fun (_ : Unit) (tt : State) => ∃ (f1 : Nat → Int32), Wd D (va_A [(h0, .inr (11, [.ref dv, .ref tp, .int (nI t)])), (tp, .inl (ca 0, 1000, .inl f0))] sz) [(h0, .inr (11, [.ref dv, .ref tp, .int (nI (t + 4))])), (tp, .inl (ca 0, 1000, .inl f1))] tt) (va_A [(h0, .inr (11, [.ref dv, .ref tp, .int (nI t)])), (tp, .inl (ca 0, 1000, .inl f0))] sz)) 0 0 (va_A [(h0, .inr (11, [.ref dv, .ref tp, .int (nI t)])), (tp, .inl (ca 0, 1000, .inl f0))] sz) := by
  refine Met.ofW (cc := cX11_feedFour) (maxL := 3) (ret := none) (by decide) rfl ?_
  intro p e s m args below meth c s₁ B hml hv
  obtain ⟨rfl, hsz, hP, hK, hD0, hN⟩ := hv
  have hx := B.exec
  have hb := B.bytes
  have hr := B.returns
  have hts := atoms_spec (ws := w_c_feedFour) B.pre
  have hown : s.vm.findClass RX11 = some m.cls := findClass_of_methodNamed B.named
  have hlocks := B.notSynchronized
  have hi_X11 : ∀ w ∈ wsX110, w ∈ w_c_feedFour := fun _ h => List.mem_cons_of_mem _ (List.mem_append_right _ h)
  subst hsz
  have hD := hD0.self (sz := s.heap.size)
  generalize hAe : va_A [(h0, .inr (11, [.ref dv, .ref tp, .int (nI t)])), (tp, .inl (ca 0, 1000, .inl f0))] s.heap.size = A at hD ⊢
  have hA : ∀ q : Nat, s.heap.size ≤ q → A q := fun q h => by rw [← hAe]; exact Or.inr h
  have hS : va_S A s.heap s.heap [] := va_S.rf
  have hP : va_P D vwCl [(h0, .inr (11, [.ref dv, .ref tp, .int (nI t)])), (tp, .inl (ca 0, 1000, .inl f0))] s.heap := hP
  have hl := lv_entry ([.ref h0, .int v]) (n := 3) (Nat.le_of_ble_eq_true rfl)
  rw [lg_entry_eq]
  generalize (lg_sl ([.ref h0, .int v]) ++ List.replicate (3 - (lg_sl ([.ref h0, .int v])).length) Slot.unset).toArray = ls at hl ⊢
  have hl : lv_has ls 3 [(0, .ref h0), (1, .int v)] := hl
  refine lv_bipush (v := 24) hx hb dX11_feedFour_0 (by decide) ?_
  refine lv_istore_n (lv' := [(2, .int 24), (0, .ref h0), (1, .int v)]) hx hb dX11_feedFour_2 rfl hl (by decide) rfl (fun ls hl => ?_)
  refine lv_iload_n hx hb dX11_feedFour_3 rfl (lv_at hl 0 rfl) ?_
  refine lv_if_lt (tgt := 49) hx hb dX11_feedFour_4 (by decide) (fun h => absurd h (by decide)) (fun _ => ?_)
  refine lv_aload_n hx hb dX11_feedFour_7 rfl (lv_at hl 1 rfl) ?_
  refine va_get (D := D) (ci := 11) (v := .int (nI t)) (C := RX11) (T := TX11) (N := 3) hx hb hts hi_X11 hown hK hP 0 rfl rfl 2 (by decide) (hts (.fieldLink RX11 36 "BeamHouse" "taped" "I") (List.mem_of_getElem? (i := 1) rfl)) (fun _ h9 => h9) rfl dX11_feedFour_8 ?_
  refine lv_sipush (v := 1000) hx hb dX11_feedFour_11 (by decide) ?_
  refine lv_icmp_ge (tgt := 49) hx hb dX11_feedFour_14 (by decide) (fun h => absurd h (nI_ge (a := t) (b := 1000) (by omega) (by decide))) (fun _ => ?_)
  refine lv_aload_n hx hb dX11_feedFour_17 rfl (lv_at hl 1 rfl) ?_
  refine va_get (D := D) (ci := 11) (v := .ref tp) (C := RX11) (T := TX11) (N := 3) hx hb hts hi_X11 hown hK hP 0 rfl rfl 1 (by decide) (hts (.fieldLink RX11 15 "BeamHouse" "tape" "[I") (List.mem_of_getElem? (i := 2) rfl)) (fun _ h9 => h9) rfl dX11_feedFour_18 ?_
  refine lv_aload_n hx hb dX11_feedFour_21 rfl (lv_at hl 1 rfl) ?_
  refine va_get (D := D) (ci := 11) (v := .int (nI t)) (C := RX11) (T := TX11) (N := 3) hx hb hts hi_X11 hown hK hP 0 rfl rfl 2 (by decide) (hts (.fieldLink RX11 36 "BeamHouse" "taped" "I") (List.mem_of_getElem? (i := 1) rfl)) (fun _ h9 => h9) rfl dX11_feedFour_22 ?_
  refine lv_iload_n hx hb dX11_feedFour_25 rfl (lv_at hl 2 rfl) ?_
  refine lv_iload_n hx hb dX11_feedFour_26 rfl (lv_at hl 0 rfl) ?_
  refine lv_iushr hx hb dX11_feedFour_27 rfl ?_
  refine lv_topi (fun x_1 ex_1 => ?_)
  refine lv_sipush (v := 255) hx hb dX11_feedFour_28 (by decide) ?_
  refine lv_iand hx hb dX11_feedFour_31 ?_
  refine lv_topi (fun x_2 ex_2 => ?_)
  refine va_iast hx hb hK hP hD hS 1 0 rfl rfl (vp_in_nI (by omega) (by decide)) dX11_feedFour_32 (fun H locs hP hD hS => ?_)
  have hP : va_P D vwCl [(h0, .inr (11, [.ref dv, .ref tp, .int (nI t)])), (tp, .inl (ca 0, 1000, .inl (upd f0 ((nI t)).toNatClampNeg x_2)))] H := hP
  have hD : va_D A [(h0, .inr (11, [.ref dv, .ref tp, .int (nI t)])), (tp, .inl (ca 0, 1000, .inl (upd f0 ((nI t)).toNatClampNeg x_2)))] := hD
  generalize (upd f0 ((nI t)).toNatClampNeg x_2) = f_3 at hP hD
  refine lv_aload_n hx hb dX11_feedFour_33 rfl (lv_at hl 1 rfl) ?_
  refine lv_dup hx hb dX11_feedFour_34 rfl ?_
  refine va_get (D := D) (ci := 11) (v := .int (nI t)) (C := RX11) (T := TX11) (N := 3) hx hb hts hi_X11 hown hK hP 0 rfl rfl 2 (by decide) (hts (.fieldLink RX11 36 "BeamHouse" "taped" "I") (List.mem_of_getElem? (i := 1) rfl)) (fun _ h9 => h9) rfl dX11_feedFour_35 ?_
  refine lv_iconst (v := 1) hx hb dX11_feedFour_38 (by decide) ?_
  refine lv_iadd hx hb dX11_feedFour_39 ?_
  refine lv_topn (nI (t + 1)) (nI_add t 1) ?_
  refine va_put (D := D) (ci := 11) (v := .int (nI (t + 1))) (ty := .int) (C := RX11) (T := TX11) (N := 3) hx hb hts hi_X11 tyX11 tyX11_ok nmX11 hown hK hP hD hS 0 rfl rfl 2 (by decide) (hts (.fieldLink RX11 36 "BeamHouse" "taped" "I") (List.mem_of_getElem? (i := 1) rfl)) (fun _ h9 => h9) rfl (by decide +kernel) rfl rfl (Nat.le_of_ble_eq_true rfl) dX11_feedFour_40 (fun H locs hP hD hS => ?_)
  have hP : va_P D vwCl [(h0, .inr (11, [.ref dv, .ref tp, .int (nI (t + 1))])), (tp, .inl (ca 0, 1000, .inl f_3))] H := hP
  have hD : va_D A [(h0, .inr (11, [.ref dv, .ref tp, .int (nI (t + 1))])), (tp, .inl (ca 0, 1000, .inl f_3))] := hD
  refine lv_iinc (v := 16) (lv' := [(2, .int 16), (0, .ref h0), (1, .int v)]) hx hb dX11_feedFour_43 hl (k := 0) rfl (by decide) (by decide) rfl (fun ls hl => ?_)
  refine lv_goto (tgt := 3) hx hb dX11_feedFour_46 (by decide) ?_
  refine lv_iload_n hx hb dX11_feedFour_3 rfl (lv_at hl 0 rfl) ?_
  refine lv_if_lt (tgt := 49) hx hb dX11_feedFour_4 (by decide) (fun h => absurd h (by decide)) (fun _ => ?_)
  refine lv_aload_n hx hb dX11_feedFour_7 rfl (lv_at hl 1 rfl) ?_
  refine va_get (D := D) (ci := 11) (v := .int (nI (t + 1))) (C := RX11) (T := TX11) (N := 3) hx hb hts hi_X11 hown hK hP 0 rfl rfl 2 (by decide) (hts (.fieldLink RX11 36 "BeamHouse" "taped" "I") (List.mem_of_getElem? (i := 1) rfl)) (fun _ h9 => h9) rfl dX11_feedFour_8 ?_
  refine lv_sipush (v := 1000) hx hb dX11_feedFour_11 (by decide) ?_
  refine lv_icmp_ge (tgt := 49) hx hb dX11_feedFour_14 (by decide) (fun h => absurd h (nI_ge (a := (t + 1)) (b := 1000) (by omega) (by decide))) (fun _ => ?_)
  refine lv_aload_n hx hb dX11_feedFour_17 rfl (lv_at hl 1 rfl) ?_
  refine va_get (D := D) (ci := 11) (v := .ref tp) (C := RX11) (T := TX11) (N := 3) hx hb hts hi_X11 hown hK hP 0 rfl rfl 1 (by decide) (hts (.fieldLink RX11 15 "BeamHouse" "tape" "[I") (List.mem_of_getElem? (i := 2) rfl)) (fun _ h9 => h9) rfl dX11_feedFour_18 ?_
  refine lv_aload_n hx hb dX11_feedFour_21 rfl (lv_at hl 1 rfl) ?_
  refine va_get (D := D) (ci := 11) (v := .int (nI (t + 1))) (C := RX11) (T := TX11) (N := 3) hx hb hts hi_X11 hown hK hP 0 rfl rfl 2 (by decide) (hts (.fieldLink RX11 36 "BeamHouse" "taped" "I") (List.mem_of_getElem? (i := 1) rfl)) (fun _ h9 => h9) rfl dX11_feedFour_22 ?_
  refine lv_iload_n hx hb dX11_feedFour_25 rfl (lv_at hl 2 rfl) ?_
  refine lv_iload_n hx hb dX11_feedFour_26 rfl (lv_at hl 0 rfl) ?_
  refine lv_iushr hx hb dX11_feedFour_27 rfl ?_
  refine lv_topi (fun x_4 ex_4 => ?_)
  refine lv_sipush (v := 255) hx hb dX11_feedFour_28 (by decide) ?_
  refine lv_iand hx hb dX11_feedFour_31 ?_
  refine lv_topi (fun x_5 ex_5 => ?_)
  refine va_iast hx hb hK hP hD hS 1 0 rfl rfl (vp_in_nI (by omega) (by decide)) dX11_feedFour_32 (fun H locs hP hD hS => ?_)
  have hP : va_P D vwCl [(h0, .inr (11, [.ref dv, .ref tp, .int (nI (t + 1))])), (tp, .inl (ca 0, 1000, .inl (upd f_3 ((nI (t + 1))).toNatClampNeg x_5)))] H := hP
  have hD : va_D A [(h0, .inr (11, [.ref dv, .ref tp, .int (nI (t + 1))])), (tp, .inl (ca 0, 1000, .inl (upd f_3 ((nI (t + 1))).toNatClampNeg x_5)))] := hD
  generalize (upd f_3 ((nI (t + 1))).toNatClampNeg x_5) = f_6 at hP hD
  refine lv_aload_n hx hb dX11_feedFour_33 rfl (lv_at hl 1 rfl) ?_
  refine lv_dup hx hb dX11_feedFour_34 rfl ?_
  refine va_get (D := D) (ci := 11) (v := .int (nI (t + 1))) (C := RX11) (T := TX11) (N := 3) hx hb hts hi_X11 hown hK hP 0 rfl rfl 2 (by decide) (hts (.fieldLink RX11 36 "BeamHouse" "taped" "I") (List.mem_of_getElem? (i := 1) rfl)) (fun _ h9 => h9) rfl dX11_feedFour_35 ?_
  refine lv_iconst (v := 1) hx hb dX11_feedFour_38 (by decide) ?_
  refine lv_iadd hx hb dX11_feedFour_39 ?_
  refine lv_topn (nI (t + 2)) (nI_add (t + 1) 1) ?_
  refine va_put (D := D) (ci := 11) (v := .int (nI (t + 2))) (ty := .int) (C := RX11) (T := TX11) (N := 3) hx hb hts hi_X11 tyX11 tyX11_ok nmX11 hown hK hP hD hS 0 rfl rfl 2 (by decide) (hts (.fieldLink RX11 36 "BeamHouse" "taped" "I") (List.mem_of_getElem? (i := 1) rfl)) (fun _ h9 => h9) rfl (by decide +kernel) rfl rfl (Nat.le_of_ble_eq_true rfl) dX11_feedFour_40 (fun H locs hP hD hS => ?_)
  have hP : va_P D vwCl [(h0, .inr (11, [.ref dv, .ref tp, .int (nI (t + 2))])), (tp, .inl (ca 0, 1000, .inl f_6))] H := hP
  have hD : va_D A [(h0, .inr (11, [.ref dv, .ref tp, .int (nI (t + 2))])), (tp, .inl (ca 0, 1000, .inl f_6))] := hD
  refine lv_iinc (v := 8) (lv' := [(2, .int 8), (0, .ref h0), (1, .int v)]) hx hb dX11_feedFour_43 hl (k := 0) rfl (by decide) (by decide) rfl (fun ls hl => ?_)
  refine lv_goto (tgt := 3) hx hb dX11_feedFour_46 (by decide) ?_
  refine lv_iload_n hx hb dX11_feedFour_3 rfl (lv_at hl 0 rfl) ?_
  refine lv_if_lt (tgt := 49) hx hb dX11_feedFour_4 (by decide) (fun h => absurd h (by decide)) (fun _ => ?_)
  refine lv_aload_n hx hb dX11_feedFour_7 rfl (lv_at hl 1 rfl) ?_
  refine va_get (D := D) (ci := 11) (v := .int (nI (t + 2))) (C := RX11) (T := TX11) (N := 3) hx hb hts hi_X11 hown hK hP 0 rfl rfl 2 (by decide) (hts (.fieldLink RX11 36 "BeamHouse" "taped" "I") (List.mem_of_getElem? (i := 1) rfl)) (fun _ h9 => h9) rfl dX11_feedFour_8 ?_
  refine lv_sipush (v := 1000) hx hb dX11_feedFour_11 (by decide) ?_
  refine lv_icmp_ge (tgt := 49) hx hb dX11_feedFour_14 (by decide) (fun h => absurd h (nI_ge (a := (t + 2)) (b := 1000) (by omega) (by decide))) (fun _ => ?_)
  refine lv_aload_n hx hb dX11_feedFour_17 rfl (lv_at hl 1 rfl) ?_
  refine va_get (D := D) (ci := 11) (v := .ref tp) (C := RX11) (T := TX11) (N := 3) hx hb hts hi_X11 hown hK hP 0 rfl rfl 1 (by decide) (hts (.fieldLink RX11 15 "BeamHouse" "tape" "[I") (List.mem_of_getElem? (i := 2) rfl)) (fun _ h9 => h9) rfl dX11_feedFour_18 ?_
  refine lv_aload_n hx hb dX11_feedFour_21 rfl (lv_at hl 1 rfl) ?_
  refine va_get (D := D) (ci := 11) (v := .int (nI (t + 2))) (C := RX11) (T := TX11) (N := 3) hx hb hts hi_X11 hown hK hP 0 rfl rfl 2 (by decide) (hts (.fieldLink RX11 36 "BeamHouse" "taped" "I") (List.mem_of_getElem? (i := 1) rfl)) (fun _ h9 => h9) rfl dX11_feedFour_22 ?_
  refine lv_iload_n hx hb dX11_feedFour_25 rfl (lv_at hl 2 rfl) ?_
  refine lv_iload_n hx hb dX11_feedFour_26 rfl (lv_at hl 0 rfl) ?_
  refine lv_iushr hx hb dX11_feedFour_27 rfl ?_
  refine lv_topi (fun x_7 ex_7 => ?_)
  refine lv_sipush (v := 255) hx hb dX11_feedFour_28 (by decide) ?_
  refine lv_iand hx hb dX11_feedFour_31 ?_
  refine lv_topi (fun x_8 ex_8 => ?_)
  refine va_iast hx hb hK hP hD hS 1 0 rfl rfl (vp_in_nI (by omega) (by decide)) dX11_feedFour_32 (fun H locs hP hD hS => ?_)
  have hP : va_P D vwCl [(h0, .inr (11, [.ref dv, .ref tp, .int (nI (t + 2))])), (tp, .inl (ca 0, 1000, .inl (upd f_6 ((nI (t + 2))).toNatClampNeg x_8)))] H := hP
  have hD : va_D A [(h0, .inr (11, [.ref dv, .ref tp, .int (nI (t + 2))])), (tp, .inl (ca 0, 1000, .inl (upd f_6 ((nI (t + 2))).toNatClampNeg x_8)))] := hD
  generalize (upd f_6 ((nI (t + 2))).toNatClampNeg x_8) = f_9 at hP hD
  refine lv_aload_n hx hb dX11_feedFour_33 rfl (lv_at hl 1 rfl) ?_
  refine lv_dup hx hb dX11_feedFour_34 rfl ?_
  refine va_get (D := D) (ci := 11) (v := .int (nI (t + 2))) (C := RX11) (T := TX11) (N := 3) hx hb hts hi_X11 hown hK hP 0 rfl rfl 2 (by decide) (hts (.fieldLink RX11 36 "BeamHouse" "taped" "I") (List.mem_of_getElem? (i := 1) rfl)) (fun _ h9 => h9) rfl dX11_feedFour_35 ?_
  refine lv_iconst (v := 1) hx hb dX11_feedFour_38 (by decide) ?_
  refine lv_iadd hx hb dX11_feedFour_39 ?_
  refine lv_topn (nI (t + 3)) (nI_add (t + 2) 1) ?_
  refine va_put (D := D) (ci := 11) (v := .int (nI (t + 3))) (ty := .int) (C := RX11) (T := TX11) (N := 3) hx hb hts hi_X11 tyX11 tyX11_ok nmX11 hown hK hP hD hS 0 rfl rfl 2 (by decide) (hts (.fieldLink RX11 36 "BeamHouse" "taped" "I") (List.mem_of_getElem? (i := 1) rfl)) (fun _ h9 => h9) rfl (by decide +kernel) rfl rfl (Nat.le_of_ble_eq_true rfl) dX11_feedFour_40 (fun H locs hP hD hS => ?_)
  have hP : va_P D vwCl [(h0, .inr (11, [.ref dv, .ref tp, .int (nI (t + 3))])), (tp, .inl (ca 0, 1000, .inl f_9))] H := hP
  have hD : va_D A [(h0, .inr (11, [.ref dv, .ref tp, .int (nI (t + 3))])), (tp, .inl (ca 0, 1000, .inl f_9))] := hD
  refine lv_iinc (v := 0) (lv' := [(2, .int 0), (0, .ref h0), (1, .int v)]) hx hb dX11_feedFour_43 hl (k := 0) rfl (by decide) (by decide) rfl (fun ls hl => ?_)
  refine lv_goto (tgt := 3) hx hb dX11_feedFour_46 (by decide) ?_
  refine lv_iload_n hx hb dX11_feedFour_3 rfl (lv_at hl 0 rfl) ?_
  refine lv_if_lt (tgt := 49) hx hb dX11_feedFour_4 (by decide) (fun h => absurd h (by decide)) (fun _ => ?_)
  refine lv_aload_n hx hb dX11_feedFour_7 rfl (lv_at hl 1 rfl) ?_
  refine va_get (D := D) (ci := 11) (v := .int (nI (t + 3))) (C := RX11) (T := TX11) (N := 3) hx hb hts hi_X11 hown hK hP 0 rfl rfl 2 (by decide) (hts (.fieldLink RX11 36 "BeamHouse" "taped" "I") (List.mem_of_getElem? (i := 1) rfl)) (fun _ h9 => h9) rfl dX11_feedFour_8 ?_
  refine lv_sipush (v := 1000) hx hb dX11_feedFour_11 (by decide) ?_
  refine lv_icmp_ge (tgt := 49) hx hb dX11_feedFour_14 (by decide) (fun h => absurd h (nI_ge (a := (t + 3)) (b := 1000) (by omega) (by decide))) (fun _ => ?_)
  refine lv_aload_n hx hb dX11_feedFour_17 rfl (lv_at hl 1 rfl) ?_
  refine va_get (D := D) (ci := 11) (v := .ref tp) (C := RX11) (T := TX11) (N := 3) hx hb hts hi_X11 hown hK hP 0 rfl rfl 1 (by decide) (hts (.fieldLink RX11 15 "BeamHouse" "tape" "[I") (List.mem_of_getElem? (i := 2) rfl)) (fun _ h9 => h9) rfl dX11_feedFour_18 ?_
  refine lv_aload_n hx hb dX11_feedFour_21 rfl (lv_at hl 1 rfl) ?_
  refine va_get (D := D) (ci := 11) (v := .int (nI (t + 3))) (C := RX11) (T := TX11) (N := 3) hx hb hts hi_X11 hown hK hP 0 rfl rfl 2 (by decide) (hts (.fieldLink RX11 36 "BeamHouse" "taped" "I") (List.mem_of_getElem? (i := 1) rfl)) (fun _ h9 => h9) rfl dX11_feedFour_22 ?_
  refine lv_iload_n hx hb dX11_feedFour_25 rfl (lv_at hl 2 rfl) ?_
  refine lv_iload_n hx hb dX11_feedFour_26 rfl (lv_at hl 0 rfl) ?_
  refine lv_iushr hx hb dX11_feedFour_27 rfl ?_
  refine lv_topi (fun x_10 ex_10 => ?_)
  refine lv_sipush (v := 255) hx hb dX11_feedFour_28 (by decide) ?_
  refine lv_iand hx hb dX11_feedFour_31 ?_
  refine lv_topi (fun x_11 ex_11 => ?_)
  refine va_iast hx hb hK hP hD hS 1 0 rfl rfl (vp_in_nI (by omega) (by decide)) dX11_feedFour_32 (fun H locs hP hD hS => ?_)
  have hP : va_P D vwCl [(h0, .inr (11, [.ref dv, .ref tp, .int (nI (t + 3))])), (tp, .inl (ca 0, 1000, .inl (upd f_9 ((nI (t + 3))).toNatClampNeg x_11)))] H := hP
  have hD : va_D A [(h0, .inr (11, [.ref dv, .ref tp, .int (nI (t + 3))])), (tp, .inl (ca 0, 1000, .inl (upd f_9 ((nI (t + 3))).toNatClampNeg x_11)))] := hD
  generalize (upd f_9 ((nI (t + 3))).toNatClampNeg x_11) = f_12 at hP hD
  refine lv_aload_n hx hb dX11_feedFour_33 rfl (lv_at hl 1 rfl) ?_
  refine lv_dup hx hb dX11_feedFour_34 rfl ?_
  refine va_get (D := D) (ci := 11) (v := .int (nI (t + 3))) (C := RX11) (T := TX11) (N := 3) hx hb hts hi_X11 hown hK hP 0 rfl rfl 2 (by decide) (hts (.fieldLink RX11 36 "BeamHouse" "taped" "I") (List.mem_of_getElem? (i := 1) rfl)) (fun _ h9 => h9) rfl dX11_feedFour_35 ?_
  refine lv_iconst (v := 1) hx hb dX11_feedFour_38 (by decide) ?_
  refine lv_iadd hx hb dX11_feedFour_39 ?_
  refine lv_topn (nI (t + 4)) (nI_add (t + 3) 1) ?_
  refine va_put (D := D) (ci := 11) (v := .int (nI (t + 4))) (ty := .int) (C := RX11) (T := TX11) (N := 3) hx hb hts hi_X11 tyX11 tyX11_ok nmX11 hown hK hP hD hS 0 rfl rfl 2 (by decide) (hts (.fieldLink RX11 36 "BeamHouse" "taped" "I") (List.mem_of_getElem? (i := 1) rfl)) (fun _ h9 => h9) rfl (by decide +kernel) rfl rfl (Nat.le_of_ble_eq_true rfl) dX11_feedFour_40 (fun H locs hP hD hS => ?_)
  have hP : va_P D vwCl [(h0, .inr (11, [.ref dv, .ref tp, .int (nI (t + 4))])), (tp, .inl (ca 0, 1000, .inl f_12))] H := hP
  have hD : va_D A [(h0, .inr (11, [.ref dv, .ref tp, .int (nI (t + 4))])), (tp, .inl (ca 0, 1000, .inl f_12))] := hD
  refine lv_iinc (v := (-8)) (lv' := [(2, .int (-8)), (0, .ref h0), (1, .int v)]) hx hb dX11_feedFour_43 hl (k := 0) rfl (by decide) (by decide) rfl (fun ls hl => ?_)
  refine lv_goto (tgt := 3) hx hb dX11_feedFour_46 (by decide) ?_
  refine lv_iload_n hx hb dX11_feedFour_3 rfl (lv_at hl 0 rfl) ?_
  refine lv_if_lt (tgt := 49) hx hb dX11_feedFour_4 (by decide) (fun _ => ?_) (fun h => absurd (by decide) h)
  exact W.vret hx hb hr (fun tt ht hW => ⟨⟨(), rfl, trivial, ⟨f_12, ⟨by rw [ht]; exact hP.sub [0, 1] rfl, hD.sub [0, 1] rfl rfl⟩⟩⟩, hS.F ht⟩) hS.2.2 dX11_feedFour_49
def w_c_feed : List Cond := .code yX11_feed cX11_feed 6 (some .int) :: (([.fieldLink RX11 36 "BeamHouse" "taped" "I", .code yX11_feedFour cX11_feedFour 3 none, .fieldLink RX11 15 "BeamHouse" "tape" "[I", .methodLink RX11 39 yX11_feedFour, .instanceMethod yX11_feedFour, .selects RX11 yX11_feedFour yX11_feedFour, .initialized RX11] : List Cond) ++ wsX110)
theorem g_c_feed_c_feedFour_39 : GoodIn w_c_feed (wsV RX11 39 RX11 yX11_feedFour w_c_feedFour) := (goodIn_app (goodIn_r _ [4, 5, 6, 7] rfl rfl) (goodIn_ca (goodIn_r _ [2, 1, 3] rfl rfl) (goodIn_sub (fun _ h => List.mem_cons_of_mem _ (List.mem_append_right _ h)) gw_X11)))
set_option maxHeartbeats 4000000 in
set_option maxRecDepth 100000 in
theorem c_feed (l : Launch) (D : va_G) (ca : Nat → ClassId) (sz : Nat) (h0 : Nat) (dv : Nat) (tp : Nat) (v1 : Int32) (v2 : Int32) (v3 : Int32) (v4 : Int32) (v5 : Int32)  : Met l yX11_feed w_c_feed ({ frames := 1, cells := 0, slots := 0, locals := 22 }) (Pre D ca [.ref h0, .int v1, .int v2, .int v3, .int v4, .int v5] [(h0, .inr (11, [.ref dv, .ref tp, .int 0])), (tp, .inl (ca 0, 1000, .inl (fun _ => 0)))] sz) (va_Qi (fun (r : Int32) (_ : Unit) => r = 20) (fun (_ : Unit) (tt : State) => Wd D (va_A [(h0, .inr (11, [.ref dv, .ref tp, .int 0])), (tp, .inl (ca 0, 1000, .inl (fun _ => 0)))] sz) [] tt) (va_A [(h0, .inr (11, [.ref dv, .ref tp, .int 0])), (tp, .inl (ca 0, 1000, .inl (fun _ => 0)))] sz)) 0 0 (va_A [(h0, .inr (11, [.ref dv, .ref tp, .int 0])), (tp, .inl (ca 0, 1000, .inl (fun _ => 0)))] sz) := by
  refine Met.ofW (cc := cX11_feed) (maxL := 6) (ret := (some .int)) (by decide) rfl ?_
  intro p e s m args below meth c s₁ B hml hv
  obtain ⟨rfl, hsz, hP, hK, hD0, hN⟩ := hv
  have hx := B.exec
  have hb := B.bytes
  have hr := B.returns
  have hts := atoms_spec (ws := w_c_feed) B.pre
  have hown : s.vm.findClass RX11 = some m.cls := findClass_of_methodNamed B.named
  have hlocks := B.notSynchronized
  have hi_X11 : ∀ w ∈ wsX110, w ∈ w_c_feed := fun _ h => List.mem_cons_of_mem _ (List.mem_append_right _ h)
  subst hsz
  have hD := hD0.self (sz := s.heap.size)
  generalize hAe : va_A [(h0, .inr (11, [.ref dv, .ref tp, .int 0])), (tp, .inl (ca 0, 1000, .inl (fun _ => 0)))] s.heap.size = A at hD ⊢
  have hA : ∀ q : Nat, s.heap.size ≤ q → A q := fun q h => by rw [← hAe]; exact Or.inr h
  have hS : va_S A s.heap s.heap [] := va_S.rf
  have hP : va_P D vwCl [(h0, .inr (11, [.ref dv, .ref tp, .int 0])), (tp, .inl (ca 0, 1000, .inl (fun _ => 0)))] s.heap := hP
  have hl := lv_entry ([.ref h0, .int v1, .int v2, .int v3, .int v4, .int v5]) (n := 6) (Nat.le_of_ble_eq_true rfl)
  rw [lg_entry_eq]
  generalize (lg_sl ([.ref h0, .int v1, .int v2, .int v3, .int v4, .int v5]) ++ List.replicate (6 - (lg_sl ([.ref h0, .int v1, .int v2, .int v3, .int v4, .int v5])).length) Slot.unset).toArray = ls at hl ⊢
  have hl : lv_has ls 6 [(0, .ref h0), (1, .int v1), (2, .int v2), (3, .int v3), (4, .int v4), (5, .int v5)] := hl
  refine lv_aload_n hx hb dX11_feed_0 rfl (lv_at hl 0 rfl) ?_
  refine va_get (D := D) (ci := 11) (v := .int 0) (C := RX11) (T := TX11) (N := 3) hx hb hts hi_X11 hown hK hP 0 rfl rfl 2 (by decide) (hts (.fieldLink RX11 36 "BeamHouse" "taped" "I") (List.mem_of_getElem? (i := 1) rfl)) (fun _ h9 => h9) rfl dX11_feed_1 ?_
  refine lv_sipush (v := 980) hx hb dX11_feed_4 (by decide) ?_
  refine lv_icmp_le (tgt := 12) hx hb dX11_feed_7 (by decide) (fun _ => ?_) (fun h => absurd (by decide) h)
  have hP : va_P D vwCl [(h0, .inr (11, [.ref dv, .ref tp, .int (nI 0)])), (tp, .inl (ca 0, 1000, .inl (fun _ => 0)))] s.heap := hP
  have hD : va_D A [(h0, .inr (11, [.ref dv, .ref tp, .int (nI 0)])), (tp, .inl (ca 0, 1000, .inl (fun _ => 0)))] := hD
  refine lv_aload_n hx hb dX11_feed_12 rfl (lv_at hl 0 rfl) ?_
  refine lv_iload_n hx hb dX11_feed_13 rfl (lv_at hl 1 rfl) ?_
  refine kGo_v (wr := []) (kRunV (As := [.int v1]) (rest := []) ⟨hx, hb, hml, hown, hts⟩ (c_feedFour l D ca _ h0 dv tp 0 (fun _ => 0) v1 (by decide)) (cwV 1 hts g_c_feed_c_feedFour_39 rfl rfl rfl (by decide +kernel) ⟨Nat.le_of_ble_eq_true rfl, Nat.le_of_ble_eq_true rfl⟩) hK hN hP hD [0, 1] rfl rfl rfl rfl rfl rfl hl.1 rfl (Nat.le_of_ble_eq_true rfl) dX11_feed_14 ⟨Nat.le_of_ble_eq_true rfl, Nat.le_of_ble_eq_true rfl⟩) hP hD hS hA [0, 1] [] rfl rfl rfl (by decide) (fun uu_ tt H locs hr_2 hB hj hS => ?_)
  obtain ⟨f_1, hWd⟩ := hB
  obtain ⟨hP, hD⟩ := hj _ hWd
  have hP : va_P D vwCl [(h0, .inr (11, [.ref dv, .ref tp, .int (nI (0 + 4))])), (tp, .inl (ca 0, 1000, .inl f_1))] H := hP
  have hD : va_D A [(h0, .inr (11, [.ref dv, .ref tp, .int (nI (0 + 4))])), (tp, .inl (ca 0, 1000, .inl f_1))] := hD
  refine lv_aload_n hx hb dX11_feed_17 rfl (lv_at hl 0 rfl) ?_
  refine lv_iload_n hx hb dX11_feed_18 rfl (lv_at hl 2 rfl) ?_
  refine kGo_v (wr := []) (kRunV (As := [.int v2]) (rest := []) ⟨hx, hb, hml, hown, hts⟩ (c_feedFour l D ca _ h0 dv tp (0 + 4) f_1 v2 (by decide)) (cwV 1 hts g_c_feed_c_feedFour_39 rfl rfl rfl (by decide +kernel) ⟨Nat.le_of_ble_eq_true rfl, Nat.le_of_ble_eq_true rfl⟩) hK hN hP hD [0, 1] rfl rfl rfl rfl rfl rfl hl.1 rfl (Nat.le_of_ble_eq_true rfl) dX11_feed_19 ⟨Nat.le_of_ble_eq_true rfl, Nat.le_of_ble_eq_true rfl⟩) hP hD hS hA [0, 1] [] rfl rfl rfl (by decide) (fun uu_ tt H locs hr_4 hB hj hS => ?_)
  obtain ⟨f_3, hWd⟩ := hB
  obtain ⟨hP, hD⟩ := hj _ hWd
  have hP : va_P D vwCl [(h0, .inr (11, [.ref dv, .ref tp, .int (nI ((0 + 4) + 4))])), (tp, .inl (ca 0, 1000, .inl f_3))] H := hP
  have hD : va_D A [(h0, .inr (11, [.ref dv, .ref tp, .int (nI ((0 + 4) + 4))])), (tp, .inl (ca 0, 1000, .inl f_3))] := hD
  refine lv_aload_n hx hb dX11_feed_22 rfl (lv_at hl 0 rfl) ?_
  refine lv_iload_n hx hb dX11_feed_23 rfl (lv_at hl 3 rfl) ?_
  refine kGo_v (wr := []) (kRunV (As := [.int v3]) (rest := []) ⟨hx, hb, hml, hown, hts⟩ (c_feedFour l D ca _ h0 dv tp ((0 + 4) + 4) f_3 v3 (by decide)) (cwV 1 hts g_c_feed_c_feedFour_39 rfl rfl rfl (by decide +kernel) ⟨Nat.le_of_ble_eq_true rfl, Nat.le_of_ble_eq_true rfl⟩) hK hN hP hD [0, 1] rfl rfl rfl rfl rfl rfl hl.1 rfl (Nat.le_of_ble_eq_true rfl) dX11_feed_24 ⟨Nat.le_of_ble_eq_true rfl, Nat.le_of_ble_eq_true rfl⟩) hP hD hS hA [0, 1] [] rfl rfl rfl (by decide) (fun uu_ tt H locs hr_6 hB hj hS => ?_)
  obtain ⟨f_5, hWd⟩ := hB
  obtain ⟨hP, hD⟩ := hj _ hWd
  have hP : va_P D vwCl [(h0, .inr (11, [.ref dv, .ref tp, .int (nI (((0 + 4) + 4) + 4))])), (tp, .inl (ca 0, 1000, .inl f_5))] H := hP
  have hD : va_D A [(h0, .inr (11, [.ref dv, .ref tp, .int (nI (((0 + 4) + 4) + 4))])), (tp, .inl (ca 0, 1000, .inl f_5))] := hD
  refine lv_aload_n hx hb dX11_feed_27 rfl (lv_at hl 0 rfl) ?_
  refine lv_iload hx hb dX11_feed_28 (lv_at hl 4 rfl) ?_
  refine kGo_v (wr := []) (kRunV (As := [.int v4]) (rest := []) ⟨hx, hb, hml, hown, hts⟩ (c_feedFour l D ca _ h0 dv tp (((0 + 4) + 4) + 4) f_5 v4 (by decide)) (cwV 1 hts g_c_feed_c_feedFour_39 rfl rfl rfl (by decide +kernel) ⟨Nat.le_of_ble_eq_true rfl, Nat.le_of_ble_eq_true rfl⟩) hK hN hP hD [0, 1] rfl rfl rfl rfl rfl rfl hl.1 rfl (Nat.le_of_ble_eq_true rfl) dX11_feed_30 ⟨Nat.le_of_ble_eq_true rfl, Nat.le_of_ble_eq_true rfl⟩) hP hD hS hA [0, 1] [] rfl rfl rfl (by decide) (fun uu_ tt H locs hr_8 hB hj hS => ?_)
  obtain ⟨f_7, hWd⟩ := hB
  obtain ⟨hP, hD⟩ := hj _ hWd
  have hP : va_P D vwCl [(h0, .inr (11, [.ref dv, .ref tp, .int (nI ((((0 + 4) + 4) + 4) + 4))])), (tp, .inl (ca 0, 1000, .inl f_7))] H := hP
  have hD : va_D A [(h0, .inr (11, [.ref dv, .ref tp, .int (nI ((((0 + 4) + 4) + 4) + 4))])), (tp, .inl (ca 0, 1000, .inl f_7))] := hD
  refine lv_aload_n hx hb dX11_feed_33 rfl (lv_at hl 0 rfl) ?_
  refine lv_iload hx hb dX11_feed_34 (lv_at hl 5 rfl) ?_
  refine kGo_v (wr := []) (kRunV (As := [.int v5]) (rest := []) ⟨hx, hb, hml, hown, hts⟩ (c_feedFour l D ca _ h0 dv tp ((((0 + 4) + 4) + 4) + 4) f_7 v5 (by decide)) (cwV 1 hts g_c_feed_c_feedFour_39 rfl rfl rfl (by decide +kernel) ⟨Nat.le_of_ble_eq_true rfl, Nat.le_of_ble_eq_true rfl⟩) hK hN hP hD [0, 1] rfl rfl rfl rfl rfl rfl hl.1 rfl (Nat.le_of_ble_eq_true rfl) dX11_feed_36 ⟨Nat.le_of_ble_eq_true rfl, Nat.le_of_ble_eq_true rfl⟩) hP hD hS hA [0, 1] [] rfl rfl rfl (by decide) (fun uu_ tt H locs hr_10 hB hj hS => ?_)
  obtain ⟨f_9, hWd⟩ := hB
  obtain ⟨hP, hD⟩ := hj _ hWd
  have hP : va_P D vwCl [(h0, .inr (11, [.ref dv, .ref tp, .int (nI (((((0 + 4) + 4) + 4) + 4) + 4))])), (tp, .inl (ca 0, 1000, .inl f_9))] H := hP
  have hD : va_D A [(h0, .inr (11, [.ref dv, .ref tp, .int (nI (((((0 + 4) + 4) + 4) + 4) + 4))])), (tp, .inl (ca 0, 1000, .inl f_9))] := hD
  refine lv_aload_n hx hb dX11_feed_39 rfl (lv_at hl 0 rfl) ?_
  refine va_get (D := D) (ci := 11) (v := .int (nI (((((0 + 4) + 4) + 4) + 4) + 4))) (C := RX11) (T := TX11) (N := 3) hx hb hts hi_X11 hown hK hP 0 rfl rfl 2 (by decide) (hts (.fieldLink RX11 36 "BeamHouse" "taped" "I") (List.mem_of_getElem? (i := 1) rfl)) (fun _ h9 => h9) rfl dX11_feed_40 ?_
  exact W.iret (v := (nI (((((0 + 4) + 4) + 4) + 4) + 4))) hx hb hr (fun tt ht hW => ⟨⟨(nI (((((0 + 4) + 4) + 4) + 4) + 4)), (), rfl, (by decide), ⟨by rw [ht]; exact hP.sub [] rfl, hD.sub [] rfl rfl⟩⟩, hS.F ht⟩) hS.2.2 dX11_feed_43
def w_c_mayBeSlots : List Cond := .code yX11_mayBeSlots cX11_mayBeSlots 1 (some .boolean) :: (([] : List Cond))
set_option maxHeartbeats 4000000 in
set_option maxRecDepth 100000 in
theorem c_mayBeSlots (l : Launch) (D : va_G) (ca : Nat → ClassId) (sz : Nat) (n : Int32)  : Met l yX11_mayBeSlots w_c_mayBeSlots ({ frames := 0, cells := 0, slots := 0, locals := 0 }) (Pre D ca [.int n] [] sz) (va_Qi (fun (r : Int32) (_ : Unit) => r = if n = 1 ∨ n = 6 ∨ n = 8 ∨ n = 16 then 1 else 0) (fun (_ : Unit) (tt : State) => Wd D (va_A [] sz) [] tt) (va_A [] sz)) 0 0 (va_A [] sz) := by
  refine Met.ofW (cc := cX11_mayBeSlots) (maxL := 1) (ret := (some .boolean)) (by decide) rfl ?_
  intro p e s m args below meth c s₁ B hml hv
  obtain ⟨rfl, hsz, hP, hK, hD0, hN⟩ := hv
  have hx := B.exec
  have hb := B.bytes
  have hr := B.returns
  have hts := atoms_spec (ws := w_c_mayBeSlots) B.pre
  have hown : s.vm.findClass RX11 = some m.cls := findClass_of_methodNamed B.named
  have hlocks := B.notSynchronized
  subst hsz
  have hD := hD0.self (sz := s.heap.size)
  generalize hAe : va_A [] s.heap.size = A at hD ⊢
  have hA : ∀ q : Nat, s.heap.size ≤ q → A q := fun q h => by rw [← hAe]; exact Or.inr h
  have hS : va_S A s.heap s.heap [] := va_S.rf
  have hP : va_P D vwCl [] s.heap := hP
  have hl := lv_entry ([.int n]) (n := 1) (Nat.le_of_ble_eq_true rfl)
  rw [lg_entry_eq]
  generalize (lg_sl ([.int n]) ++ List.replicate (1 - (lg_sl ([.int n])).length) Slot.unset).toArray = ls at hl ⊢
  have hl : lv_has ls 1 [(0, .int n)] := hl
  refine lv_iload_n hx hb dX11_mayBeSlots_0 rfl (lv_at hl 0 rfl) ?_
  refine lv_iconst (v := 1) hx hb dX11_mayBeSlots_1 (by decide) ?_
  refine lv_icmp_eq (tgt := 23) hx hb dX11_mayBeSlots_2 (by decide) (fun c_2 => ?_) (fun c_2 => ?_)
  · refine lv_iconst (v := 1) hx hb dX11_mayBeSlots_23 (by decide) ?_
    refine lv_goto (tgt := 28) hx hb dX11_mayBeSlots_24 (by decide) ?_
    exact W.zret (v := 1) (ty := .boolean) hx hb hr rfl (fun tt ht hW => ⟨⟨1, (), rfl, (if_pos (Or.inl c_2)).symm, ⟨by rw [ht]; exact hP.sub [] rfl, hD.sub [] rfl rfl⟩⟩, hS.F ht⟩) hS.2.2 dX11_mayBeSlots_28
  · refine lv_iload_n hx hb dX11_mayBeSlots_5 rfl (lv_at hl 0 rfl) ?_
    refine lv_bipush (v := 6) hx hb dX11_mayBeSlots_6 (by decide) ?_
    refine lv_icmp_eq (tgt := 23) hx hb dX11_mayBeSlots_8 (by decide) (fun c_8 => ?_) (fun c_8 => ?_)
    · refine lv_iconst (v := 1) hx hb dX11_mayBeSlots_23 (by decide) ?_
      refine lv_goto (tgt := 28) hx hb dX11_mayBeSlots_24 (by decide) ?_
      exact W.zret (v := 1) (ty := .boolean) hx hb hr rfl (fun tt ht hW => ⟨⟨1, (), rfl, (if_pos (Or.inr (Or.inl c_8))).symm, ⟨by rw [ht]; exact hP.sub [] rfl, hD.sub [] rfl rfl⟩⟩, hS.F ht⟩) hS.2.2 dX11_mayBeSlots_28
    · refine lv_iload_n hx hb dX11_mayBeSlots_11 rfl (lv_at hl 0 rfl) ?_
      refine lv_bipush (v := 8) hx hb dX11_mayBeSlots_12 (by decide) ?_
      refine lv_icmp_eq (tgt := 23) hx hb dX11_mayBeSlots_14 (by decide) (fun c_14 => ?_) (fun c_14 => ?_)
      · refine lv_iconst (v := 1) hx hb dX11_mayBeSlots_23 (by decide) ?_
        refine lv_goto (tgt := 28) hx hb dX11_mayBeSlots_24 (by decide) ?_
        exact W.zret (v := 1) (ty := .boolean) hx hb hr rfl (fun tt ht hW => ⟨⟨1, (), rfl, (if_pos (Or.inr (Or.inr (Or.inl c_14)))).symm, ⟨by rw [ht]; exact hP.sub [] rfl, hD.sub [] rfl rfl⟩⟩, hS.F ht⟩) hS.2.2 dX11_mayBeSlots_28
      · refine lv_iload_n hx hb dX11_mayBeSlots_17 rfl (lv_at hl 0 rfl) ?_
        refine lv_bipush (v := 16) hx hb dX11_mayBeSlots_18 (by decide) ?_
        refine lv_icmp_ne (tgt := 27) hx hb dX11_mayBeSlots_20 (by decide) (fun c_20 => ?_) (fun c_20 => ?_)
        · refine lv_iconst (v := 0) hx hb dX11_mayBeSlots_27 (by decide) ?_
          exact W.zret (v := 0) (ty := .boolean) hx hb hr rfl (fun tt ht hW => ⟨⟨0, (), rfl, (if_neg (by simp [c_2, c_8, c_14, c_20])).symm, ⟨by rw [ht]; exact hP.sub [] rfl, hD.sub [] rfl rfl⟩⟩, hS.F ht⟩) hS.2.2 dX11_mayBeSlots_28
        · refine lv_iconst (v := 1) hx hb dX11_mayBeSlots_23 (by decide) ?_
          refine lv_goto (tgt := 28) hx hb dX11_mayBeSlots_24 (by decide) ?_
          exact W.zret (v := 1) (ty := .boolean) hx hb hr rfl (fun tt ht hW => ⟨⟨1, (), rfl, (if_pos (Or.inr (Or.inr (Or.inr c_20)))).symm, ⟨by rw [ht]; exact hP.sub [] rfl, hD.sub [] rfl rfl⟩⟩, hS.F ht⟩) hS.2.2 dX11_mayBeSlots_28
def w_c_Search_begins : List Cond := .code yX7_begins cX7_begins 2 none :: (([.fieldLink RX7 15 "BeamHouse$Search" "found" "I", .fieldLink RX7 19 "BeamHouse$Search" "slots" "I", .fieldLink RX7 22 "BeamHouse$Search" "nextSlot" "I"] : List Cond) ++ wsX70)
set_option maxHeartbeats 4000000 in
set_option maxRecDepth 100000 in
theorem c_Search_begins (l : Launch) (D : va_G) (ca : Nat → ClassId) (sz : Nat) (h0 : Nat) (b : Nat) (n : Int32)  : Met l yX7_begins w_c_Search_begins ({ frames := 0, cells := 0, slots := 0, locals := 0 }) (Pre D ca [.ref h0, .int n] [(h0, .inr (7, [.ref b, .int 0, .int 0, .int 0, .int 0, .int 0, .int 0]))] sz) (va_Qv (fun _ : Unit => True) (fun (_ : Unit) (tt : State) => Wd D (va_A [(h0, .inr (7, [.ref b, .int 0, .int 0, .int 0, .int 0, .int 0, .int 0]))] sz) [] tt) (va_A [(h0, .inr (7, [.ref b, .int 0, .int 0, .int 0, .int 0, .int 0, .int 0]))] sz)) 0 0 (va_A [(h0, .inr (7, [.ref b, .int 0, .int 0, .int 0, .int 0, .int 0, .int 0]))] sz) := by
  refine Met.ofW (cc := cX7_begins) (maxL := 2) (ret := none) (by decide) rfl ?_
  intro p e s m args below meth c s₁ B hml hv
  obtain ⟨rfl, hsz, hP, hK, hD0, hN⟩ := hv
  have hx := B.exec
  have hb := B.bytes
  have hr := B.returns
  have hts := atoms_spec (ws := w_c_Search_begins) B.pre
  have hown : s.vm.findClass RX7 = some m.cls := findClass_of_methodNamed B.named
  have hlocks := B.notSynchronized
  have hi_X7 : ∀ w ∈ wsX70, w ∈ w_c_Search_begins := fun _ h => List.mem_cons_of_mem _ (List.mem_append_right _ h)
  subst hsz
  have hD := hD0.self (sz := s.heap.size)
  generalize hAe : va_A [(h0, .inr (7, [.ref b, .int 0, .int 0, .int 0, .int 0, .int 0, .int 0]))] s.heap.size = A at hD ⊢
  have hA : ∀ q : Nat, s.heap.size ≤ q → A q := fun q h => by rw [← hAe]; exact Or.inr h
  have hS : va_S A s.heap s.heap [] := va_S.rf
  have hP : va_P D vwCl [(h0, .inr (7, [.ref b, .int 0, .int 0, .int 0, .int 0, .int 0, .int 0]))] s.heap := hP
  have hl := lv_entry ([.ref h0, .int n]) (n := 2) (Nat.le_of_ble_eq_true rfl)
  rw [lg_entry_eq]
  generalize (lg_sl ([.ref h0, .int n]) ++ List.replicate (2 - (lg_sl ([.ref h0, .int n])).length) Slot.unset).toArray = ls at hl ⊢
  have hl : lv_has ls 2 [(0, .ref h0), (1, .int n)] := hl
  refine lv_aload_n hx hb dX7_begins_0 rfl (lv_at hl 0 rfl) ?_
  refine lv_iconst (v := 0) hx hb dX7_begins_1 (by decide) ?_
  refine va_put (D := D) (ci := 7) (v := .int 0) (ty := .int) (C := RX7) (T := TX7) (N := 7) hx hb hts hi_X7 tyX7 tyX7_ok nmX7 hown hK hP hD hS 0 rfl rfl 1 (by decide) (hts (.fieldLink RX7 15 "BeamHouse$Search" "found" "I") (List.mem_of_getElem? (i := 1) rfl)) (fun _ h9 => h9) rfl (by decide +kernel) rfl rfl (Nat.le_of_ble_eq_true rfl) dX7_begins_2 (fun H locs hP hD hS => ?_)
  have hP : va_P D vwCl [(h0, .inr (7, [.ref b, .int 0, .int 0, .int 0, .int 0, .int 0, .int 0]))] H := hP
  have hD : va_D A [(h0, .inr (7, [.ref b, .int 0, .int 0, .int 0, .int 0, .int 0, .int 0]))] := hD
  refine lv_aload_n hx hb dX7_begins_5 rfl (lv_at hl 0 rfl) ?_
  refine lv_iload_n hx hb dX7_begins_6 rfl (lv_at hl 1 rfl) ?_
  refine va_put (D := D) (ci := 7) (v := .int n) (ty := .int) (C := RX7) (T := TX7) (N := 7) hx hb hts hi_X7 tyX7 tyX7_ok nmX7 hown hK hP hD hS 0 rfl rfl 2 (by decide) (hts (.fieldLink RX7 19 "BeamHouse$Search" "slots" "I") (List.mem_of_getElem? (i := 2) rfl)) (fun _ h9 => h9) rfl (by decide +kernel) rfl rfl (Nat.le_of_ble_eq_true rfl) dX7_begins_7 (fun H locs hP hD hS => ?_)
  have hP : va_P D vwCl [(h0, .inr (7, [.ref b, .int 0, .int n, .int 0, .int 0, .int 0, .int 0]))] H := hP
  have hD : va_D A [(h0, .inr (7, [.ref b, .int 0, .int n, .int 0, .int 0, .int 0, .int 0]))] := hD
  refine lv_aload_n hx hb dX7_begins_10 rfl (lv_at hl 0 rfl) ?_
  refine lv_iconst (v := 0) hx hb dX7_begins_11 (by decide) ?_
  refine va_put (D := D) (ci := 7) (v := .int 0) (ty := .int) (C := RX7) (T := TX7) (N := 7) hx hb hts hi_X7 tyX7 tyX7_ok nmX7 hown hK hP hD hS 0 rfl rfl 3 (by decide) (hts (.fieldLink RX7 22 "BeamHouse$Search" "nextSlot" "I") (List.mem_of_getElem? (i := 3) rfl)) (fun _ h9 => h9) rfl (by decide +kernel) rfl rfl (Nat.le_of_ble_eq_true rfl) dX7_begins_12 (fun H locs hP hD hS => ?_)
  have hP : va_P D vwCl [(h0, .inr (7, [.ref b, .int 0, .int n, .int 0, .int 0, .int 0, .int 0]))] H := hP
  have hD : va_D A [(h0, .inr (7, [.ref b, .int 0, .int n, .int 0, .int 0, .int 0, .int 0]))] := hD
  exact W.vret hx hb hr (fun tt ht hW => ⟨⟨(), rfl, trivial, ⟨by rw [ht]; exact hP.sub [] rfl, hD.sub [] rfl rfl⟩⟩, hS.F ht⟩) hS.2.2 dX7_begins_15
def w_c_discover_no : List Cond := .code yX11_discover cX11_discover 4 (some .int) :: (([.code yX11_deviceAt cX11_deviceAt 2 (some (.object "BeamHouse$Device")), .methodLink RX11 22 yX11_deviceAt, .instanceMethod yX11_deviceAt, .selects RX11 yX11_deviceAt yX11_deviceAt, .initialized RX11] : List Cond))
theorem g_c_discover_no_c_deviceAt_no_22 : GoodIn w_c_discover_no (wsV RX11 22 RX11 yX11_deviceAt w_c_deviceAt_no) := (goodIn_app (goodIn_r _ [2, 3, 4, 5] rfl rfl) (goodIn_r _ [1] rfl rfl))
set_option maxHeartbeats 4000000 in
set_option maxRecDepth 100000 in
theorem c_discover_no (l : Launch) (D : va_G) (ca : Nat → ClassId) (sz : Nat) (h0 : Nat) (dv : Nat) (tp : Nat) (d : Int32) (n : Int32) (hd : d < 0 ∨ 4 ≤ d) : Met l yX11_discover w_c_discover_no ({ frames := 1, cells := 0, slots := 0, locals := 21 }) (Pre D ca [.ref h0, .int d, .int n] [(h0, .inr (11, [.ref dv, .ref tp, .int 0]))] sz) (va_Qi (fun (r : Int32) (_ : Unit) => r = -1) (fun (_ : Unit) (tt : State) => Wd D (va_A [(h0, .inr (11, [.ref dv, .ref tp, .int 0]))] sz) [] tt) (va_A [(h0, .inr (11, [.ref dv, .ref tp, .int 0]))] sz)) 0 0 (va_A [(h0, .inr (11, [.ref dv, .ref tp, .int 0]))] sz) := by
  refine Met.ofW (cc := cX11_discover) (maxL := 4) (ret := (some .int)) (by decide) rfl ?_
  intro p e s m args below meth c s₁ B hml hv
  obtain ⟨rfl, hsz, hP, hK, hD0, hN⟩ := hv
  have hx := B.exec
  have hb := B.bytes
  have hr := B.returns
  have hts := atoms_spec (ws := w_c_discover_no) B.pre
  have hown : s.vm.findClass RX11 = some m.cls := findClass_of_methodNamed B.named
  have hlocks := B.notSynchronized
  subst hsz
  have hD := hD0.self (sz := s.heap.size)
  generalize hAe : va_A [(h0, .inr (11, [.ref dv, .ref tp, .int 0]))] s.heap.size = A at hD ⊢
  have hA : ∀ q : Nat, s.heap.size ≤ q → A q := fun q h => by rw [← hAe]; exact Or.inr h
  have hS : va_S A s.heap s.heap [] := va_S.rf
  have hP : va_P D vwCl [(h0, .inr (11, [.ref dv, .ref tp, .int 0]))] s.heap := hP
  have hl := lv_entry ([.ref h0, .int d, .int n]) (n := 4) (Nat.le_of_ble_eq_true rfl)
  rw [lg_entry_eq]
  generalize (lg_sl ([.ref h0, .int d, .int n]) ++ List.replicate (4 - (lg_sl ([.ref h0, .int d, .int n])).length) Slot.unset).toArray = ls at hl ⊢
  have hl : lv_has ls 4 [(0, .ref h0), (1, .int d), (2, .int n)] := hl
  refine lv_aload_n hx hb dX11_discover_0 rfl (lv_at hl 0 rfl) ?_
  refine lv_iload_n hx hb dX11_discover_1 rfl (lv_at hl 1 rfl) ?_
  refine kGo_q (wr := []) (kRunV (As := [.int d]) (rest := []) ⟨hx, hb, hml, hown, hts⟩ (c_deviceAt_no l D ca _ h0 dv tp d hd) (cwV 1 hts g_c_discover_no_c_deviceAt_no_22 rfl rfl rfl (by decide +kernel) ⟨Nat.le_of_ble_eq_true rfl, Nat.le_of_ble_eq_true rfl⟩) hK hN hP hD [0] rfl rfl rfl rfl rfl rfl hl.1 rfl (Nat.le_of_ble_eq_true rfl) dX11_discover_2 ⟨Nat.le_of_ble_eq_true rfl, Nat.le_of_ble_eq_true rfl⟩) hP hD hS hA [0] [] rfl rfl rfl (by decide) (fun r_1 uu_ tt H locs hr_1 hB hj hS => ?_)
  have hWd := hB
  obtain ⟨hP, hD⟩ := hj _ hWd
  have hP : va_P D vwCl [(h0, .inr (11, [.ref dv, .ref tp, .int 0]))] H := hP
  have hD : va_D A [(h0, .inr (11, [.ref dv, .ref tp, .int 0]))] := hD
  subst hr_1
  refine W.eq (g2 := F0 m 5 ls [.null]) rfl ?_
  refine lv_astore_nN (lv' := [(3, .null), (0, .ref h0), (1, .int d), (2, .int n)]) hx hb dX11_discover_5 rfl hl (by decide) rfl (fun ls hl => ?_)
  refine lv_aload_nN hx hb dX11_discover_6 rfl (lv_at hl 0 rfl) ?_
  refine lv_ifnonnullN hx hb dX11_discover_7 ?_
  refine lv_iconst (v := (-1)) hx hb dX11_discover_10 (by decide) ?_
  exact W.iret (v := (-1)) hx hb hr (fun tt ht hW => ⟨⟨(-1), (), rfl, rfl, ⟨by rw [ht]; exact hP.sub [] rfl, hD.sub [] rfl rfl⟩⟩, hS.F ht⟩) hS.2.2 dX11_discover_11
def w_c_discover_yes : List Cond := .code yX11_discover cX11_discover 4 (some .int) :: (([.code yX11_deviceAt cX11_deviceAt 2 (some (.object "BeamHouse$Device")), .fieldLink RX11 11 "BeamHouse" "devices" "[LBeamHouse$Device;", .methodLink RX11 22 yX11_deviceAt, .instanceMethod yX11_deviceAt, .selects RX11 yX11_deviceAt yX11_deviceAt, .initialized RX11, .fieldLink RX11 26 "BeamHouse$Device" "state" "I", .code yX11_mayBeSlots cX11_mayBeSlots 1 (some .boolean), .methodLink RX11 70 yX11_mayBeSlots, .static yX11_mayBeSlots, .fieldLink RX11 74 "BeamHouse$Device" "search" "LBeamHouse$Search;", .code yX7_begins cX7_begins 2 none, .fieldLink RX7 15 "BeamHouse$Search" "found" "I", .fieldLink RX7 19 "BeamHouse$Search" "slots" "I", .fieldLink RX7 22 "BeamHouse$Search" "nextSlot" "I", .methodLink RX11 78 yX7_begins, .instanceMethod yX7_begins, .selects RX7 yX7_begins yX7_begins, .initialized RX7] : List Cond) ++ wsX110 ++ wsX10 ++ wsX70)
theorem g_c_discover_yes_c_deviceAt_yes_22 : GoodIn w_c_discover_yes (wsV RX11 22 RX11 yX11_deviceAt w_c_deviceAt_yes) := (goodIn_app (goodIn_r _ [3, 4, 5, 6] rfl rfl) (goodIn_ca (goodIn_r _ [1, 2] rfl rfl) (goodIn_sub (fun _ h => List.mem_cons_of_mem _ (List.mem_append_left _ (List.mem_append_left _ (List.mem_append_right _ h)))) gw_X11)))
theorem g_c_discover_yes_c_mayBeSlots_70 : GoodIn w_c_discover_yes (va_wsS RX11 70 yX11_mayBeSlots w_c_mayBeSlots) := (goodIn_app (goodIn_r _ [9, 10, 6] rfl rfl) (goodIn_r _ [8] rfl rfl))
theorem g_c_discover_yes_c_Search_begins_78 : GoodIn w_c_discover_yes (wsV RX11 78 RX7 yX7_begins w_c_Search_begins) := (goodIn_app (goodIn_r _ [16, 17, 18, 19] rfl rfl) (goodIn_ca (goodIn_r _ [12, 13, 14, 15] rfl rfl) (goodIn_sub (fun _ h => List.mem_cons_of_mem _ (List.mem_append_right _ h)) gw_X7)))
set_option maxHeartbeats 4000000 in
set_option maxRecDepth 100000 in
theorem c_discover_yes (l : Launch) (D : va_G) (ca : Nat → ClassId) (sz : Nat) (h0 : Nat) (dv : Nat) (tp : Nat) (fd : Nat → Option Nat) (a : Nat → Nat) (k : Nat) (n : Int32) (hk : k < 4) (hfd : fd k = some (a 0)) : Met l yX11_discover w_c_discover_yes ({ frames := 1, cells := 0, slots := 0, locals := 21 }) (Pre D ca [.ref h0, .int (nI k), .int n] [(h0, .inr (11, [.ref dv, .ref tp, .int 0])), (dv, .inl (ca 2, 4, .inr (.inr (.inr (.inr fd))))), ((a 0), .inr (1, [.ref (a 1), .ref (a 4), .ref (a 5), .ref (a 6), .ref (a 8), .ref (a 10), .int 0, .int (nI (k + 1)), .int (nI k)])), ((a 5), .inr (7, [.ref (a 16), .int 0, .int 0, .int 0, .int 0, .int 0, .int 0]))] sz) (va_Qi (fun (r : Int32) (_ : Unit) => r = if n = 1 ∨ n = 6 ∨ n = 8 ∨ n = 16 then 1 else -3) (fun (_ : Unit) (tt : State) => Wd D (va_A [(h0, .inr (11, [.ref dv, .ref tp, .int 0])), (dv, .inl (ca 2, 4, .inr (.inr (.inr (.inr fd))))), ((a 0), .inr (1, [.ref (a 1), .ref (a 4), .ref (a 5), .ref (a 6), .ref (a 8), .ref (a 10), .int 0, .int (nI (k + 1)), .int (nI k)])), ((a 5), .inr (7, [.ref (a 16), .int 0, .int 0, .int 0, .int 0, .int 0, .int 0]))] sz) [] tt) (va_A [(h0, .inr (11, [.ref dv, .ref tp, .int 0])), (dv, .inl (ca 2, 4, .inr (.inr (.inr (.inr fd))))), ((a 0), .inr (1, [.ref (a 1), .ref (a 4), .ref (a 5), .ref (a 6), .ref (a 8), .ref (a 10), .int 0, .int (nI (k + 1)), .int (nI k)])), ((a 5), .inr (7, [.ref (a 16), .int 0, .int 0, .int 0, .int 0, .int 0, .int 0]))] sz)) 0 0 (va_A [(h0, .inr (11, [.ref dv, .ref tp, .int 0])), (dv, .inl (ca 2, 4, .inr (.inr (.inr (.inr fd))))), ((a 0), .inr (1, [.ref (a 1), .ref (a 4), .ref (a 5), .ref (a 6), .ref (a 8), .ref (a 10), .int 0, .int (nI (k + 1)), .int (nI k)])), ((a 5), .inr (7, [.ref (a 16), .int 0, .int 0, .int 0, .int 0, .int 0, .int 0]))] sz) := by
  refine Met.ofW (cc := cX11_discover) (maxL := 4) (ret := (some .int)) (by decide) rfl ?_
  intro p e s m args below meth c s₁ B hml hv
  obtain ⟨rfl, hsz, hP, hK, hD0, hN⟩ := hv
  have hx := B.exec
  have hb := B.bytes
  have hr := B.returns
  have hts := atoms_spec (ws := w_c_discover_yes) B.pre
  have hown : s.vm.findClass RX11 = some m.cls := findClass_of_methodNamed B.named
  have hlocks := B.notSynchronized
  have hi_X11 : ∀ w ∈ wsX110, w ∈ w_c_discover_yes := fun _ h => List.mem_cons_of_mem _ (List.mem_append_left _ (List.mem_append_left _ (List.mem_append_right _ h)))
  have hi_X1 : ∀ w ∈ wsX10, w ∈ w_c_discover_yes := fun _ h => List.mem_cons_of_mem _ (List.mem_append_left _ (List.mem_append_right _ h))
  have hi_X7 : ∀ w ∈ wsX70, w ∈ w_c_discover_yes := fun _ h => List.mem_cons_of_mem _ (List.mem_append_right _ h)
  subst hsz
  have hD := hD0.self (sz := s.heap.size)
  generalize hAe : va_A [(h0, .inr (11, [.ref dv, .ref tp, .int 0])), (dv, .inl (ca 2, 4, .inr (.inr (.inr (.inr fd))))), ((a 0), .inr (1, [.ref (a 1), .ref (a 4), .ref (a 5), .ref (a 6), .ref (a 8), .ref (a 10), .int 0, .int (nI (k + 1)), .int (nI k)])), ((a 5), .inr (7, [.ref (a 16), .int 0, .int 0, .int 0, .int 0, .int 0, .int 0]))] s.heap.size = A at hD ⊢
  have hA : ∀ q : Nat, s.heap.size ≤ q → A q := fun q h => by rw [← hAe]; exact Or.inr h
  have hS : va_S A s.heap s.heap [] := va_S.rf
  have hP : va_P D vwCl [(h0, .inr (11, [.ref dv, .ref tp, .int 0])), (dv, .inl (ca 2, 4, .inr (.inr (.inr (.inr fd))))), ((a 0), .inr (1, [.ref (a 1), .ref (a 4), .ref (a 5), .ref (a 6), .ref (a 8), .ref (a 10), .int 0, .int (nI (k + 1)), .int (nI k)])), ((a 5), .inr (7, [.ref (a 16), .int 0, .int 0, .int 0, .int 0, .int 0, .int 0]))] s.heap := hP
  have hl := lv_entry ([.ref h0, .int (nI k), .int n]) (n := 4) (Nat.le_of_ble_eq_true rfl)
  rw [lg_entry_eq]
  generalize (lg_sl ([.ref h0, .int (nI k), .int n]) ++ List.replicate (4 - (lg_sl ([.ref h0, .int (nI k), .int n])).length) Slot.unset).toArray = ls at hl ⊢
  have hl : lv_has ls 4 [(0, .ref h0), (1, .int (nI k)), (2, .int n)] := hl
  refine lv_aload_n hx hb dX11_discover_0 rfl (lv_at hl 0 rfl) ?_
  refine lv_iload_n hx hb dX11_discover_1 rfl (lv_at hl 1 rfl) ?_
  refine kGo_q (wr := [((a 0), .inr (1, [.ref (a 1), .ref (a 4), .ref (a 5), .ref (a 6), .ref (a 8), .ref (a 10), .int 0, .int (nI (k + 1)), .int (nI k)])), ((a 5), .inr (7, [.ref (a 16), .int 0, .int 0, .int 0, .int 0, .int 0, .int 0]))]) (kRunV (As := [.int (nI k)]) (rest := []) ⟨hx, hb, hml, hown, hts⟩ (c_deviceAt_yes l D ca _ h0 dv tp fd a k hk hfd) (cwV 1 hts g_c_discover_yes_c_deviceAt_yes_22 rfl rfl rfl (by decide +kernel) ⟨Nat.le_of_ble_eq_true rfl, Nat.le_of_ble_eq_true rfl⟩) hK hN hP hD [0, 1] rfl rfl rfl rfl rfl rfl hl.1 rfl (Nat.le_of_ble_eq_true rfl) dX11_discover_2 ⟨Nat.le_of_ble_eq_true rfl, Nat.le_of_ble_eq_true rfl⟩) hP hD hS hA [0, 1] [2, 3] rfl rfl rfl (by decide) (fun r_1 uu_ tt H locs hr_1 hB hj hS => ?_)
  have hWd := hB
  obtain ⟨hP, hD⟩ := hj _ hWd
  have hP : va_P D vwCl [((a 0), .inr (1, [.ref (a 1), .ref (a 4), .ref (a 5), .ref (a 6), .ref (a 8), .ref (a 10), .int 0, .int (nI (k + 1)), .int (nI k)])), ((a 5), .inr (7, [.ref (a 16), .int 0, .int 0, .int 0, .int 0, .int 0, .int 0])), (h0, .inr (11, [.ref dv, .ref tp, .int 0])), (dv, .inl (ca 2, 4, .inr (.inr (.inr (.inr fd)))))] H := hP
  have hD : va_D A [((a 0), .inr (1, [.ref (a 1), .ref (a 4), .ref (a 5), .ref (a 6), .ref (a 8), .ref (a 10), .int 0, .int (nI (k + 1)), .int (nI k)])), ((a 5), .inr (7, [.ref (a 16), .int 0, .int 0, .int 0, .int 0, .int 0, .int 0])), (h0, .inr (11, [.ref dv, .ref tp, .int 0])), (dv, .inl (ca 2, 4, .inr (.inr (.inr (.inr fd)))))] := hD
  subst hr_1
  refine W.eq (g2 := F0 m 5 ls [.ref (a 0)]) rfl ?_
  refine lv_astore_n (lv' := [(3, .ref (a 0)), (0, .ref h0), (1, .int (nI k)), (2, .int n)]) hx hb dX11_discover_5 rfl hl (by decide) rfl (fun ls hl => ?_)
  refine lv_aload_n hx hb dX11_discover_6 rfl (lv_at hl 0 rfl) ?_
  refine lv_ifnonnull (tgt := 12) hx hb dX11_discover_7 (by decide) ?_
  refine lv_aload_n hx hb dX11_discover_12 rfl (lv_at hl 0 rfl) ?_
  refine va_get (D := D) (ci := 1) (v := .int 0) (C := RX1) (T := TX1) (N := 9) hx hb hts hi_X1 hown hK hP 0 rfl rfl 6 (by decide) (hts (.fieldLink RX11 26 "BeamHouse$Device" "state" "I") (List.mem_of_getElem? (i := 7) rfl)) (fun _ h9 => h9) rfl dX11_discover_13 ?_
  refine lv_if_eq (tgt := 22) hx hb dX11_discover_16 (by decide) (fun _ => ?_) (fun h => absurd (by decide) h)
  refine lv_iload_n hx hb dX11_discover_22 rfl (lv_at hl 3 rfl) ?_
  refine kGo_i (wr := [((a 0), .inr (1, [.ref (a 1), .ref (a 4), .ref (a 5), .ref (a 6), .ref (a 8), .ref (a 10), .int 0, .int (nI (k + 1)), .int (nI k)])), ((a 5), .inr (7, [.ref (a 16), .int 0, .int 0, .int 0, .int 0, .int 0, .int 0])), (h0, .inr (11, [.ref dv, .ref tp, .int 0])), (dv, .inl (ca 2, 4, .inr (.inr (.inr (.inr fd)))))]) (kRunS (As := [.int n]) (rest := []) ⟨hx, hb, hml, hown, hts⟩ (c_mayBeSlots l D ca _ n) (va_cwS 1 hts g_c_discover_yes_c_mayBeSlots_70 rfl rfl rfl (by decide +kernel) ⟨Nat.le_of_ble_eq_true rfl, Nat.le_of_ble_eq_true rfl⟩) hK hN hP hD [] rfl rfl rfl hl.1 rfl (Nat.le_of_ble_eq_true rfl) dX11_discover_23 ⟨Nat.le_of_ble_eq_true rfl, Nat.le_of_ble_eq_true rfl⟩) hP hD hS hA [] [0, 1, 2, 3] rfl rfl rfl (by decide) (fun r_2 uu_ tt H locs hr_2 hB hj hS => ?_)
  have hWd := hB
  obtain ⟨hP, hD⟩ := hj _ hWd
  have hP : va_P D vwCl [((a 0), .inr (1, [.ref (a 1), .ref (a 4), .ref (a 5), .ref (a 6), .ref (a 8), .ref (a 10), .int 0, .int (nI (k + 1)), .int (nI k)])), ((a 5), .inr (7, [.ref (a 16), .int 0, .int 0, .int 0, .int 0, .int 0, .int 0])), (h0, .inr (11, [.ref dv, .ref tp, .int 0])), (dv, .inl (ca 2, 4, .inr (.inr (.inr (.inr fd)))))] H := hP
  have hD : va_D A [((a 0), .inr (1, [.ref (a 1), .ref (a 4), .ref (a 5), .ref (a 6), .ref (a 8), .ref (a 10), .int 0, .int (nI (k + 1)), .int (nI k)])), ((a 5), .inr (7, [.ref (a 16), .int 0, .int 0, .int 0, .int 0, .int 0, .int 0])), (h0, .inr (11, [.ref dv, .ref tp, .int 0])), (dv, .inl (ca 2, 4, .inr (.inr (.inr (.inr fd)))))] := hD
  have hr_s := hr_2
  refine lv_if_ne (tgt := 32) hx hb dX11_discover_26 (by decide) (fun c_26 => ?_) (fun c_26 => ?_)
  · refine lv_aload_n hx hb dX11_discover_32 rfl (lv_at hl 0 rfl) ?_
    refine lv_iconst (v := 1) hx hb dX11_discover_33 (by decide) ?_
    refine va_put (D := D) (ci := 1) (v := .int 1) (ty := .int) (C := RX1) (T := TX1) (N := 9) hx hb hts hi_X1 tyX1 tyX1_ok nmX1 hown hK hP hD hS 0 rfl rfl 6 (by decide) (hts (.fieldLink RX11 26 "BeamHouse$Device" "state" "I") (List.mem_of_getElem? (i := 7) rfl)) (fun _ h9 => h9) rfl (by decide +kernel) rfl rfl (Nat.le_of_ble_eq_true rfl) dX11_discover_34 (fun H locs hP hD hS => ?_)
    have hP : va_P D vwCl [((a 0), .inr (1, [.ref (a 1), .ref (a 4), .ref (a 5), .ref (a 6), .ref (a 8), .ref (a 10), .int 1, .int (nI (k + 1)), .int (nI k)])), ((a 5), .inr (7, [.ref (a 16), .int 0, .int 0, .int 0, .int 0, .int 0, .int 0])), (h0, .inr (11, [.ref dv, .ref tp, .int 0])), (dv, .inl (ca 2, 4, .inr (.inr (.inr (.inr fd)))))] H := hP
    have hD : va_D A [((a 0), .inr (1, [.ref (a 1), .ref (a 4), .ref (a 5), .ref (a 6), .ref (a 8), .ref (a 10), .int 1, .int (nI (k + 1)), .int (nI k)])), ((a 5), .inr (7, [.ref (a 16), .int 0, .int 0, .int 0, .int 0, .int 0, .int 0])), (h0, .inr (11, [.ref dv, .ref tp, .int 0])), (dv, .inl (ca 2, 4, .inr (.inr (.inr (.inr fd)))))] := hD
    refine lv_aload_n hx hb dX11_discover_37 rfl (lv_at hl 0 rfl) ?_
    refine va_get (D := D) (ci := 1) (v := .ref (a 5)) (C := RX1) (T := TX1) (N := 9) hx hb hts hi_X1 hown hK hP 0 rfl rfl 2 (by decide) (hts (.fieldLink RX11 74 "BeamHouse$Device" "search" "LBeamHouse$Search;") (List.mem_of_getElem? (i := 11) rfl)) (fun _ h9 => h9) rfl dX11_discover_38 ?_
    refine lv_iload_n hx hb dX11_discover_41 rfl (lv_at hl 3 rfl) ?_
    refine kGo_v (wr := [((a 0), .inr (1, [.ref (a 1), .ref (a 4), .ref (a 5), .ref (a 6), .ref (a 8), .ref (a 10), .int 1, .int (nI (k + 1)), .int (nI k)])), (h0, .inr (11, [.ref dv, .ref tp, .int 0])), (dv, .inl (ca 2, 4, .inr (.inr (.inr (.inr fd)))))]) (kRunV (As := [.int n]) (rest := []) ⟨hx, hb, hml, hown, hts⟩ (c_Search_begins l D ca _ (a 5) (a 16) n) (cwV 1 hts g_c_discover_yes_c_Search_begins_78 rfl rfl rfl (by decide +kernel) ⟨Nat.le_of_ble_eq_true rfl, Nat.le_of_ble_eq_true rfl⟩) hK hN hP hD [1] rfl rfl rfl rfl rfl rfl hl.1 rfl (Nat.le_of_ble_eq_true rfl) dX11_discover_42 ⟨Nat.le_of_ble_eq_true rfl, Nat.le_of_ble_eq_true rfl⟩) hP hD hS hA [1] [0, 2, 3] rfl rfl rfl (by decide) (fun uu_ tt H locs hr_3 hB hj hS => ?_)
    have hWd := hB
    obtain ⟨hP, hD⟩ := hj _ hWd
    have hP : va_P D vwCl [((a 0), .inr (1, [.ref (a 1), .ref (a 4), .ref (a 5), .ref (a 6), .ref (a 8), .ref (a 10), .int 1, .int (nI (k + 1)), .int (nI k)])), (h0, .inr (11, [.ref dv, .ref tp, .int 0])), (dv, .inl (ca 2, 4, .inr (.inr (.inr (.inr fd)))))] H := hP
    have hD : va_D A [((a 0), .inr (1, [.ref (a 1), .ref (a 4), .ref (a 5), .ref (a 6), .ref (a 8), .ref (a 10), .int 1, .int (nI (k + 1)), .int (nI k)])), (h0, .inr (11, [.ref dv, .ref tp, .int 0])), (dv, .inl (ca 2, 4, .inr (.inr (.inr (.inr fd)))))] := hD
    refine lv_iconst (v := 1) hx hb dX11_discover_45 (by decide) ?_
    exact W.iret (v := 1) hx hb hr (fun tt ht hW => ⟨⟨1, (), rfl, (by by_cases hq : n = 1 ∨ n = 6 ∨ n = 8 ∨ n = 16; exact (if_pos hq).symm; exact absurd (hr_s.trans (if_neg hq)) c_26), ⟨by rw [ht]; exact hP.sub [] rfl, hD.sub [] rfl rfl⟩⟩, hS.F ht⟩) hS.2.2 dX11_discover_46
  · refine lv_bipush (v := (-3)) hx hb dX11_discover_29 (by decide) ?_
    exact W.iret (v := (-3)) hx hb hr (fun tt ht hW => ⟨⟨(-3), (), rfl, (by by_cases hq : n = 1 ∨ n = 6 ∨ n = 8 ∨ n = 16; exact absurd (hr_s.symm.trans c_26) (by rw [if_pos hq]; decide); exact (if_neg hq).symm), ⟨by rw [ht]; exact hP.sub [] rfl, hD.sub [] rfl rfl⟩⟩, hS.F ht⟩) hS.2.2 dX11_discover_31
def w_c_talk_ok : List Cond := .code yX11_talk cX11_talk 8 (some .int) :: (([.code yX11_deviceAt cX11_deviceAt 2 (some (.object "BeamHouse$Device")), .fieldLink RX11 11 "BeamHouse" "devices" "[LBeamHouse$Device;", .methodLink RX11 22 yX11_deviceAt, .instanceMethod yX11_deviceAt, .selects RX11 yX11_deviceAt yX11_deviceAt, .initialized RX11, .fieldLink RX11 43 "BeamHouse$Device" "air" "LBeamHouse$Air;", .fieldLink RX11 57 "BeamHouse$Air" "length" "I"] : List Cond) ++ wsX110 ++ wsX10 ++ wsX00)
theorem g_c_talk_ok_c_deviceAt_yes_22 : GoodIn w_c_talk_ok (wsV RX11 22 RX11 yX11_deviceAt w_c_deviceAt_yes) := (goodIn_app (goodIn_r _ [3, 4, 5, 6] rfl rfl) (goodIn_ca (goodIn_r _ [1, 2] rfl rfl) (goodIn_sub (fun _ h => List.mem_cons_of_mem _ (List.mem_append_left _ (List.mem_append_left _ (List.mem_append_right _ h)))) gw_X11)))
set_option maxHeartbeats 4000000 in
set_option maxRecDepth 100000 in
theorem c_talk_ok (l : Launch) (D : va_G) (ca : Nat → ClassId) (sz : Nat) (h0 : Nat) (dv : Nat) (tp : Nat) (fd : Nat → Option Nat) (a : Nat → Nat) (k : Nat) (b : Nat → Nat) (k2 : Nat) (n : Int32) (hk : k < 4) (hk2 : k2 < 4) (hne : k ≠ k2) (hfd : fd k = some (a 0)) (hfd2 : fd k2 = some (b 0)) : Met l yX11_talk w_c_talk_ok ({ frames := 1, cells := 0, slots := 0, locals := 21 }) (Pre D ca [.ref h0, .int (nI k), .int (nI k2), .int n] [(h0, .inr (11, [.ref dv, .ref tp, .int 0])), (dv, .inl (ca 2, 4, .inr (.inr (.inr (.inr fd))))), ((a 0), .inr (1, [.ref (a 1), .ref (a 4), .ref (a 5), .ref (a 6), .ref (a 8), .ref (a 10), .int 0, .int (nI (k + 1)), .int (nI k)])), ((a 1), .inr (0, [.ref (a 2), .int 0, .ref (a 3), .int 0])), ((b 0), .inr (1, [.ref (b 1), .ref (b 4), .ref (b 5), .ref (b 6), .ref (b 8), .ref (b 10), .int 0, .int (nI (k2 + 1)), .int (nI k2)])), ((b 1), .inr (0, [.ref (b 2), .int 0, .ref (b 3), .int 0]))] sz) (va_Qi (fun (r : Int32) (_ : Unit) => r = if 1 ≤ n ∧ n ≤ 20 then 0 else -2) (fun (_ : Unit) (tt : State) => Wd D (va_A [(h0, .inr (11, [.ref dv, .ref tp, .int 0])), (dv, .inl (ca 2, 4, .inr (.inr (.inr (.inr fd))))), ((a 0), .inr (1, [.ref (a 1), .ref (a 4), .ref (a 5), .ref (a 6), .ref (a 8), .ref (a 10), .int 0, .int (nI (k + 1)), .int (nI k)])), ((a 1), .inr (0, [.ref (a 2), .int 0, .ref (a 3), .int 0])), ((b 0), .inr (1, [.ref (b 1), .ref (b 4), .ref (b 5), .ref (b 6), .ref (b 8), .ref (b 10), .int 0, .int (nI (k2 + 1)), .int (nI k2)])), ((b 1), .inr (0, [.ref (b 2), .int 0, .ref (b 3), .int 0]))] sz) [] tt) (va_A [(h0, .inr (11, [.ref dv, .ref tp, .int 0])), (dv, .inl (ca 2, 4, .inr (.inr (.inr (.inr fd))))), ((a 0), .inr (1, [.ref (a 1), .ref (a 4), .ref (a 5), .ref (a 6), .ref (a 8), .ref (a 10), .int 0, .int (nI (k + 1)), .int (nI k)])), ((a 1), .inr (0, [.ref (a 2), .int 0, .ref (a 3), .int 0])), ((b 0), .inr (1, [.ref (b 1), .ref (b 4), .ref (b 5), .ref (b 6), .ref (b 8), .ref (b 10), .int 0, .int (nI (k2 + 1)), .int (nI k2)])), ((b 1), .inr (0, [.ref (b 2), .int 0, .ref (b 3), .int 0]))] sz)) 0 0 (va_A [(h0, .inr (11, [.ref dv, .ref tp, .int 0])), (dv, .inl (ca 2, 4, .inr (.inr (.inr (.inr fd))))), ((a 0), .inr (1, [.ref (a 1), .ref (a 4), .ref (a 5), .ref (a 6), .ref (a 8), .ref (a 10), .int 0, .int (nI (k + 1)), .int (nI k)])), ((a 1), .inr (0, [.ref (a 2), .int 0, .ref (a 3), .int 0])), ((b 0), .inr (1, [.ref (b 1), .ref (b 4), .ref (b 5), .ref (b 6), .ref (b 8), .ref (b 10), .int 0, .int (nI (k2 + 1)), .int (nI k2)])), ((b 1), .inr (0, [.ref (b 2), .int 0, .ref (b 3), .int 0]))] sz) := by
  refine Met.ofW (cc := cX11_talk) (maxL := 8) (ret := (some .int)) (by decide) rfl ?_
  intro p e s m args below meth c s₁ B hml hv
  obtain ⟨rfl, hsz, hP, hK, hD0, hN⟩ := hv
  have hx := B.exec
  have hb := B.bytes
  have hr := B.returns
  have hts := atoms_spec (ws := w_c_talk_ok) B.pre
  have hown : s.vm.findClass RX11 = some m.cls := findClass_of_methodNamed B.named
  have hlocks := B.notSynchronized
  have hi_X11 : ∀ w ∈ wsX110, w ∈ w_c_talk_ok := fun _ h => List.mem_cons_of_mem _ (List.mem_append_left _ (List.mem_append_left _ (List.mem_append_right _ h)))
  have hi_X1 : ∀ w ∈ wsX10, w ∈ w_c_talk_ok := fun _ h => List.mem_cons_of_mem _ (List.mem_append_left _ (List.mem_append_right _ h))
  have hi_X0 : ∀ w ∈ wsX00, w ∈ w_c_talk_ok := fun _ h => List.mem_cons_of_mem _ (List.mem_append_right _ h)
  subst hsz
  have hD := hD0.self (sz := s.heap.size)
  generalize hAe : va_A [(h0, .inr (11, [.ref dv, .ref tp, .int 0])), (dv, .inl (ca 2, 4, .inr (.inr (.inr (.inr fd))))), ((a 0), .inr (1, [.ref (a 1), .ref (a 4), .ref (a 5), .ref (a 6), .ref (a 8), .ref (a 10), .int 0, .int (nI (k + 1)), .int (nI k)])), ((a 1), .inr (0, [.ref (a 2), .int 0, .ref (a 3), .int 0])), ((b 0), .inr (1, [.ref (b 1), .ref (b 4), .ref (b 5), .ref (b 6), .ref (b 8), .ref (b 10), .int 0, .int (nI (k2 + 1)), .int (nI k2)])), ((b 1), .inr (0, [.ref (b 2), .int 0, .ref (b 3), .int 0]))] s.heap.size = A at hD ⊢
  have hA : ∀ q : Nat, s.heap.size ≤ q → A q := fun q h => by rw [← hAe]; exact Or.inr h
  have hS : va_S A s.heap s.heap [] := va_S.rf
  have hP : va_P D vwCl [(h0, .inr (11, [.ref dv, .ref tp, .int 0])), (dv, .inl (ca 2, 4, .inr (.inr (.inr (.inr fd))))), ((a 0), .inr (1, [.ref (a 1), .ref (a 4), .ref (a 5), .ref (a 6), .ref (a 8), .ref (a 10), .int 0, .int (nI (k + 1)), .int (nI k)])), ((a 1), .inr (0, [.ref (a 2), .int 0, .ref (a 3), .int 0])), ((b 0), .inr (1, [.ref (b 1), .ref (b 4), .ref (b 5), .ref (b 6), .ref (b 8), .ref (b 10), .int 0, .int (nI (k2 + 1)), .int (nI k2)])), ((b 1), .inr (0, [.ref (b 2), .int 0, .ref (b 3), .int 0]))] s.heap := hP
  have hl := lv_entry ([.ref h0, .int (nI k), .int (nI k2), .int n]) (n := 8) (Nat.le_of_ble_eq_true rfl)
  rw [lg_entry_eq]
  generalize (lg_sl ([.ref h0, .int (nI k), .int (nI k2), .int n]) ++ List.replicate (8 - (lg_sl ([.ref h0, .int (nI k), .int (nI k2), .int n])).length) Slot.unset).toArray = ls at hl ⊢
  have hl : lv_has ls 8 [(0, .ref h0), (1, .int (nI k)), (2, .int (nI k2)), (3, .int n)] := hl
  refine lv_aload_n hx hb dX11_talk_0 rfl (lv_at hl 0 rfl) ?_
  refine lv_iload_n hx hb dX11_talk_1 rfl (lv_at hl 1 rfl) ?_
  refine kGo_q (wr := [((a 0), .inr (1, [.ref (a 1), .ref (a 4), .ref (a 5), .ref (a 6), .ref (a 8), .ref (a 10), .int 0, .int (nI (k + 1)), .int (nI k)])), ((a 1), .inr (0, [.ref (a 2), .int 0, .ref (a 3), .int 0])), ((b 0), .inr (1, [.ref (b 1), .ref (b 4), .ref (b 5), .ref (b 6), .ref (b 8), .ref (b 10), .int 0, .int (nI (k2 + 1)), .int (nI k2)])), ((b 1), .inr (0, [.ref (b 2), .int 0, .ref (b 3), .int 0]))]) (kRunV (As := [.int (nI k)]) (rest := []) ⟨hx, hb, hml, hown, hts⟩ (c_deviceAt_yes l D ca _ h0 dv tp fd a k hk hfd) (cwV 1 hts g_c_talk_ok_c_deviceAt_yes_22 rfl rfl rfl (by decide +kernel) ⟨Nat.le_of_ble_eq_true rfl, Nat.le_of_ble_eq_true rfl⟩) hK hN hP hD [0, 1] rfl rfl rfl rfl rfl rfl hl.1 rfl (Nat.le_of_ble_eq_true rfl) dX11_talk_2 ⟨Nat.le_of_ble_eq_true rfl, Nat.le_of_ble_eq_true rfl⟩) hP hD hS hA [0, 1] [2, 3, 4, 5] rfl rfl rfl (by decide) (fun r_1 uu_ tt H locs hr_1 hB hj hS => ?_)
  have hWd := hB
  obtain ⟨hP, hD⟩ := hj _ hWd
  have hP : va_P D vwCl [((a 0), .inr (1, [.ref (a 1), .ref (a 4), .ref (a 5), .ref (a 6), .ref (a 8), .ref (a 10), .int 0, .int (nI (k + 1)), .int (nI k)])), ((a 1), .inr (0, [.ref (a 2), .int 0, .ref (a 3), .int 0])), ((b 0), .inr (1, [.ref (b 1), .ref (b 4), .ref (b 5), .ref (b 6), .ref (b 8), .ref (b 10), .int 0, .int (nI (k2 + 1)), .int (nI k2)])), ((b 1), .inr (0, [.ref (b 2), .int 0, .ref (b 3), .int 0])), (h0, .inr (11, [.ref dv, .ref tp, .int 0])), (dv, .inl (ca 2, 4, .inr (.inr (.inr (.inr fd)))))] H := hP
  have hD : va_D A [((a 0), .inr (1, [.ref (a 1), .ref (a 4), .ref (a 5), .ref (a 6), .ref (a 8), .ref (a 10), .int 0, .int (nI (k + 1)), .int (nI k)])), ((a 1), .inr (0, [.ref (a 2), .int 0, .ref (a 3), .int 0])), ((b 0), .inr (1, [.ref (b 1), .ref (b 4), .ref (b 5), .ref (b 6), .ref (b 8), .ref (b 10), .int 0, .int (nI (k2 + 1)), .int (nI k2)])), ((b 1), .inr (0, [.ref (b 2), .int 0, .ref (b 3), .int 0])), (h0, .inr (11, [.ref dv, .ref tp, .int 0])), (dv, .inl (ca 2, 4, .inr (.inr (.inr (.inr fd)))))] := hD
  subst hr_1
  refine W.eq (g2 := F0 m 5 ls [.ref (a 0)]) rfl ?_
  refine lv_astore (lv' := [(4, .ref (a 0)), (0, .ref h0), (1, .int (nI k)), (2, .int (nI k2)), (3, .int n)]) hx hb dX11_talk_5 hl (by decide) rfl (fun ls hl => ?_)
  refine lv_aload_n hx hb dX11_talk_7 rfl (lv_at hl 1 rfl) ?_
  refine lv_iload_n hx hb dX11_talk_8 rfl (lv_at hl 3 rfl) ?_
  refine kGo_q (wr := [((a 0), .inr (1, [.ref (a 1), .ref (a 4), .ref (a 5), .ref (a 6), .ref (a 8), .ref (a 10), .int 0, .int (nI (k + 1)), .int (nI k)])), ((a 1), .inr (0, [.ref (a 2), .int 0, .ref (a 3), .int 0])), ((b 0), .inr (1, [.ref (b 1), .ref (b 4), .ref (b 5), .ref (b 6), .ref (b 8), .ref (b 10), .int 0, .int (nI (k2 + 1)), .int (nI k2)])), ((b 1), .inr (0, [.ref (b 2), .int 0, .ref (b 3), .int 0]))]) (kRunV (As := [.int (nI k2)]) (rest := []) ⟨hx, hb, hml, hown, hts⟩ (c_deviceAt_yes l D ca _ h0 dv tp fd b k2 hk2 hfd2) (cwV 1 hts g_c_talk_ok_c_deviceAt_yes_22 rfl rfl rfl (by decide +kernel) ⟨Nat.le_of_ble_eq_true rfl, Nat.le_of_ble_eq_true rfl⟩) hK hN hP hD [4, 5] rfl rfl rfl rfl rfl rfl hl.1 rfl (Nat.le_of_ble_eq_true rfl) dX11_talk_9 ⟨Nat.le_of_ble_eq_true rfl, Nat.le_of_ble_eq_true rfl⟩) hP hD hS hA [4, 5] [0, 1, 2, 3] rfl rfl rfl (by decide) (fun r_2 uu_ tt H locs hr_2 hB hj hS => ?_)
  have hWd := hB
  obtain ⟨hP, hD⟩ := hj _ hWd
  have hP : va_P D vwCl [((a 0), .inr (1, [.ref (a 1), .ref (a 4), .ref (a 5), .ref (a 6), .ref (a 8), .ref (a 10), .int 0, .int (nI (k + 1)), .int (nI k)])), ((a 1), .inr (0, [.ref (a 2), .int 0, .ref (a 3), .int 0])), ((b 0), .inr (1, [.ref (b 1), .ref (b 4), .ref (b 5), .ref (b 6), .ref (b 8), .ref (b 10), .int 0, .int (nI (k2 + 1)), .int (nI k2)])), ((b 1), .inr (0, [.ref (b 2), .int 0, .ref (b 3), .int 0])), (h0, .inr (11, [.ref dv, .ref tp, .int 0])), (dv, .inl (ca 2, 4, .inr (.inr (.inr (.inr fd)))))] H := hP
  have hD : va_D A [((a 0), .inr (1, [.ref (a 1), .ref (a 4), .ref (a 5), .ref (a 6), .ref (a 8), .ref (a 10), .int 0, .int (nI (k + 1)), .int (nI k)])), ((a 1), .inr (0, [.ref (a 2), .int 0, .ref (a 3), .int 0])), ((b 0), .inr (1, [.ref (b 1), .ref (b 4), .ref (b 5), .ref (b 6), .ref (b 8), .ref (b 10), .int 0, .int (nI (k2 + 1)), .int (nI k2)])), ((b 1), .inr (0, [.ref (b 2), .int 0, .ref (b 3), .int 0])), (h0, .inr (11, [.ref dv, .ref tp, .int 0])), (dv, .inl (ca 2, 4, .inr (.inr (.inr (.inr fd)))))] := hD
  subst hr_2
  refine W.eq (g2 := F0 m 12 ls [.ref (b 0)]) rfl ?_
  refine lv_astore (lv' := [(5, .ref (b 0)), (4, .ref (a 0)), (0, .ref h0), (1, .int (nI k)), (2, .int (nI k2)), (3, .int n)]) hx hb dX11_talk_12 hl (by decide) rfl (fun ls hl => ?_)
  refine lv_aload hx hb dX11_talk_14 (lv_at hl 1 rfl) ?_
  refine lv_ifnull hx hb dX11_talk_16 ?_
  refine lv_aload hx hb dX11_talk_19 (lv_at hl 0 rfl) ?_
  refine lv_ifnull hx hb dX11_talk_21 ?_
  refine lv_iload_n hx hb dX11_talk_24 rfl (lv_at hl 3 rfl) ?_
  refine lv_iload_n hx hb dX11_talk_25 rfl (lv_at hl 4 rfl) ?_
  refine lv_icmp_ne (tgt := 31) hx hb dX11_talk_26 (by decide) (fun _ => ?_) (fun h => absurd h (fun h => hne ((nI_eq (by omega) (by omega)).mp h)))
  refine lv_iload_n hx hb dX11_talk_31 rfl (lv_at hl 5 rfl) ?_
  refine lv_iconst (v := 1) hx hb dX11_talk_32 (by decide) ?_
  refine lv_icmp_lt (tgt := 42) hx hb dX11_talk_33 (by decide) (fun c_33 => ?_) (fun c_33 => ?_)
  · refine lv_bipush (v := (-2)) hx hb dX11_talk_42 (by decide) ?_
    exact W.iret (v := (-2)) hx hb hr (fun tt ht hW => ⟨⟨(-2), (), rfl, (if_neg (fun h => absurd c_33 (Int32.not_lt.mpr h.1))).symm, ⟨by rw [ht]; exact hP.sub [] rfl, hD.sub [] rfl rfl⟩⟩, hS.F ht⟩) hS.2.2 dX11_talk_44
  · refine lv_iload_n hx hb dX11_talk_36 rfl (lv_at hl 5 rfl) ?_
    refine lv_bipush (v := 20) hx hb dX11_talk_37 (by decide) ?_
    refine lv_icmp_le (tgt := 45) hx hb dX11_talk_39 (by decide) (fun c_39 => ?_) (fun c_39 => ?_)
    · refine lv_iconst (v := 0) hx hb dX11_talk_45 (by decide) ?_
      refine lv_istore (lv' := [(6, .int 0), (5, .ref (b 0)), (4, .ref (a 0)), (0, .ref h0), (1, .int (nI k)), (2, .int (nI k2)), (3, .int n)]) hx hb dX11_talk_46 hl (by decide) rfl (fun ls hl => ?_)
      refine lv_iconst (v := 0) hx hb dX11_talk_48 (by decide) ?_
      refine lv_istore (lv' := [(7, .int 0), (6, .int 0), (5, .ref (b 0)), (4, .ref (a 0)), (0, .ref h0), (1, .int (nI k)), (2, .int (nI k2)), (3, .int n)]) hx hb dX11_talk_49 hl (by decide) rfl (fun ls hl => ?_)
      refine lv_iload hx hb dX11_talk_51 (lv_at hl 0 rfl) ?_
      refine lv_iload_n hx hb dX11_talk_53 rfl (lv_at hl 7 rfl) ?_
      refine lv_icmp_ge (tgt := 137) hx hb dX11_talk_54 (by decide) (fun h => absurd h (fun h => absurd (Int32.le_trans (Int32.not_lt.mp c_33) h) (by decide))) (fun _ => ?_)
      refine lv_aload hx hb dX11_talk_57 (lv_at hl 3 rfl) ?_
      refine va_get (D := D) (ci := 1) (v := .ref (a 1)) (C := RX1) (T := TX1) (N := 9) hx hb hts hi_X1 hown hK hP 0 rfl rfl 0 (by decide) (hts (.fieldLink RX11 43 "BeamHouse$Device" "air" "LBeamHouse$Air;") (List.mem_of_getElem? (i := 7) rfl)) (fun _ h9 => h9) rfl dX11_talk_59 ?_
      refine va_get (D := D) (ci := 0) (v := .int 0) (C := RX0) (T := TX0) (N := 4) hx hb hts hi_X0 hown hK hP 1 rfl rfl 1 (by decide) (hts (.fieldLink RX11 57 "BeamHouse$Air" "length" "I") (List.mem_of_getElem? (i := 8) rfl)) (fun _ h9 => h9) rfl dX11_talk_62 ?_
      refine lv_aload hx hb dX11_talk_65 (lv_at hl 2 rfl) ?_
      refine va_get (D := D) (ci := 1) (v := .ref (b 1)) (C := RX1) (T := TX1) (N := 9) hx hb hts hi_X1 hown hK hP 2 rfl rfl 0 (by decide) (hts (.fieldLink RX11 43 "BeamHouse$Device" "air" "LBeamHouse$Air;") (List.mem_of_getElem? (i := 7) rfl)) (fun _ h9 => h9) rfl dX11_talk_67 ?_
      refine va_get (D := D) (ci := 0) (v := .int 0) (C := RX0) (T := TX0) (N := 4) hx hb hts hi_X0 hown hK hP 3 rfl rfl 1 (by decide) (hts (.fieldLink RX11 57 "BeamHouse$Air" "length" "I") (List.mem_of_getElem? (i := 8) rfl)) (fun _ h9 => h9) rfl dX11_talk_70 ?_
      refine lv_iadd hx hb dX11_talk_73 ?_
      refine lv_topn 0 (by decide) ?_
      refine lv_if_le (tgt := 137) hx hb dX11_talk_74 (by decide) (fun _ => ?_) (fun h => absurd (by decide) h)
      refine lv_iload hx hb dX11_talk_137 (lv_at hl 1 rfl) ?_
      exact W.iret (v := 0) hx hb hr (fun tt ht hW => ⟨⟨0, (), rfl, (if_pos ⟨Int32.not_lt.mp c_33, c_39⟩).symm, ⟨by rw [ht]; exact hP.sub [] rfl, hD.sub [] rfl rfl⟩⟩, hS.F ht⟩) hS.2.2 dX11_talk_139
    · refine lv_bipush (v := (-2)) hx hb dX11_talk_42 (by decide) ?_
      exact W.iret (v := (-2)) hx hb hr (fun tt ht hW => ⟨⟨(-2), (), rfl, (if_neg (fun h => c_39 h.2)).symm, ⟨by rw [ht]; exact hP.sub [] rfl, hD.sub [] rfl rfl⟩⟩, hS.F ht⟩) hS.2.2 dX11_talk_44
def w_c_talk_same : List Cond := .code yX11_talk cX11_talk 8 (some .int) :: (([.code yX11_deviceAt cX11_deviceAt 2 (some (.object "BeamHouse$Device")), .fieldLink RX11 11 "BeamHouse" "devices" "[LBeamHouse$Device;", .methodLink RX11 22 yX11_deviceAt, .instanceMethod yX11_deviceAt, .selects RX11 yX11_deviceAt yX11_deviceAt, .initialized RX11] : List Cond) ++ wsX110)
theorem g_c_talk_same_c_deviceAt_yes_22 : GoodIn w_c_talk_same (wsV RX11 22 RX11 yX11_deviceAt w_c_deviceAt_yes) := (goodIn_app (goodIn_r _ [3, 4, 5, 6] rfl rfl) (goodIn_ca (goodIn_r _ [1, 2] rfl rfl) (goodIn_sub (fun _ h => List.mem_cons_of_mem _ (List.mem_append_right _ h)) gw_X11)))
set_option maxHeartbeats 4000000 in
set_option maxRecDepth 100000 in
theorem c_talk_same (l : Launch) (D : va_G) (ca : Nat → ClassId) (sz : Nat) (h0 : Nat) (dv : Nat) (tp : Nat) (fd : Nat → Option Nat) (a : Nat → Nat) (k : Nat) (n : Int32) (hk : k < 4) (hfd : fd k = some (a 0)) : Met l yX11_talk w_c_talk_same ({ frames := 1, cells := 0, slots := 0, locals := 21 }) (Pre D ca [.ref h0, .int (nI k), .int (nI k), .int n] [(h0, .inr (11, [.ref dv, .ref tp, .int 0])), (dv, .inl (ca 2, 4, .inr (.inr (.inr (.inr fd)))))] sz) (va_Qi (fun (r : Int32) (_ : Unit) => r = -1) (fun (_ : Unit) (tt : State) => Wd D (va_A [(h0, .inr (11, [.ref dv, .ref tp, .int 0])), (dv, .inl (ca 2, 4, .inr (.inr (.inr (.inr fd)))))] sz) [] tt) (va_A [(h0, .inr (11, [.ref dv, .ref tp, .int 0])), (dv, .inl (ca 2, 4, .inr (.inr (.inr (.inr fd)))))] sz)) 0 0 (va_A [(h0, .inr (11, [.ref dv, .ref tp, .int 0])), (dv, .inl (ca 2, 4, .inr (.inr (.inr (.inr fd)))))] sz) := by
  refine Met.ofW (cc := cX11_talk) (maxL := 8) (ret := (some .int)) (by decide) rfl ?_
  intro p e s m args below meth c s₁ B hml hv
  obtain ⟨rfl, hsz, hP, hK, hD0, hN⟩ := hv
  have hx := B.exec
  have hb := B.bytes
  have hr := B.returns
  have hts := atoms_spec (ws := w_c_talk_same) B.pre
  have hown : s.vm.findClass RX11 = some m.cls := findClass_of_methodNamed B.named
  have hlocks := B.notSynchronized
  have hi_X11 : ∀ w ∈ wsX110, w ∈ w_c_talk_same := fun _ h => List.mem_cons_of_mem _ (List.mem_append_right _ h)
  subst hsz
  have hD := hD0.self (sz := s.heap.size)
  generalize hAe : va_A [(h0, .inr (11, [.ref dv, .ref tp, .int 0])), (dv, .inl (ca 2, 4, .inr (.inr (.inr (.inr fd)))))] s.heap.size = A at hD ⊢
  have hA : ∀ q : Nat, s.heap.size ≤ q → A q := fun q h => by rw [← hAe]; exact Or.inr h
  have hS : va_S A s.heap s.heap [] := va_S.rf
  have hP : va_P D vwCl [(h0, .inr (11, [.ref dv, .ref tp, .int 0])), (dv, .inl (ca 2, 4, .inr (.inr (.inr (.inr fd)))))] s.heap := hP
  have hl := lv_entry ([.ref h0, .int (nI k), .int (nI k), .int n]) (n := 8) (Nat.le_of_ble_eq_true rfl)
  rw [lg_entry_eq]
  generalize (lg_sl ([.ref h0, .int (nI k), .int (nI k), .int n]) ++ List.replicate (8 - (lg_sl ([.ref h0, .int (nI k), .int (nI k), .int n])).length) Slot.unset).toArray = ls at hl ⊢
  have hl : lv_has ls 8 [(0, .ref h0), (1, .int (nI k)), (2, .int (nI k)), (3, .int n)] := hl
  refine lv_aload_n hx hb dX11_talk_0 rfl (lv_at hl 0 rfl) ?_
  refine lv_iload_n hx hb dX11_talk_1 rfl (lv_at hl 1 rfl) ?_
  refine kGo_q (wr := []) (kRunV (As := [.int (nI k)]) (rest := []) ⟨hx, hb, hml, hown, hts⟩ (c_deviceAt_yes l D ca _ h0 dv tp fd a k hk hfd) (cwV 1 hts g_c_talk_same_c_deviceAt_yes_22 rfl rfl rfl (by decide +kernel) ⟨Nat.le_of_ble_eq_true rfl, Nat.le_of_ble_eq_true rfl⟩) hK hN hP hD [0, 1] rfl rfl rfl rfl rfl rfl hl.1 rfl (Nat.le_of_ble_eq_true rfl) dX11_talk_2 ⟨Nat.le_of_ble_eq_true rfl, Nat.le_of_ble_eq_true rfl⟩) hP hD hS hA [0, 1] [] rfl rfl rfl (by decide) (fun r_1 uu_ tt H locs hr_1 hB hj hS => ?_)
  have hWd := hB
  obtain ⟨hP, hD⟩ := hj _ hWd
  have hP : va_P D vwCl [(h0, .inr (11, [.ref dv, .ref tp, .int 0])), (dv, .inl (ca 2, 4, .inr (.inr (.inr (.inr fd)))))] H := hP
  have hD : va_D A [(h0, .inr (11, [.ref dv, .ref tp, .int 0])), (dv, .inl (ca 2, 4, .inr (.inr (.inr (.inr fd)))))] := hD
  subst hr_1
  refine W.eq (g2 := F0 m 5 ls [.ref (a 0)]) rfl ?_
  refine lv_astore (lv' := [(4, .ref (a 0)), (0, .ref h0), (1, .int (nI k)), (2, .int (nI k)), (3, .int n)]) hx hb dX11_talk_5 hl (by decide) rfl (fun ls hl => ?_)
  refine lv_aload_n hx hb dX11_talk_7 rfl (lv_at hl 1 rfl) ?_
  refine lv_iload_n hx hb dX11_talk_8 rfl (lv_at hl 3 rfl) ?_
  refine kGo_q (wr := []) (kRunV (As := [.int (nI k)]) (rest := []) ⟨hx, hb, hml, hown, hts⟩ (c_deviceAt_yes l D ca _ h0 dv tp fd a k hk hfd) (cwV 1 hts g_c_talk_same_c_deviceAt_yes_22 rfl rfl rfl (by decide +kernel) ⟨Nat.le_of_ble_eq_true rfl, Nat.le_of_ble_eq_true rfl⟩) hK hN hP hD [0, 1] rfl rfl rfl rfl rfl rfl hl.1 rfl (Nat.le_of_ble_eq_true rfl) dX11_talk_9 ⟨Nat.le_of_ble_eq_true rfl, Nat.le_of_ble_eq_true rfl⟩) hP hD hS hA [0, 1] [] rfl rfl rfl (by decide) (fun r_2 uu_ tt H locs hr_2 hB hj hS => ?_)
  have hWd := hB
  obtain ⟨hP, hD⟩ := hj _ hWd
  have hP : va_P D vwCl [(h0, .inr (11, [.ref dv, .ref tp, .int 0])), (dv, .inl (ca 2, 4, .inr (.inr (.inr (.inr fd)))))] H := hP
  have hD : va_D A [(h0, .inr (11, [.ref dv, .ref tp, .int 0])), (dv, .inl (ca 2, 4, .inr (.inr (.inr (.inr fd)))))] := hD
  subst hr_2
  refine W.eq (g2 := F0 m 12 ls [.ref (a 0)]) rfl ?_
  refine lv_astore (lv' := [(5, .ref (a 0)), (4, .ref (a 0)), (0, .ref h0), (1, .int (nI k)), (2, .int (nI k)), (3, .int n)]) hx hb dX11_talk_12 hl (by decide) rfl (fun ls hl => ?_)
  refine lv_aload hx hb dX11_talk_14 (lv_at hl 1 rfl) ?_
  refine lv_ifnull hx hb dX11_talk_16 ?_
  refine lv_aload hx hb dX11_talk_19 (lv_at hl 0 rfl) ?_
  refine lv_ifnull hx hb dX11_talk_21 ?_
  refine lv_iload_n hx hb dX11_talk_24 rfl (lv_at hl 3 rfl) ?_
  refine lv_iload_n hx hb dX11_talk_25 rfl (lv_at hl 4 rfl) ?_
  refine lv_icmp_ne (tgt := 31) hx hb dX11_talk_26 (by decide) (fun h => absurd rfl h) (fun _ => ?_)
  refine lv_iconst (v := (-1)) hx hb dX11_talk_29 (by decide) ?_
  exact W.iret (v := (-1)) hx hb hr (fun tt ht hW => ⟨⟨(-1), (), rfl, rfl, ⟨by rw [ht]; exact hP.sub [] rfl, hD.sub [] rfl rfl⟩⟩, hS.F ht⟩) hS.2.2 dX11_talk_30
def w_c_talk_an : List Cond := .code yX11_talk cX11_talk 8 (some .int) :: (([.code yX11_deviceAt cX11_deviceAt 2 (some (.object "BeamHouse$Device")), .fieldLink RX11 11 "BeamHouse" "devices" "[LBeamHouse$Device;", .methodLink RX11 22 yX11_deviceAt, .instanceMethod yX11_deviceAt, .selects RX11 yX11_deviceAt yX11_deviceAt, .initialized RX11] : List Cond) ++ wsX110)
theorem g_c_talk_an_c_deviceAt_yes_22 : GoodIn w_c_talk_an (wsV RX11 22 RX11 yX11_deviceAt w_c_deviceAt_yes) := (goodIn_app (goodIn_r _ [3, 4, 5, 6] rfl rfl) (goodIn_ca (goodIn_r _ [1, 2] rfl rfl) (goodIn_sub (fun _ h => List.mem_cons_of_mem _ (List.mem_append_right _ h)) gw_X11)))
theorem g_c_talk_an_c_deviceAt_no_22 : GoodIn w_c_talk_an (wsV RX11 22 RX11 yX11_deviceAt w_c_deviceAt_no) := (goodIn_app (goodIn_r _ [3, 4, 5, 6] rfl rfl) (goodIn_r _ [1] rfl rfl))
set_option maxHeartbeats 4000000 in
set_option maxRecDepth 100000 in
theorem c_talk_an (l : Launch) (D : va_G) (ca : Nat → ClassId) (sz : Nat) (h0 : Nat) (dv : Nat) (tp : Nat) (fd : Nat → Option Nat) (a : Nat → Nat) (k : Nat) (d : Int32) (n : Int32) (hk : k < 4) (hfd : fd k = some (a 0)) (hd_d : d < 0 ∨ 4 ≤ d) : Met l yX11_talk w_c_talk_an ({ frames := 1, cells := 0, slots := 0, locals := 21 }) (Pre D ca [.ref h0, .int (nI k), .int d, .int n] [(h0, .inr (11, [.ref dv, .ref tp, .int 0])), (dv, .inl (ca 2, 4, .inr (.inr (.inr (.inr fd)))))] sz) (va_Qi (fun (r : Int32) (_ : Unit) => r = -1) (fun (_ : Unit) (tt : State) => Wd D (va_A [(h0, .inr (11, [.ref dv, .ref tp, .int 0])), (dv, .inl (ca 2, 4, .inr (.inr (.inr (.inr fd)))))] sz) [] tt) (va_A [(h0, .inr (11, [.ref dv, .ref tp, .int 0])), (dv, .inl (ca 2, 4, .inr (.inr (.inr (.inr fd)))))] sz)) 0 0 (va_A [(h0, .inr (11, [.ref dv, .ref tp, .int 0])), (dv, .inl (ca 2, 4, .inr (.inr (.inr (.inr fd)))))] sz) := by
  refine Met.ofW (cc := cX11_talk) (maxL := 8) (ret := (some .int)) (by decide) rfl ?_
  intro p e s m args below meth c s₁ B hml hv
  obtain ⟨rfl, hsz, hP, hK, hD0, hN⟩ := hv
  have hx := B.exec
  have hb := B.bytes
  have hr := B.returns
  have hts := atoms_spec (ws := w_c_talk_an) B.pre
  have hown : s.vm.findClass RX11 = some m.cls := findClass_of_methodNamed B.named
  have hlocks := B.notSynchronized
  have hi_X11 : ∀ w ∈ wsX110, w ∈ w_c_talk_an := fun _ h => List.mem_cons_of_mem _ (List.mem_append_right _ h)
  subst hsz
  have hD := hD0.self (sz := s.heap.size)
  generalize hAe : va_A [(h0, .inr (11, [.ref dv, .ref tp, .int 0])), (dv, .inl (ca 2, 4, .inr (.inr (.inr (.inr fd)))))] s.heap.size = A at hD ⊢
  have hA : ∀ q : Nat, s.heap.size ≤ q → A q := fun q h => by rw [← hAe]; exact Or.inr h
  have hS : va_S A s.heap s.heap [] := va_S.rf
  have hP : va_P D vwCl [(h0, .inr (11, [.ref dv, .ref tp, .int 0])), (dv, .inl (ca 2, 4, .inr (.inr (.inr (.inr fd)))))] s.heap := hP
  have hl := lv_entry ([.ref h0, .int (nI k), .int d, .int n]) (n := 8) (Nat.le_of_ble_eq_true rfl)
  rw [lg_entry_eq]
  generalize (lg_sl ([.ref h0, .int (nI k), .int d, .int n]) ++ List.replicate (8 - (lg_sl ([.ref h0, .int (nI k), .int d, .int n])).length) Slot.unset).toArray = ls at hl ⊢
  have hl : lv_has ls 8 [(0, .ref h0), (1, .int (nI k)), (2, .int d), (3, .int n)] := hl
  refine lv_aload_n hx hb dX11_talk_0 rfl (lv_at hl 0 rfl) ?_
  refine lv_iload_n hx hb dX11_talk_1 rfl (lv_at hl 1 rfl) ?_
  refine kGo_q (wr := []) (kRunV (As := [.int (nI k)]) (rest := []) ⟨hx, hb, hml, hown, hts⟩ (c_deviceAt_yes l D ca _ h0 dv tp fd a k hk hfd) (cwV 1 hts g_c_talk_an_c_deviceAt_yes_22 rfl rfl rfl (by decide +kernel) ⟨Nat.le_of_ble_eq_true rfl, Nat.le_of_ble_eq_true rfl⟩) hK hN hP hD [0, 1] rfl rfl rfl rfl rfl rfl hl.1 rfl (Nat.le_of_ble_eq_true rfl) dX11_talk_2 ⟨Nat.le_of_ble_eq_true rfl, Nat.le_of_ble_eq_true rfl⟩) hP hD hS hA [0, 1] [] rfl rfl rfl (by decide) (fun r_1 uu_ tt H locs hr_1 hB hj hS => ?_)
  have hWd := hB
  obtain ⟨hP, hD⟩ := hj _ hWd
  have hP : va_P D vwCl [(h0, .inr (11, [.ref dv, .ref tp, .int 0])), (dv, .inl (ca 2, 4, .inr (.inr (.inr (.inr fd)))))] H := hP
  have hD : va_D A [(h0, .inr (11, [.ref dv, .ref tp, .int 0])), (dv, .inl (ca 2, 4, .inr (.inr (.inr (.inr fd)))))] := hD
  subst hr_1
  refine W.eq (g2 := F0 m 5 ls [.ref (a 0)]) rfl ?_
  refine lv_astore (lv' := [(4, .ref (a 0)), (0, .ref h0), (1, .int (nI k)), (2, .int d), (3, .int n)]) hx hb dX11_talk_5 hl (by decide) rfl (fun ls hl => ?_)
  refine lv_aload_n hx hb dX11_talk_7 rfl (lv_at hl 1 rfl) ?_
  refine lv_iload_n hx hb dX11_talk_8 rfl (lv_at hl 3 rfl) ?_
  refine kGo_q (wr := [(dv, .inl (ca 2, 4, .inr (.inr (.inr (.inr fd)))))]) (kRunV (As := [.int d]) (rest := []) ⟨hx, hb, hml, hown, hts⟩ (c_deviceAt_no l D ca _ h0 dv tp d hd_d) (cwV 1 hts g_c_talk_an_c_deviceAt_no_22 rfl rfl rfl (by decide +kernel) ⟨Nat.le_of_ble_eq_true rfl, Nat.le_of_ble_eq_true rfl⟩) hK hN hP hD [0] rfl rfl rfl rfl rfl rfl hl.1 rfl (Nat.le_of_ble_eq_true rfl) dX11_talk_9 ⟨Nat.le_of_ble_eq_true rfl, Nat.le_of_ble_eq_true rfl⟩) hP hD hS hA [0] [1] rfl rfl rfl (by decide) (fun r_2 uu_ tt H locs hr_2 hB hj hS => ?_)
  have hWd := hB
  obtain ⟨hP, hD⟩ := hj _ hWd
  have hP : va_P D vwCl [(dv, .inl (ca 2, 4, .inr (.inr (.inr (.inr fd))))), (h0, .inr (11, [.ref dv, .ref tp, .int 0]))] H := hP
  have hD : va_D A [(dv, .inl (ca 2, 4, .inr (.inr (.inr (.inr fd))))), (h0, .inr (11, [.ref dv, .ref tp, .int 0]))] := hD
  subst hr_2
  refine W.eq (g2 := F0 m 12 ls [.null]) rfl ?_
  refine lv_astoreN (lv' := [(5, .null), (4, .ref (a 0)), (0, .ref h0), (1, .int (nI k)), (2, .int d), (3, .int n)]) hx hb dX11_talk_12 hl (by decide) rfl (fun ls hl => ?_)
  refine lv_aload hx hb dX11_talk_14 (lv_at hl 1 rfl) ?_
  refine lv_ifnull hx hb dX11_talk_16 ?_
  refine lv_aloadN hx hb dX11_talk_19 (lv_at hl 0 rfl) ?_
  refine lv_ifnullN (tgt := 29) hx hb dX11_talk_21 (by decide) ?_
  refine lv_iconst (v := (-1)) hx hb dX11_talk_29 (by decide) ?_
  exact W.iret (v := (-1)) hx hb hr (fun tt ht hW => ⟨⟨(-1), (), rfl, rfl, ⟨by rw [ht]; exact hP.sub [] rfl, hD.sub [] rfl rfl⟩⟩, hS.F ht⟩) hS.2.2 dX11_talk_30
def w_c_talk_nb : List Cond := .code yX11_talk cX11_talk 8 (some .int) :: (([.code yX11_deviceAt cX11_deviceAt 2 (some (.object "BeamHouse$Device")), .methodLink RX11 22 yX11_deviceAt, .instanceMethod yX11_deviceAt, .selects RX11 yX11_deviceAt yX11_deviceAt, .initialized RX11, .fieldLink RX11 11 "BeamHouse" "devices" "[LBeamHouse$Device;"] : List Cond) ++ wsX110)
theorem g_c_talk_nb_c_deviceAt_no_22 : GoodIn w_c_talk_nb (wsV RX11 22 RX11 yX11_deviceAt w_c_deviceAt_no) := (goodIn_app (goodIn_r _ [2, 3, 4, 5] rfl rfl) (goodIn_r _ [1] rfl rfl))
theorem g_c_talk_nb_c_deviceAt_yes_22 : GoodIn w_c_talk_nb (wsV RX11 22 RX11 yX11_deviceAt w_c_deviceAt_yes) := (goodIn_app (goodIn_r _ [2, 3, 4, 5] rfl rfl) (goodIn_ca (goodIn_r _ [1, 6] rfl rfl) (goodIn_sub (fun _ h => List.mem_cons_of_mem _ (List.mem_append_right _ h)) gw_X11)))
set_option maxHeartbeats 4000000 in
set_option maxRecDepth 100000 in
theorem c_talk_nb (l : Launch) (D : va_G) (ca : Nat → ClassId) (sz : Nat) (h0 : Nat) (dv : Nat) (tp : Nat) (fd : Nat → Option Nat) (a : Nat → Nat) (k : Nat) (d : Int32) (n : Int32) (hk : k < 4) (hfd : fd k = some (a 0)) (hd_d : d < 0 ∨ 4 ≤ d) : Met l yX11_talk w_c_talk_nb ({ frames := 1, cells := 0, slots := 0, locals := 21 }) (Pre D ca [.ref h0, .int d, .int (nI k), .int n] [(h0, .inr (11, [.ref dv, .ref tp, .int 0])), (dv, .inl (ca 2, 4, .inr (.inr (.inr (.inr fd)))))] sz) (va_Qi (fun (r : Int32) (_ : Unit) => r = -1) (fun (_ : Unit) (tt : State) => Wd D (va_A [(h0, .inr (11, [.ref dv, .ref tp, .int 0])), (dv, .inl (ca 2, 4, .inr (.inr (.inr (.inr fd)))))] sz) [] tt) (va_A [(h0, .inr (11, [.ref dv, .ref tp, .int 0])), (dv, .inl (ca 2, 4, .inr (.inr (.inr (.inr fd)))))] sz)) 0 0 (va_A [(h0, .inr (11, [.ref dv, .ref tp, .int 0])), (dv, .inl (ca 2, 4, .inr (.inr (.inr (.inr fd)))))] sz) := by
  refine Met.ofW (cc := cX11_talk) (maxL := 8) (ret := (some .int)) (by decide) rfl ?_
  intro p e s m args below meth c s₁ B hml hv
  obtain ⟨rfl, hsz, hP, hK, hD0, hN⟩ := hv
  have hx := B.exec
  have hb := B.bytes
  have hr := B.returns
  have hts := atoms_spec (ws := w_c_talk_nb) B.pre
  have hown : s.vm.findClass RX11 = some m.cls := findClass_of_methodNamed B.named
  have hlocks := B.notSynchronized
  have hi_X11 : ∀ w ∈ wsX110, w ∈ w_c_talk_nb := fun _ h => List.mem_cons_of_mem _ (List.mem_append_right _ h)
  subst hsz
  have hD := hD0.self (sz := s.heap.size)
  generalize hAe : va_A [(h0, .inr (11, [.ref dv, .ref tp, .int 0])), (dv, .inl (ca 2, 4, .inr (.inr (.inr (.inr fd)))))] s.heap.size = A at hD ⊢
  have hA : ∀ q : Nat, s.heap.size ≤ q → A q := fun q h => by rw [← hAe]; exact Or.inr h
  have hS : va_S A s.heap s.heap [] := va_S.rf
  have hP : va_P D vwCl [(h0, .inr (11, [.ref dv, .ref tp, .int 0])), (dv, .inl (ca 2, 4, .inr (.inr (.inr (.inr fd)))))] s.heap := hP
  have hl := lv_entry ([.ref h0, .int d, .int (nI k), .int n]) (n := 8) (Nat.le_of_ble_eq_true rfl)
  rw [lg_entry_eq]
  generalize (lg_sl ([.ref h0, .int d, .int (nI k), .int n]) ++ List.replicate (8 - (lg_sl ([.ref h0, .int d, .int (nI k), .int n])).length) Slot.unset).toArray = ls at hl ⊢
  have hl : lv_has ls 8 [(0, .ref h0), (1, .int d), (2, .int (nI k)), (3, .int n)] := hl
  refine lv_aload_n hx hb dX11_talk_0 rfl (lv_at hl 0 rfl) ?_
  refine lv_iload_n hx hb dX11_talk_1 rfl (lv_at hl 1 rfl) ?_
  refine kGo_q (wr := [(dv, .inl (ca 2, 4, .inr (.inr (.inr (.inr fd)))))]) (kRunV (As := [.int d]) (rest := []) ⟨hx, hb, hml, hown, hts⟩ (c_deviceAt_no l D ca _ h0 dv tp d hd_d) (cwV 1 hts g_c_talk_nb_c_deviceAt_no_22 rfl rfl rfl (by decide +kernel) ⟨Nat.le_of_ble_eq_true rfl, Nat.le_of_ble_eq_true rfl⟩) hK hN hP hD [0] rfl rfl rfl rfl rfl rfl hl.1 rfl (Nat.le_of_ble_eq_true rfl) dX11_talk_2 ⟨Nat.le_of_ble_eq_true rfl, Nat.le_of_ble_eq_true rfl⟩) hP hD hS hA [0] [1] rfl rfl rfl (by decide) (fun r_1 uu_ tt H locs hr_1 hB hj hS => ?_)
  have hWd := hB
  obtain ⟨hP, hD⟩ := hj _ hWd
  have hP : va_P D vwCl [(dv, .inl (ca 2, 4, .inr (.inr (.inr (.inr fd))))), (h0, .inr (11, [.ref dv, .ref tp, .int 0]))] H := hP
  have hD : va_D A [(dv, .inl (ca 2, 4, .inr (.inr (.inr (.inr fd))))), (h0, .inr (11, [.ref dv, .ref tp, .int 0]))] := hD
  subst hr_1
  refine W.eq (g2 := F0 m 5 ls [.null]) rfl ?_
  refine lv_astoreN (lv' := [(4, .null), (0, .ref h0), (1, .int d), (2, .int (nI k)), (3, .int n)]) hx hb dX11_talk_5 hl (by decide) rfl (fun ls hl => ?_)
  refine lv_aload_n hx hb dX11_talk_7 rfl (lv_at hl 1 rfl) ?_
  refine lv_iload_n hx hb dX11_talk_8 rfl (lv_at hl 3 rfl) ?_
  refine kGo_q (wr := []) (kRunV (As := [.int (nI k)]) (rest := []) ⟨hx, hb, hml, hown, hts⟩ (c_deviceAt_yes l D ca _ h0 dv tp fd a k hk hfd) (cwV 1 hts g_c_talk_nb_c_deviceAt_yes_22 rfl rfl rfl (by decide +kernel) ⟨Nat.le_of_ble_eq_true rfl, Nat.le_of_ble_eq_true rfl⟩) hK hN hP hD [1, 0] rfl rfl rfl rfl rfl rfl hl.1 rfl (Nat.le_of_ble_eq_true rfl) dX11_talk_9 ⟨Nat.le_of_ble_eq_true rfl, Nat.le_of_ble_eq_true rfl⟩) hP hD hS hA [1, 0] [] rfl rfl rfl (by decide) (fun r_2 uu_ tt H locs hr_2 hB hj hS => ?_)
  have hWd := hB
  obtain ⟨hP, hD⟩ := hj _ hWd
  have hP : va_P D vwCl [(h0, .inr (11, [.ref dv, .ref tp, .int 0])), (dv, .inl (ca 2, 4, .inr (.inr (.inr (.inr fd)))))] H := hP
  have hD : va_D A [(h0, .inr (11, [.ref dv, .ref tp, .int 0])), (dv, .inl (ca 2, 4, .inr (.inr (.inr (.inr fd)))))] := hD
  subst hr_2
  refine W.eq (g2 := F0 m 12 ls [.ref (a 0)]) rfl ?_
  refine lv_astore (lv' := [(5, .ref (a 0)), (4, .null), (0, .ref h0), (1, .int d), (2, .int (nI k)), (3, .int n)]) hx hb dX11_talk_12 hl (by decide) rfl (fun ls hl => ?_)
  refine lv_aloadN hx hb dX11_talk_14 (lv_at hl 1 rfl) ?_
  refine lv_ifnullN (tgt := 29) hx hb dX11_talk_16 (by decide) ?_
  refine lv_iconst (v := (-1)) hx hb dX11_talk_29 (by decide) ?_
  exact W.iret (v := (-1)) hx hb hr (fun tt ht hW => ⟨⟨(-1), (), rfl, rfl, ⟨by rw [ht]; exact hP.sub [] rfl, hD.sub [] rfl rfl⟩⟩, hS.F ht⟩) hS.2.2 dX11_talk_30
def w_c_talk_nn : List Cond := .code yX11_talk cX11_talk 8 (some .int) :: (([.code yX11_deviceAt cX11_deviceAt 2 (some (.object "BeamHouse$Device")), .methodLink RX11 22 yX11_deviceAt, .instanceMethod yX11_deviceAt, .selects RX11 yX11_deviceAt yX11_deviceAt, .initialized RX11] : List Cond))
theorem g_c_talk_nn_c_deviceAt_no_22 : GoodIn w_c_talk_nn (wsV RX11 22 RX11 yX11_deviceAt w_c_deviceAt_no) := (goodIn_app (goodIn_r _ [2, 3, 4, 5] rfl rfl) (goodIn_r _ [1] rfl rfl))
set_option maxHeartbeats 4000000 in
set_option maxRecDepth 100000 in
theorem c_talk_nn (l : Launch) (D : va_G) (ca : Nat → ClassId) (sz : Nat) (h0 : Nat) (dv : Nat) (tp : Nat) (d : Int32) (d2 : Int32) (n : Int32) (hd_d : d < 0 ∨ 4 ≤ d) (hd_d2 : d2 < 0 ∨ 4 ≤ d2) : Met l yX11_talk w_c_talk_nn ({ frames := 1, cells := 0, slots := 0, locals := 21 }) (Pre D ca [.ref h0, .int d, .int d2, .int n] [(h0, .inr (11, [.ref dv, .ref tp, .int 0]))] sz) (va_Qi (fun (r : Int32) (_ : Unit) => r = -1) (fun (_ : Unit) (tt : State) => Wd D (va_A [(h0, .inr (11, [.ref dv, .ref tp, .int 0]))] sz) [] tt) (va_A [(h0, .inr (11, [.ref dv, .ref tp, .int 0]))] sz)) 0 0 (va_A [(h0, .inr (11, [.ref dv, .ref tp, .int 0]))] sz) := by
  refine Met.ofW (cc := cX11_talk) (maxL := 8) (ret := (some .int)) (by decide) rfl ?_
  intro p e s m args below meth c s₁ B hml hv
  obtain ⟨rfl, hsz, hP, hK, hD0, hN⟩ := hv
  have hx := B.exec
  have hb := B.bytes
  have hr := B.returns
  have hts := atoms_spec (ws := w_c_talk_nn) B.pre
  have hown : s.vm.findClass RX11 = some m.cls := findClass_of_methodNamed B.named
  have hlocks := B.notSynchronized
  subst hsz
  have hD := hD0.self (sz := s.heap.size)
  generalize hAe : va_A [(h0, .inr (11, [.ref dv, .ref tp, .int 0]))] s.heap.size = A at hD ⊢
  have hA : ∀ q : Nat, s.heap.size ≤ q → A q := fun q h => by rw [← hAe]; exact Or.inr h
  have hS : va_S A s.heap s.heap [] := va_S.rf
  have hP : va_P D vwCl [(h0, .inr (11, [.ref dv, .ref tp, .int 0]))] s.heap := hP
  have hl := lv_entry ([.ref h0, .int d, .int d2, .int n]) (n := 8) (Nat.le_of_ble_eq_true rfl)
  rw [lg_entry_eq]
  generalize (lg_sl ([.ref h0, .int d, .int d2, .int n]) ++ List.replicate (8 - (lg_sl ([.ref h0, .int d, .int d2, .int n])).length) Slot.unset).toArray = ls at hl ⊢
  have hl : lv_has ls 8 [(0, .ref h0), (1, .int d), (2, .int d2), (3, .int n)] := hl
  refine lv_aload_n hx hb dX11_talk_0 rfl (lv_at hl 0 rfl) ?_
  refine lv_iload_n hx hb dX11_talk_1 rfl (lv_at hl 1 rfl) ?_
  refine kGo_q (wr := []) (kRunV (As := [.int d]) (rest := []) ⟨hx, hb, hml, hown, hts⟩ (c_deviceAt_no l D ca _ h0 dv tp d hd_d) (cwV 1 hts g_c_talk_nn_c_deviceAt_no_22 rfl rfl rfl (by decide +kernel) ⟨Nat.le_of_ble_eq_true rfl, Nat.le_of_ble_eq_true rfl⟩) hK hN hP hD [0] rfl rfl rfl rfl rfl rfl hl.1 rfl (Nat.le_of_ble_eq_true rfl) dX11_talk_2 ⟨Nat.le_of_ble_eq_true rfl, Nat.le_of_ble_eq_true rfl⟩) hP hD hS hA [0] [] rfl rfl rfl (by decide) (fun r_1 uu_ tt H locs hr_1 hB hj hS => ?_)
  have hWd := hB
  obtain ⟨hP, hD⟩ := hj _ hWd
  have hP : va_P D vwCl [(h0, .inr (11, [.ref dv, .ref tp, .int 0]))] H := hP
  have hD : va_D A [(h0, .inr (11, [.ref dv, .ref tp, .int 0]))] := hD
  subst hr_1
  refine W.eq (g2 := F0 m 5 ls [.null]) rfl ?_
  refine lv_astoreN (lv' := [(4, .null), (0, .ref h0), (1, .int d), (2, .int d2), (3, .int n)]) hx hb dX11_talk_5 hl (by decide) rfl (fun ls hl => ?_)
  refine lv_aload_n hx hb dX11_talk_7 rfl (lv_at hl 1 rfl) ?_
  refine lv_iload_n hx hb dX11_talk_8 rfl (lv_at hl 3 rfl) ?_
  refine kGo_q (wr := []) (kRunV (As := [.int d2]) (rest := []) ⟨hx, hb, hml, hown, hts⟩ (c_deviceAt_no l D ca _ h0 dv tp d2 hd_d2) (cwV 1 hts g_c_talk_nn_c_deviceAt_no_22 rfl rfl rfl (by decide +kernel) ⟨Nat.le_of_ble_eq_true rfl, Nat.le_of_ble_eq_true rfl⟩) hK hN hP hD [0] rfl rfl rfl rfl rfl rfl hl.1 rfl (Nat.le_of_ble_eq_true rfl) dX11_talk_9 ⟨Nat.le_of_ble_eq_true rfl, Nat.le_of_ble_eq_true rfl⟩) hP hD hS hA [0] [] rfl rfl rfl (by decide) (fun r_2 uu_ tt H locs hr_2 hB hj hS => ?_)
  have hWd := hB
  obtain ⟨hP, hD⟩ := hj _ hWd
  have hP : va_P D vwCl [(h0, .inr (11, [.ref dv, .ref tp, .int 0]))] H := hP
  have hD : va_D A [(h0, .inr (11, [.ref dv, .ref tp, .int 0]))] := hD
  subst hr_2
  refine W.eq (g2 := F0 m 12 ls [.null]) rfl ?_
  refine lv_astoreN (lv' := [(5, .null), (4, .null), (0, .ref h0), (1, .int d), (2, .int d2), (3, .int n)]) hx hb dX11_talk_12 hl (by decide) rfl (fun ls hl => ?_)
  refine lv_aloadN hx hb dX11_talk_14 (lv_at hl 1 rfl) ?_
  refine lv_ifnullN (tgt := 29) hx hb dX11_talk_16 (by decide) ?_
  refine lv_iconst (v := (-1)) hx hb dX11_talk_29 (by decide) ?_
  exact W.iret (v := (-1)) hx hb hr (fun tt ht hW => ⟨⟨(-1), (), rfl, rfl, ⟨by rw [ht]; exact hP.sub [] rfl, hD.sub [] rfl rfl⟩⟩, hS.F ht⟩) hS.2.2 dX11_talk_30
def w_c_check_0 : List Cond := .code yX11_check cX11_check 5 (some .int) :: (([.constant RX11 234 (65535)] : List Cond))
set_option maxHeartbeats 4000000 in
set_option maxRecDepth 100000 in
theorem c_check_0 (l : Launch) (D : va_G) (ca : Nat → ClassId) (sz : Nat) (h0 : Nat) (f : Nat → Int32) (N : Nat)  : Met l yX11_check w_c_check_0 ({ frames := 0, cells := 0, slots := 0, locals := 0 }) (Pre D ca [.ref h0, .int 0] [(h0, .inl (ca 0, N, .inl f))] sz) (va_Qi (fun (r : Int32) (_ : Unit) => r = 0) (fun (_ : Unit) (tt : State) => Wd D (va_A [(h0, .inl (ca 0, N, .inl f))] sz) [] tt) (va_A [(h0, .inl (ca 0, N, .inl f))] sz)) 0 0 (va_A [(h0, .inl (ca 0, N, .inl f))] sz) := by
  refine Met.ofW (cc := cX11_check) (maxL := 5) (ret := (some .int)) (by decide) rfl ?_
  intro p e s m args below meth c s₁ B hml hv
  obtain ⟨rfl, hsz, hP, hK, hD0, hN⟩ := hv
  have hx := B.exec
  have hb := B.bytes
  have hr := B.returns
  have hts := atoms_spec (ws := w_c_check_0) B.pre
  have hown : s.vm.findClass RX11 = some m.cls := findClass_of_methodNamed B.named
  have hlocks := B.notSynchronized
  subst hsz
  have hD := hD0.self (sz := s.heap.size)
  generalize hAe : va_A [(h0, .inl (ca 0, N, .inl f))] s.heap.size = A at hD ⊢
  have hA : ∀ q : Nat, s.heap.size ≤ q → A q := fun q h => by rw [← hAe]; exact Or.inr h
  have hS : va_S A s.heap s.heap [] := va_S.rf
  have hP : va_P D vwCl [(h0, .inl (ca 0, N, .inl f))] s.heap := hP
  have hl := lv_entry ([.ref h0, .int 0]) (n := 5) (Nat.le_of_ble_eq_true rfl)
  rw [lg_entry_eq]
  generalize (lg_sl ([.ref h0, .int 0]) ++ List.replicate (5 - (lg_sl ([.ref h0, .int 0])).length) Slot.unset).toArray = ls at hl ⊢
  have hl : lv_has ls 5 [(0, .ref h0), (1, .int 0)] := hl
  refine lv_ldc (v := 65535) hx hb hown (hts (.constant RX11 234 (65535)) (List.mem_of_getElem? (i := 1) rfl)) dX11_check_0 ?_
  refine lv_istore_n (lv' := [(2, .int 65535), (0, .ref h0), (1, .int 0)]) hx hb dX11_check_2 rfl hl (by decide) rfl (fun ls hl => ?_)
  refine lv_iconst (v := 0) hx hb dX11_check_3 (by decide) ?_
  refine lv_istore_n (lv' := [(3, .int 0), (2, .int 65535), (0, .ref h0), (1, .int 0)]) hx hb dX11_check_4 rfl hl (by decide) rfl (fun ls hl => ?_)
  refine lv_iload_n hx hb dX11_check_5 rfl (lv_at hl 0 rfl) ?_
  refine lv_iload_n hx hb dX11_check_6 rfl (lv_at hl 3 rfl) ?_
  refine lv_icmp_ge (tgt := 63) hx hb dX11_check_7 (by decide) (fun _ => ?_) (fun h => absurd (by decide) h)
  refine lv_ldc (v := 65535) hx hb hown (hts (.constant RX11 234 (65535)) (List.mem_of_getElem? (i := 1) rfl)) dX11_check_63 ?_
  refine lv_iload_n hx hb dX11_check_65 rfl (lv_at hl 1 rfl) ?_
  refine lv_isub hx hb dX11_check_66 ?_
  refine lv_topn 0 (by decide) ?_
  exact W.iret (v := 0) hx hb hr (fun tt ht hW => ⟨⟨0, (), rfl, rfl, ⟨by rw [ht]; exact hP.sub [] rfl, hD.sub [] rfl rfl⟩⟩, hS.F ht⟩) hS.2.2 dX11_check_67
def w_c_check : List Cond := .code yX11_check cX11_check 5 (some .int) :: (([.constant RX11 234 (65535), .constant RX11 235 (33800)] : List Cond))
set_option maxHeartbeats 4000000 in
set_option maxRecDepth 100000 in
theorem c_check (l : Launch) (D : va_G) (ca : Nat → ClassId) (sz : Nat) (h0 : Nat) (f : Nat → Int32) (t : Nat) (N : Nat) (htN : t ≤ N) (hN2 : N < 2 ^ 31) : Met l yX11_check w_c_check ({ frames := 0, cells := 0, slots := 0, locals := 0 }) (Pre D ca [.ref h0, .int (nI t)] [(h0, .inl (ca 0, N, .inl f))] sz) (va_Qi (fun (r : Int32) (_ : Unit) => True) (fun (_ : Unit) (tt : State) => Wd D (va_A [(h0, .inl (ca 0, N, .inl f))] sz) [(h0, .inl (ca 0, N, .inl f))] tt) (va_A [(h0, .inl (ca 0, N, .inl f))] sz)) 0 0 (va_A [(h0, .inl (ca 0, N, .inl f))] sz) := by
  refine Met.ofW (cc := cX11_check) (maxL := 5) (ret := (some .int)) (by decide) rfl ?_
  intro p e s m args below meth c s₁ B hml hv
  obtain ⟨rfl, hsz, hP, hK, hD0, hN⟩ := hv
  have hx := B.exec
  have hb := B.bytes
  have hr := B.returns
  have hts := atoms_spec (ws := w_c_check) B.pre
  have hown : s.vm.findClass RX11 = some m.cls := findClass_of_methodNamed B.named
  have hlocks := B.notSynchronized
  subst hsz
  have hD := hD0.self (sz := s.heap.size)
  generalize hAe : va_A [(h0, .inl (ca 0, N, .inl f))] s.heap.size = A at hD ⊢
  have hA : ∀ q : Nat, s.heap.size ≤ q → A q := fun q h => by rw [← hAe]; exact Or.inr h
  have hS : va_S A s.heap s.heap [] := va_S.rf
  have hP : va_P D vwCl [(h0, .inl (ca 0, N, .inl f))] s.heap := hP
  have hl := lv_entry ([.ref h0, .int (nI t)]) (n := 5) (Nat.le_of_ble_eq_true rfl)
  rw [lg_entry_eq]
  generalize (lg_sl ([.ref h0, .int (nI t)]) ++ List.replicate (5 - (lg_sl ([.ref h0, .int (nI t)])).length) Slot.unset).toArray = ls at hl ⊢
  have hl : lv_has ls 5 [(0, .ref h0), (1, .int (nI t))] := hl
  refine lv_ldc (v := 65535) hx hb hown (hts (.constant RX11 234 (65535)) (List.mem_of_getElem? (i := 1) rfl)) dX11_check_0 ?_
  refine lv_istore_n (lv' := [(2, .int 65535), (0, .ref h0), (1, .int (nI t))]) hx hb dX11_check_2 rfl hl (by decide) rfl (fun ls hl => ?_)
  refine lv_iconst (v := 0) hx hb dX11_check_3 (by decide) ?_
  refine lv_istore_n (lv' := [(3, .int 0), (2, .int 65535), (0, .ref h0), (1, .int (nI t))]) hx hb dX11_check_4 rfl hl (by decide) rfl (fun ls hl => ?_)
  have key_5 : ∀ (fu : Nat) (j : Nat) (x : Int32) (hj : j ≤ t) (hm_5 : t + 1 ≤ j + fu) (H : Heap) (locs : List Loc) (ls : Array Slot), va_P D vwCl [(h0, .inl (ca 0, N, .inl f))] H → va_D A [(h0, .inl (ca 0, N, .inl f))] → va_S A s.heap H locs → lv_has ls 5 [(3, .int (nI j)), (2, .int x), (1, .int (nI t)), (0, .ref h0)] → W p l e (headSpec w_c_check ({ frames := 0, cells := 0, slots := 0, locals := 0 })).room s m [.ref h0, .int (nI t)].toArray below meth c H locs 0 0 (MQ below (va_Qi (fun (r : Int32) (_ : Unit) => True) (fun (_ : Unit) (tt : State) => Wd D (A) [(h0, .inl (ca 0, N, .inl f))] tt) (A)) [.ref h0, .int (nI t)].toArray s 0 0 A) (F0 m 5 ls []) := by
    intro fu
    induction fu with
    | zero =>
      intro j x hj hm_5
      exact absurd hm_5 (by omega)
    | succ fu ih_5 =>
      intro j x hj hm_5 H locs ls hP hD hS hl
      refine lv_iload_n hx hb dX11_check_5 rfl (lv_at hl 0 rfl) ?_
      refine lv_iload_n hx hb dX11_check_6 rfl (lv_at hl 2 rfl) ?_
      refine lv_icmp_ge (tgt := 63) hx hb dX11_check_7 (by decide) (fun c_7 => ?_) (fun c_7 => ?_)
      · refine lv_ldc (v := 65535) hx hb hown (hts (.constant RX11 234 (65535)) (List.mem_of_getElem? (i := 1) rfl)) dX11_check_63 ?_
        refine lv_iload_n hx hb dX11_check_65 rfl (lv_at hl 1 rfl) ?_
        refine lv_isub hx hb dX11_check_66 ?_
        refine lv_topi (fun x_1 ex_1 => ?_)
        exact W.iret (v := x_1) hx hb hr (fun tt ht hW => ⟨⟨x_1, (), rfl, trivial, ⟨by rw [ht]; exact hP.sub [0] rfl, hD.sub [0] rfl rfl⟩⟩, hS.F ht⟩) hS.2.2 dX11_check_67
      · have hjt : j < t := k_ltI (by omega) (by omega) c_7
        refine lv_iload_n hx hb dX11_check_10 rfl (lv_at hl 0 rfl) ?_
        refine lv_aload_n hx hb dX11_check_11 rfl (lv_at hl 3 rfl) ?_
        refine va_alen (v := (Int32.ofNat N)) hx hb hK hP 0 0 rfl rfl (by first | rfl | decide) dX11_check_12 ?_
        refine lv_icmp_ge (tgt := 63) hx hb dX11_check_13 (by decide) (fun c_13 => ?_) (fun c_13 => ?_)
        · refine lv_ldc (v := 65535) hx hb hown (hts (.constant RX11 234 (65535)) (List.mem_of_getElem? (i := 1) rfl)) dX11_check_63 ?_
          refine lv_iload_n hx hb dX11_check_65 rfl (lv_at hl 1 rfl) ?_
          refine lv_isub hx hb dX11_check_66 ?_
          refine lv_topi (fun x_2 ex_2 => ?_)
          exact W.iret (v := x_2) hx hb hr (fun tt ht hW => ⟨⟨x_2, (), rfl, trivial, ⟨by rw [ht]; exact hP.sub [0] rfl, hD.sub [0] rfl rfl⟩⟩, hS.F ht⟩) hS.2.2 dX11_check_67
        · refine lv_iload_n hx hb dX11_check_16 rfl (lv_at hl 1 rfl) ?_
          refine lv_aload_n hx hb dX11_check_17 rfl (lv_at hl 3 rfl) ?_
          refine lv_iload_n hx hb dX11_check_18 rfl (lv_at hl 0 rfl) ?_
          refine va_iald hx hb hK hP 0 0 rfl rfl (vp_in_nI (by omega) (by omega)) dX11_check_19 ?_
          refine lv_topi (fun x_3 ex_3 => ?_)
          refine lv_ixor hx hb dX11_check_20 ?_
          refine lv_topi (fun x_4 ex_4 => ?_)
          refine lv_istore_n (lv' := [(2, .int x_4), (3, .int (nI j)), (1, .int (nI t)), (0, .ref h0)]) hx hb dX11_check_21 rfl hl (by decide) rfl (fun ls hl => ?_)
          refine lv_iconst (v := 0) hx hb dX11_check_22 (by decide) ?_
          refine lv_istore (lv' := [(4, .int 0), (2, .int x_4), (3, .int (nI j)), (1, .int (nI t)), (0, .ref h0)]) hx hb dX11_check_23 hl (by decide) rfl (fun ls hl => ?_)
          have key_25 : ∀ (fu : Nat) (i : Nat) (z : Int32) (hi : i ≤ 8) (hm_25 : 8 + 1 ≤ i + fu) (H : Heap) (locs : List Loc) (ls : Array Slot), va_P D vwCl [(h0, .inl (ca 0, N, .inl f))] H → va_D A [(h0, .inl (ca 0, N, .inl f))] → va_S A s.heap H locs → lv_has ls 5 [(4, .int (nI i)), (3, .int (nI j)), (2, .int z), (1, .int (nI t)), (0, .ref h0)] → W p l e (headSpec w_c_check ({ frames := 0, cells := 0, slots := 0, locals := 0 })).room s m [.ref h0, .int (nI t)].toArray below meth c H locs 0 0 (MQ below (va_Qi (fun (r : Int32) (_ : Unit) => True) (fun (_ : Unit) (tt : State) => Wd D (A) [(h0, .inl (ca 0, N, .inl f))] tt) (A)) [.ref h0, .int (nI t)].toArray s 0 0 A) (F0 m 25 ls []) := by
            intro fu
            induction fu with
            | zero =>
              intro i z hi hm_25
              exact absurd hm_25 (by omega)
            | succ fu ih_25 =>
              intro i z hi hm_25 H locs ls hP hD hS hl
              refine lv_iload hx hb dX11_check_25 (lv_at hl 0 rfl) ?_
              refine lv_bipush (v := 8) hx hb dX11_check_27 (by decide) ?_
              refine lv_icmp_ge (tgt := 57) hx hb dX11_check_29 (by decide) (fun c_29 => ?_) (fun c_29 => ?_)
              · refine lv_iinc (v := (nI (j + 1))) (lv' := [(3, .int (nI (j + 1))), (4, .int (nI i)), (2, .int z), (1, .int (nI t)), (0, .ref h0)]) hx hb dX11_check_57 hl (k := 1) rfl (nI_1 j) (by decide) rfl (fun ls hl => ?_)
                refine lv_goto (tgt := 5) hx hb dX11_check_60 (by decide) ?_
                exact ih_5 (j + 1) z (by omega) (by omega) _ _ _ hP hD hS (lv_sub hl [0, 2, 3, 4] rfl)
              · have hi8 : i < 8 := k_ltI (by omega) (by decide) c_29
                refine lv_iload_n hx hb dX11_check_32 rfl (lv_at hl 2 rfl) ?_
                refine lv_iconst (v := 1) hx hb dX11_check_33 (by decide) ?_
                refine lv_iand hx hb dX11_check_34 ?_
                refine lv_topi (fun x_5 ex_5 => ?_)
                refine lv_if_ne (tgt := 44) hx hb dX11_check_35 (by decide) (fun c_35 => ?_) (fun c_35 => ?_)
                · refine lv_iload_n hx hb dX11_check_44 rfl (lv_at hl 2 rfl) ?_
                  refine lv_iconst (v := 1) hx hb dX11_check_45 (by decide) ?_
                  refine lv_iushr hx hb dX11_check_46 rfl ?_
                  refine lv_topi (fun x_6 ex_6 => ?_)
                  refine lv_ldc (v := 33800) hx hb hown (hts (.constant RX11 235 (33800)) (List.mem_of_getElem? (i := 2) rfl)) dX11_check_47 ?_
                  refine lv_ixor hx hb dX11_check_49 ?_
                  refine lv_topi (fun x_7 ex_7 => ?_)
                  refine lv_istore_n (lv' := [(2, .int x_7), (4, .int (nI i)), (3, .int (nI j)), (1, .int (nI t)), (0, .ref h0)]) hx hb dX11_check_50 rfl hl (by decide) rfl (fun ls hl => ?_)
                  refine lv_iinc (v := (nI (i + 1))) (lv' := [(4, .int (nI (i + 1))), (2, .int x_7), (3, .int (nI j)), (1, .int (nI t)), (0, .ref h0)]) hx hb dX11_check_51 hl (k := 1) rfl (nI_1 i) (by decide) rfl (fun ls hl => ?_)
                  refine lv_goto (tgt := 25) hx hb dX11_check_54 (by decide) ?_
                  exact ih_25 (i + 1) x_7 (by omega) (by omega) _ _ _ hP hD hS (lv_sub hl [0, 2, 1, 3, 4] rfl)
                · refine lv_iload_n hx hb dX11_check_38 rfl (lv_at hl 2 rfl) ?_
                  refine lv_iconst (v := 1) hx hb dX11_check_39 (by decide) ?_
                  refine lv_iushr hx hb dX11_check_40 rfl ?_
                  refine lv_topi (fun x_8 ex_8 => ?_)
                  refine lv_goto (tgt := 50) hx hb dX11_check_41 (by decide) ?_
                  refine lv_istore_n (lv' := [(2, .int x_8), (4, .int (nI i)), (3, .int (nI j)), (1, .int (nI t)), (0, .ref h0)]) hx hb dX11_check_50 rfl hl (by decide) rfl (fun ls hl => ?_)
                  refine lv_iinc (v := (nI (i + 1))) (lv' := [(4, .int (nI (i + 1))), (2, .int x_8), (3, .int (nI j)), (1, .int (nI t)), (0, .ref h0)]) hx hb dX11_check_51 hl (k := 1) rfl (nI_1 i) (by decide) rfl (fun ls hl => ?_)
                  refine lv_goto (tgt := 25) hx hb dX11_check_54 (by decide) ?_
                  exact ih_25 (i + 1) x_8 (by omega) (by omega) _ _ _ hP hD hS (lv_sub hl [0, 2, 1, 3, 4] rfl)
          exact key_25 (9) 0 x_4 (by omega) (by omega) _ _ _ hP hD hS (lv_sub hl [0, 2, 1, 3, 4] rfl)
  exact key_5 (t + 1) 0 65535 (by omega) (by omega) _ _ _ hP hD hS (lv_sub hl [0, 1, 3, 2] rfl)
def w_c_tape : List Cond := .code yX11_tape cX11_tape 3 (some .int) :: (([.fieldLink RX11 36 "BeamHouse" "taped" "I", .fieldLink RX11 15 "BeamHouse" "tape" "[I", .code yX11_check cX11_check 5 (some .int), .constant RX11 234 (65535), .methodLink RX11 173 yX11_check, .static yX11_check, .initialized RX11] : List Cond) ++ wsX110)
theorem g_c_tape_c_check_0_173 : GoodIn w_c_tape (va_wsS RX11 173 yX11_check w_c_check_0) := (goodIn_app (goodIn_r _ [5, 6, 7] rfl rfl) (goodIn_r _ [3, 4] rfl rfl))
set_option maxHeartbeats 4000000 in
set_option maxRecDepth 100000 in
theorem c_tape (l : Launch) (D : va_G) (ca : Nat → ClassId) (sz : Nat) (h0 : Nat) (dv : Nat) (tp : Nat) (wh : Int32) (n : Int32)  : Met l yX11_tape w_c_tape ({ frames := 1, cells := 0, slots := 0, locals := 24 }) (Pre D ca [.ref h0, .int wh, .int n] [(h0, .inr (11, [.ref dv, .ref tp, .int 0])), (tp, .inl (ca 0, 1000, .inl (fun _ => 0)))] sz) (va_Qi (fun (r : Int32) (_ : Unit) => r = if wh = 0 then 0 else if ¬ wh = 1 then -9 else if n = 0 then 0 else -1) (fun (_ : Unit) (tt : State) => Wd D (va_A [(h0, .inr (11, [.ref dv, .ref tp, .int 0])), (tp, .inl (ca 0, 1000, .inl (fun _ => 0)))] sz) [] tt) (va_A [(h0, .inr (11, [.ref dv, .ref tp, .int 0])), (tp, .inl (ca 0, 1000, .inl (fun _ => 0)))] sz)) 0 0 (va_A [(h0, .inr (11, [.ref dv, .ref tp, .int 0])), (tp, .inl (ca 0, 1000, .inl (fun _ => 0)))] sz) := by
  refine Met.ofW (cc := cX11_tape) (maxL := 3) (ret := (some .int)) (by decide) rfl ?_
  intro p e s m args below meth c s₁ B hml hv
  obtain ⟨rfl, hsz, hP, hK, hD0, hN⟩ := hv
  have hx := B.exec
  have hb := B.bytes
  have hr := B.returns
  have hts := atoms_spec (ws := w_c_tape) B.pre
  have hown : s.vm.findClass RX11 = some m.cls := findClass_of_methodNamed B.named
  have hlocks := B.notSynchronized
  have hi_X11 : ∀ w ∈ wsX110, w ∈ w_c_tape := fun _ h => List.mem_cons_of_mem _ (List.mem_append_right _ h)
  subst hsz
  have hD := hD0.self (sz := s.heap.size)
  generalize hAe : va_A [(h0, .inr (11, [.ref dv, .ref tp, .int 0])), (tp, .inl (ca 0, 1000, .inl (fun _ => 0)))] s.heap.size = A at hD ⊢
  have hA : ∀ q : Nat, s.heap.size ≤ q → A q := fun q h => by rw [← hAe]; exact Or.inr h
  have hS : va_S A s.heap s.heap [] := va_S.rf
  have hP : va_P D vwCl [(h0, .inr (11, [.ref dv, .ref tp, .int 0])), (tp, .inl (ca 0, 1000, .inl (fun _ => 0)))] s.heap := hP
  have hl := lv_entry ([.ref h0, .int wh, .int n]) (n := 3) (Nat.le_of_ble_eq_true rfl)
  rw [lg_entry_eq]
  generalize (lg_sl ([.ref h0, .int wh, .int n]) ++ List.replicate (3 - (lg_sl ([.ref h0, .int wh, .int n])).length) Slot.unset).toArray = ls at hl ⊢
  have hl : lv_has ls 3 [(0, .ref h0), (1, .int wh), (2, .int n)] := hl
  refine lv_iload_n hx hb dX11_tape_0 rfl (lv_at hl 1 rfl) ?_
  refine lv_if_ne (tgt := 9) hx hb dX11_tape_1 (by decide) (fun c_1 => ?_) (fun c_1 => ?_)
  · refine lv_iload_n hx hb dX11_tape_9 rfl (lv_at hl 1 rfl) ?_
    refine lv_iconst (v := 1) hx hb dX11_tape_10 (by decide) ?_
    refine lv_icmp_eq (tgt := 17) hx hb dX11_tape_11 (by decide) (fun c_11 => ?_) (fun c_11 => ?_)
    · refine lv_iload_n hx hb dX11_tape_17 rfl (lv_at hl 2 rfl) ?_
      refine lv_if_lt (tgt := 29) hx hb dX11_tape_18 (by decide) (fun c_18 => ?_) (fun c_18 => ?_)
      · refine lv_iconst (v := (-1)) hx hb dX11_tape_29 (by decide) ?_
        refine lv_goto (tgt := 41) hx hb dX11_tape_30 (by decide) ?_
        exact W.iret (v := (-1)) hx hb hr (fun tt ht hW => ⟨⟨(-1), (), rfl, (by rw [if_neg c_1, if_neg (not_not_intro c_11), if_neg (fun h => absurd c_18 (by rw [h]; decide))]), ⟨by rw [ht]; exact hP.sub [] rfl, hD.sub [] rfl rfl⟩⟩, hS.F ht⟩) hS.2.2 dX11_tape_41
      · refine lv_iload_n hx hb dX11_tape_21 rfl (lv_at hl 2 rfl) ?_
        refine lv_aload_n hx hb dX11_tape_22 rfl (lv_at hl 0 rfl) ?_
        refine va_get (D := D) (ci := 11) (v := .int 0) (C := RX11) (T := TX11) (N := 3) hx hb hts hi_X11 hown hK hP 0 rfl rfl 2 (by decide) (hts (.fieldLink RX11 36 "BeamHouse" "taped" "I") (List.mem_of_getElem? (i := 1) rfl)) (fun _ h9 => h9) rfl dX11_tape_23 ?_
        refine lv_icmp_le (tgt := 33) hx hb dX11_tape_26 (by decide) (fun c_26 => ?_) (fun c_26 => ?_)
        · obtain rfl : n = 0 := Int32.le_antisymm c_26 (Int32.not_lt.mp c_18)
          refine lv_aload_n hx hb dX11_tape_33 rfl (lv_at hl 0 rfl) ?_
          refine va_get (D := D) (ci := 11) (v := .ref tp) (C := RX11) (T := TX11) (N := 3) hx hb hts hi_X11 hown hK hP 0 rfl rfl 1 (by decide) (hts (.fieldLink RX11 15 "BeamHouse" "tape" "[I") (List.mem_of_getElem? (i := 2) rfl)) (fun _ h9 => h9) rfl dX11_tape_34 ?_
          refine lv_iload_n hx hb dX11_tape_37 rfl (lv_at hl 2 rfl) ?_
          refine kGo_i (wr := [(h0, .inr (11, [.ref dv, .ref tp, .int 0]))]) (kRunS (As := [.ref tp, .int 0]) (rest := []) ⟨hx, hb, hml, hown, hts⟩ (c_check_0 l D ca _ tp (fun _ => 0) 1000) (va_cwS 2 hts g_c_tape_c_check_0_173 rfl rfl rfl (by decide +kernel) ⟨Nat.le_of_ble_eq_true rfl, Nat.le_of_ble_eq_true rfl⟩) hK hN hP hD [1] rfl rfl rfl hl.1 rfl (Nat.le_of_ble_eq_true rfl) dX11_tape_38 ⟨Nat.le_of_ble_eq_true rfl, Nat.le_of_ble_eq_true rfl⟩) hP hD hS hA [1] [0] rfl rfl rfl (by decide) (fun r_1 uu_ tt H locs hr_1 hB hj hS => ?_)
          have hWd := hB
          obtain ⟨hP, hD⟩ := hj _ hWd
          have hP : va_P D vwCl [(h0, .inr (11, [.ref dv, .ref tp, .int 0]))] H := hP
          have hD : va_D A [(h0, .inr (11, [.ref dv, .ref tp, .int 0]))] := hD
          subst hr_1
          exact W.iret (v := 0) hx hb hr (fun tt ht hW => ⟨⟨0, (), rfl, (by rw [if_neg c_1, if_neg (not_not_intro c_11), if_pos rfl]), ⟨by rw [ht]; exact hP.sub [] rfl, hD.sub [] rfl rfl⟩⟩, hS.F ht⟩) hS.2.2 dX11_tape_41
        · refine lv_iconst (v := (-1)) hx hb dX11_tape_29 (by decide) ?_
          refine lv_goto (tgt := 41) hx hb dX11_tape_30 (by decide) ?_
          exact W.iret (v := (-1)) hx hb hr (fun tt ht hW => ⟨⟨(-1), (), rfl, (by rw [if_neg c_1, if_neg (not_not_intro c_11), if_neg (fun h => c_26 (by rw [h]; decide))]), ⟨by rw [ht]; exact hP.sub [] rfl, hD.sub [] rfl rfl⟩⟩, hS.F ht⟩) hS.2.2 dX11_tape_41
    · refine lv_bipush (v := (-9)) hx hb dX11_tape_14 (by decide) ?_
      exact W.iret (v := (-9)) hx hb hr (fun tt ht hW => ⟨⟨(-9), (), rfl, (by rw [if_neg c_1, if_pos c_11]), ⟨by rw [ht]; exact hP.sub [] rfl, hD.sub [] rfl rfl⟩⟩, hS.F ht⟩) hS.2.2 dX11_tape_16
  · refine lv_aload_n hx hb dX11_tape_4 rfl (lv_at hl 0 rfl) ?_
    refine va_get (D := D) (ci := 11) (v := .int 0) (C := RX11) (T := TX11) (N := 3) hx hb hts hi_X11 hown hK hP 0 rfl rfl 2 (by decide) (hts (.fieldLink RX11 36 "BeamHouse" "taped" "I") (List.mem_of_getElem? (i := 1) rfl)) (fun _ h9 => h9) rfl dX11_tape_5 ?_
    exact W.iret (v := 0) hx hb hr (fun tt ht hW => ⟨⟨0, (), rfl, (if_pos c_1).symm, ⟨by rw [ht]; exact hP.sub [] rfl, hD.sub [] rfl rfl⟩⟩, hS.F ht⟩) hS.2.2 dX11_tape_8

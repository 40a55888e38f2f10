/-! the worlds of this claim: the classes vwCl, four kinds of arrays (ca 0: int, ca 1: boolean, ca 2: Device, ca 3: Thing), the links between nest mates -/
abbrev tys4 (ca : Nat → ClassId) : List (ClassId × FieldType) := [(ca 0, .int), (ca 1, .boolean), (ca 2, .object RX1), (ca 3, .object RX9)]
def nestQs : List (String × Nat × MethodName) := [(RX0, 26, yX11_check), (RX1, 11, yX0_init), (RX1, 20, yX2_init), (RX1, 27, yX7_init), (RX1, 34, yX3_init), (RX1, 41, yX10_init), (RX1, 48, yX4_init), (RX4, 20, yX6_init), (RX4, 27, yX9_init), (RX8, 17, yX9_init), (RX10, 22, yX6_init)]
def NW (U : State) : Prop := (∀ q ∈ nestQs, va_Nw (.methodLinkNest q.1 q.2.1 q.2.2 RX11) U) ∧ va_AO RX1 U ∧ va_AO RX9 U
theorem NW_warm {s U : State} (hW : s.WarmedH U.vm) (h : NW s) : NW U := ⟨fun q hq => va_Nw.warmM hW (h.1 q hq), h.2.1.moved hW.alike, h.2.2.moved hW.alike⟩
theorem NW_same {u U : State} (hv : u.vm = U.vm) (h : NW u) : NW U := ⟨fun q hq => va_Nw.same rfl hv (h.1 q hq), h.2.1.moved (hv ▸ Vm.Alike.refl u.vm), h.2.2.moved (hv ▸ Vm.Alike.refl u.vm)⟩
/-- a method's start: its arguments, its cells, the tables -/
def Pre (D : va_G) (ca : Nat → ClassId) (av : List Value) (w : va_W) (sz : Nat) : Array Value → State → Prop := va_Pc av (fun U => U.heap.size = sz ∧ va_P D vwCl w U.heap ∧ va_K D vwCl (tys4 ca) U ∧ va_D (fun _ => True) w ∧ NW U)
/-- a method's end: these cells -/
def Wd (D : va_G) (A : Nat → Prop) (w : va_W) (t : State) : Prop := va_P D vwCl w t.heap ∧ va_D A w
theorem Pre_blind {D : va_G} {ca : Nat → ClassId} {av : List Value} {w : va_W} {sz : Nat} : FrameBlind (Pre D ca av w sz) := fun a U g mk q => by
  obtain ⟨q0, q1, qP, qK, qD, qN⟩ := q
  exact ⟨q0, q1, qP, va_K.moved (u := U) (U := U.calling g mk a) (Vm.Alike.refl U.vm) qK, qD, NW_same (u := U) (U := U.calling g mk a) rfl qN⟩
theorem kfm {α β : Type} {f : α → Option β} {l : List α} {w : List β} (h : l.map f = w.map some) : l.filterMap f = w := by
  have h1 : l.filterMap f = (l.map f).filterMap id := by rw [List.filterMap_map]; rfl
  rw [h1, h, List.filterMap_map]
  exact List.filterMap_some
section KC
variable {p : Program} {l : Launch} {e : Env} {R : Room} {s : State} {m : MethodId} {args : Array Value} {below : List Frame} {meth : Method} {c : Code} {H : Heap} {locs : List Loc} {cells slots : Nat} {Q : State → Prop}
variable {D : va_G} {ca : Nat → ClassId} {pc : Nat} {ls : Array Slot} {A : Nat → Prop} {H0 : Heap}
variable {y : MethodName} {bytes cc : ByteArray} {maxL nL mc ms n index : Nat} {ret : Option FieldType} {ws : List Cond} {rm : Room} {Ts : List Cond} {own C : String} {b : Addr} {As rest st0 : List Value}
variable {W0 wc wr : va_W} {Qc : Array Value → State → Outcome → State → Prop} {free : Addr → Prop}
theorem kPre {av : List Value} (hK : va_K D vwCl (tys4 ca) s) (hN : NW s) (hP : va_P D vwCl W0 H) (hD : va_D A W0) (isC : List Nat) (hC : isC.map (fun i => W0[i]?) = wc.map some) (hn1 : va_nd isC = true) : PreS s H (Pre D ca av wc H.size) av :=
  ⟨Pre_blind, fun U hU hW => ⟨rfl, by rw [hU], by rw [hU]; exact hP.sub isC (kfm hC), va_K.moved hW.alike hK, (hD.sub isC hn1 hC).weaken (fun _ _ _ _ => trivial), NW_warm hW hN⟩⟩
theorem kRunV (hfix : CallFix p m c cc nL s args Ts own) (hM : Met l y ws rm (Pre D ca (.ref b :: As) wc H.size) Qc mc ms free) (cw : CallW R s args own C index y bytes maxL ret ws rm mc ms n) (hK : va_K D vwCl (tys4 ca) s) (hN : NW s) (hP : va_P D vwCl W0 H) (hD : va_D A W0) (isC : List Nat) (hC : isC.map (fun i => W0[i]?) = wc.map some) (hn1 : va_nd isC = true) {ci : Nat} {fs : List Value} {q : vw_C} (hc : vwCl[ci]? = some q) (hq : q.1 = C) (he : wc[0]? = some (b, .inr (ci, fs))) (hn : As.length = n) (hsz : ls.size = nL) (hst : st0 = As.reverse ++ .ref b :: rest) (hcat : (rest.map fun v => v.category).sum ≤ 8) (hdg : decode cc pc = .ok (.invokevirtual index, 3)) (hf : cells + mc ≤ R.cells ∧ slots + ms ≤ R.slots) :
    va_Run p l e R s m args below meth c H locs cells slots mc ms (F0 m pc ls st0) rest (Qc (Value.ref b :: As).toArray) free :=
  va_runV hfix hM cw ⟨Pre_blind, by subst hq; exact va_recv hK (hP.sub isC (kfm hC)) hc he, (kPre hK hN hP hD isC hC hn1).2⟩ rfl hn hsz hst (lv_room hcat) hdg hf
theorem kRunS (hfix : CallFix p m c cc nL s args Ts own) (hM : Met l y ws rm (Pre D ca As wc H.size) Qc mc ms free) (cw : CallB R s args own index y bytes maxL ret ws rm mc ms n ∧ (Cond.static y).before args s = true) (hK : va_K D vwCl (tys4 ca) s) (hN : NW s) (hP : va_P D vwCl W0 H) (hD : va_D A W0) (isC : List Nat) (hC : isC.map (fun i => W0[i]?) = wc.map some) (hn1 : va_nd isC = true) (hn : As.length = n) (hsz : ls.size = nL) (hst : st0 = As.reverse ++ rest) (hcat : (rest.map fun v => v.category).sum ≤ 8) (hdg : decode cc pc = .ok (.invokestatic index, 3)) (hf : cells + mc ≤ R.cells ∧ slots + ms ≤ R.slots) :
    va_Run p l e R s m args below meth c H locs cells slots mc ms (F0 m pc ls st0) rest (Qc As.toArray) free :=
  va_runS hfix hM cw (kPre hK hN hP hD isC hC hn1) rfl hn hsz hst (lv_room hcat) hdg hf
theorem kRunSN (hfix : CallFix p m c cc nL s args Ts own) (hM : Met l y ws rm (Pre D ca As wc H.size) Qc mc ms free) (cw : va_CN R s args own index y RX11 bytes maxL ret ws rm mc ms n ∧ (Cond.static y).before args s = true ∧ True) (hK : va_K D vwCl (tys4 ca) s) (hN : NW s) (hP : va_P D vwCl W0 H) (hD : va_D A W0) (isC : List Nat) (hC : isC.map (fun i => W0[i]?) = wc.map some) (hn1 : va_nd isC = true) (hn : As.length = n) (hsz : ls.size = nL) (hst : st0 = As.reverse ++ rest) (hcat : (rest.map fun v => v.category).sum ≤ 8) (hdg : decode cc pc = .ok (.invokestatic index, 3)) (hf : cells + mc ≤ R.cells ∧ slots + ms ≤ R.slots) :
    va_Run p l e R s m args below meth c H locs cells slots mc ms (F0 m pc ls st0) rest (Qc As.toArray) free :=
  va_runSN hfix hM cw (kPre hK hN hP hD isC hC hn1) rfl hn hsz hst (lv_room hcat) hdg hf
theorem kRunI (hfix : CallFix p m c cc nL s args Ts own) (hM : Met l y ws rm (Pre D ca (.ref b :: As) wc H.size) Qc mc ms free) (cw : CallB R s args own index y bytes maxL none ws rm mc ms n ∧ y.name = "<init>" ∧ (Cond.instanceMethod y).before args s = true) (hK : va_K D vwCl (tys4 ca) s) (hN : NW s) (hP : va_P D vwCl W0 H) (hD : va_D A W0) (isC : List Nat) (hC : isC.map (fun i => W0[i]?) = wc.map some) (hn1 : va_nd isC = true) (hn : As.length = n) (hsz : ls.size = nL) (hst : st0 = As.reverse ++ .ref b :: rest) (hcat : (rest.map fun v => v.category).sum ≤ 8) (hdg : decode cc pc = .ok (.invokespecial index, 3)) (hf : cells + mc ≤ R.cells ∧ slots + ms ≤ R.slots) :
    va_Run p l e R s m args below meth c H locs cells slots mc ms (F0 m pc ls st0) rest (Qc (Value.ref b :: As).toArray) free :=
  va_runI hfix hM cw (kPre hK hN hP hD isC hC hn1) rfl hn hsz hst (lv_room hcat) hdg hf
theorem kRunIN (hfix : CallFix p m c cc nL s args Ts own) (hM : Met l y ws rm (Pre D ca (.ref b :: As) wc H.size) Qc mc ms free) (cw : va_CN R s args own index y RX11 bytes maxL none ws rm mc ms n ∧ y.name = "<init>" ∧ (Cond.instanceMethod y).before args s = true) (hK : va_K D vwCl (tys4 ca) s) (hN : NW s) (hP : va_P D vwCl W0 H) (hD : va_D A W0) (isC : List Nat) (hC : isC.map (fun i => W0[i]?) = wc.map some) (hn1 : va_nd isC = true) (hn : As.length = n) (hsz : ls.size = nL) (hst : st0 = As.reverse ++ .ref b :: rest) (hcat : (rest.map fun v => v.category).sum ≤ 8) (hdg : decode cc pc = .ok (.invokespecial index, 3)) (hf : cells + mc ≤ R.cells ∧ slots + ms ≤ R.slots) :
    va_Run p l e R s m args below meth c H locs cells slots mc ms (F0 m pc ls st0) rest (Qc (Value.ref b :: As).toArray) free :=
  va_runIN hfix hM cw (kPre hK hN hP hD isC hC hn1) rfl hn hsz hst (lv_room hcat) hdg hf
theorem kGo_i {S : Type} {post : Int32 → S → Prop} {B : S → State → Prop} {a : Array Value} (hr : va_Run p l e R s m args below meth c H locs cells slots mc ms (F0 m pc ls st0) rest (va_Qi post B (va_A wc H.size) a) (va_A wc H.size)) (hP : va_P D vwCl W0 H) (hD : va_D A W0) (hS : va_S A H0 H locs) (hA : ∀ q, H0.size ≤ q → A q) (isC isR : List Nat) (hC : isC.map (fun i => W0[i]?) = wc.map some) (hR : isR.map (fun i => W0[i]?) = wr.map some) (hn2 : va_nd isR = true) (hdis : ∀ i ∈ isR, i ∉ isC)
    (kk : ∀ (r : Int32) (u : S) (t : State) (H1 : Heap) (locs1 : List Loc), post r u → B u t → (∀ w1, Wd D (va_A wc H.size) w1 t → va_P D vwCl (wr ++ w1) H1 ∧ va_D A (wr ++ w1)) → va_S A H0 H1 locs1 → W p l e R s m args below meth c H1 locs1 (cells + mc) (slots + ms) Q (F0 m (pc + 3) ls (.int r :: rest))) : W p l e R s m args below meth c H locs cells slots Q (F0 m pc ls st0) := by
  have hFc := va_free hD hS hA isC hC
  exact va_calli hr hS (fun q _ h => hFc q h) hFc (fun r u t H1 locs ht _ hw hB _ hk1 hS => kk r u t H1 locs hw hB (fun w1 hw1 => va_join hP hD isC isR hC hR hn2 hdis hk1 hFc (ht ▸ hw1.1) hw1.2) hS)
theorem kGo_l {S : Type} {post : Int64 → S → Prop} {B : S → State → Prop} {a : Array Value} (hr : va_Run p l e R s m args below meth c H locs cells slots mc ms (F0 m pc ls st0) rest (va_Ql post B (va_A wc H.size) a) (va_A wc H.size)) (hP : va_P D vwCl W0 H) (hD : va_D A W0) (hS : va_S A H0 H locs) (hA : ∀ q, H0.size ≤ q → A q) (isC isR : List Nat) (hC : isC.map (fun i => W0[i]?) = wc.map some) (hR : isR.map (fun i => W0[i]?) = wr.map some) (hn2 : va_nd isR = true) (hdis : ∀ i ∈ isR, i ∉ isC)
    (kk : ∀ (r : Int64) (u : S) (t : State) (H1 : Heap) (locs1 : List Loc), post r u → B u t → (∀ w1, Wd D (va_A wc H.size) w1 t → va_P D vwCl (wr ++ w1) H1 ∧ va_D A (wr ++ w1)) → va_S A H0 H1 locs1 → W p l e R s m args below meth c H1 locs1 (cells + mc) (slots + ms) Q (F0 m (pc + 3) ls (.long r :: rest))) : W p l e R s m args below meth c H locs cells slots Q (F0 m pc ls st0) := by
  have hFc := va_free hD hS hA isC hC
  exact va_calll hr hS (fun q _ h => hFc q h) hFc (fun r u t H1 locs ht _ hw hB _ hk1 hS => kk r u t H1 locs hw hB (fun w1 hw1 => va_join hP hD isC isR hC hR hn2 hdis hk1 hFc (ht ▸ hw1.1) hw1.2) hS)
theorem kGo_q {S : Type} {post : Option Nat → S → Prop} {B : S → State → Prop} {a : Array Value} (hr : va_Run p l e R s m args below meth c H locs cells slots mc ms (F0 m pc ls st0) rest (va_Qq post B (va_A wc H.size) a) (va_A wc H.size)) (hP : va_P D vwCl W0 H) (hD : va_D A W0) (hS : va_S A H0 H locs) (hA : ∀ q, H0.size ≤ q → A q) (isC isR : List Nat) (hC : isC.map (fun i => W0[i]?) = wc.map some) (hR : isR.map (fun i => W0[i]?) = wr.map some) (hn2 : va_nd isR = true) (hdis : ∀ i ∈ isR, i ∉ isC)
    (kk : ∀ (r : Option Nat) (u : S) (t : State) (H1 : Heap) (locs1 : List Loc), post r u → B u t → (∀ w1, Wd D (va_A wc H.size) w1 t → va_P D vwCl (wr ++ w1) H1 ∧ va_D A (wr ++ w1)) → va_S A H0 H1 locs1 → W p l e R s m args below meth c H1 locs1 (cells + mc) (slots + ms) Q (F0 m (pc + 3) ls (va_rf r :: rest))) : W p l e R s m args below meth c H locs cells slots Q (F0 m pc ls st0) := by
  have hFc := va_free hD hS hA isC hC
  exact va_callq hr hS (fun q _ h => hFc q h) hFc (fun r u t H1 locs ht _ hw hB _ hk1 hS => kk r u t H1 locs hw hB (fun w1 hw1 => va_join hP hD isC isR hC hR hn2 hdis hk1 hFc (ht ▸ hw1.1) hw1.2) hS)
theorem kGo_v {S : Type} {post : S → Prop} {B : S → State → Prop} {a : Array Value} (hr : va_Run p l e R s m args below meth c H locs cells slots mc ms (F0 m pc ls st0) rest (va_Qv post B (va_A wc H.size) a) (va_A wc H.size)) (hP : va_P D vwCl W0 H) (hD : va_D A W0) (hS : va_S A H0 H locs) (hA : ∀ q, H0.size ≤ q → A q) (isC isR : List Nat) (hC : isC.map (fun i => W0[i]?) = wc.map some) (hR : isR.map (fun i => W0[i]?) = wr.map some) (hn2 : va_nd isR = true) (hdis : ∀ i ∈ isR, i ∉ isC)
    (kk : ∀ (u : S) (t : State) (H1 : Heap) (locs1 : List Loc), post u → B u t → (∀ w1, Wd D (va_A wc H.size) w1 t → va_P D vwCl (wr ++ w1) H1 ∧ va_D A (wr ++ w1)) → va_S A H0 H1 locs1 → W p l e R s m args below meth c H1 locs1 (cells + mc) (slots + ms) Q (F0 m (pc + 3) ls rest)) : W p l e R s m args below meth c H locs cells slots Q (F0 m pc ls st0) := by
  have hFc := va_free hD hS hA isC hC
  exact va_callv hr hS (fun q _ h => hFc q h) hFc (fun u t H1 locs ht _ hw hB _ hk1 hS => kk u t H1 locs hw hB (fun w1 hw1 => va_join hP hD isC isR hC hR hn2 hdis hk1 hFc (ht ▸ hw1.1) hw1.2) hS)
theorem lv_topn {x : Int32} (y : Int32) (h : x = y) (k : W p l e R s m args below meth c H locs cells slots Q (F0 m pc ls (.int y :: rest))) : W p l e R s m args below meth c H locs cells slots Q (F0 m pc ls (.int x :: rest)) := h ▸ k
theorem lv_topv {x : Value} (y : Value) (h : x = y) (k : W p l e R s m args below meth c H locs cells slots Q (F0 m pc ls (y :: rest))) : W p l e R s m args below meth c H locs cells slots Q (F0 m pc ls (x :: rest)) := h ▸ k
end KC
theorem k_ca {D : va_G} {ca : Nat → ClassId} {cA : ClassId} {U : State} {ty : FieldType} {tys : List (ClassId × FieldType)} (hK : va_K D vwCl (tys ++ [(cA, ty)]) U) (i : Nat) {c0 : ClassId} (h0 : tys[i]? = some (c0, ty)) (ht : ty = .int ∨ ty = .boolean ∨ ∃ C, ty = .object C) : cA = c0 := by
  have h1 := (hK.2 tys.length (cA, ty) (by simp)).2
  have h2 := (hK.2 i (c0, ty) (by rw [List.getElem?_append_left (List.getElem?_eq_some_iff.mp h0).1]; exact h0)).2
  rcases ht with rfl | rfl | ⟨C, rfl⟩
  · exact Option.some.inj (h1.symm.trans h2)
  · exact Option.some.inj (h1.symm.trans h2)
  · obtain ⟨_, _, _, _, _, e1⟩ := h1
    obtain ⟨_, _, _, _, _, e2⟩ := h2
    exact Option.some.inj (e1.symm.trans e2)
def cs0 (q : Nat) (a : Nat → Nat) : Nat → Nat := fun j => match j with
  | 0 => q
  | i + 1 => a (i + 1)
theorem k_lt0 {k : Nat} (hk : k < 4) : ¬ nI k < 0 := nI_pos (by omega)
theorem k_ge4 {k : Nat} (hk : k < 4) : ¬ (4 : Int32) ≤ nI k := nI_ge (a := k) (b := 4) hk (by decide)
theorem k_in {k n : Nat} (hk : k < n) (hn : n < 2 ^ 31) : vp_in (nI k) n := vp_in_nI hk hn
theorem k_cl {k : Nat} (hk : k < 4) : (nI k).toNatClampNeg = k := nI_clamp (by omega)

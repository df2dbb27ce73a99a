set_option maxHeartbeats 4000000 in
set_option maxRecDepth 100000 in
theorem cz_Qnext_4_10 (l : Launch) (dC : Nat → ClassId) (dI : Nat → Nat → Nat) (ed sz : Nat) (h0 : Nat) (u0 : Int32) (oa : Nat) (cO : ClassId) (fo : Nat → Option Nat) (e1 : Nat) (it : Nat) (u5 : Int32) (ho4 : fo 4 = some e1) : Met l yJx35411_next_0502b wsJx35411_next_0502b ({ frames := 1, cells := 0, slots := 0, locals := 20 } : Jvm.Room) (va_Pc [.ref it] (zB dC dI ed sz [(h0, .inr (1, [.int u0, .ref oa, .int 10])), (oa, .inl (cO, 10, .inr (.inr (.inr (.inr fo)))))] [(it, .inr (0, [.int 4, .int u5, .int u0, .ref h0]))] [(cO, .object "java/lang/Object")])) (va_Qr (fun (_ : Unit) => True) (fun (_ : Unit) (r9 : Nat) (t : State) => (r9 = e1) ∧ va_P (dC, dI) vwCl [(it, .inr (0, [.int 5, .int 4, .int u0, .ref h0]))] t.heap ∧ va_D (va_A [(it, .inr (0, [.int 4, .int u5, .int u0, .ref h0]))] sz) [(it, .inr (0, [.int 5, .int 4, .int u0, .ref h0]))] ∧ va_K (dC, dI) vwCl [] t) (va_A [(it, .inr (0, [.int 4, .int u5, .int u0, .ref h0]))] sz)) 0 0 (va_A [(it, .inr (0, [.int 4, .int u5, .int u0, .ref h0]))] sz) := by
  refine Met.ofW (cc := cJx35411_next_0502b) (maxL := 3) (ret := (some (.object "java/lang/Object"))) (by decide) rfl ?_
  intro p e s m args below meth c s₁ B hml hv
  obtain ⟨rfl, hsz, hR0, hP, hK, hD0, hN, hH, hX0⟩ := hv
  have hx := B.exec
  have hb := B.bytes
  have hr := B.returns
  have hts := atoms_spec (ws := wsJx35411_next_0502b) B.pre
  have hown : s.vm.findClass RJx35411 = some m.cls := findClass_of_methodNamed B.named
  have hlocks := B.notSynchronized
  subst hsz
  have hD := hD0.self (sz := s.heap.size)
  have hAr := zx_A hX0 hR0
  generalize hAe : va_A [(it, .inr (0, [.int 4, .int u5, .int u0, .ref h0]))] s.heap.size = A at hD hAr hH ⊢
  have hA : ∀ q : Nat, s.heap.size ≤ q → A q := fun q h => by rw [← hAe]; exact Or.inr h
  have hS : va_S A s.heap s.heap [] := va_S.rf
  have hl := lv_entry ([.ref it]) (n := 3) (Nat.le_of_ble_eq_true rfl)
  rw [lg_entry_eq]
  generalize (lg_sl ([.ref it]) ++ List.replicate (3 - (lg_sl ([.ref it])).length) Slot.unset).toArray = ls at hl ⊢
  have hl : lv_has ls 3 [(0, .ref it)] := hl
  refine lv_aload_n hx hb dJx35411_next_0502b_0 rfl (lv_at hl 0 rfl) ?_
  have hPr := (show va_P (dC, dI) vwCl [(it, .inr (0, [.int 4, .int u5, .int u0, .ref h0])), (h0, .inr (1, [.int u0, .ref oa, .int 10]))] s.heap from (zo_cons ((hP) 0 _ rfl) (zo_cons ((hR0) 0 _ rfl) (zo_nil : va_P (dC, dI) vwCl [] s.heap))))
  have hPc := hP.sub (ws' := []) [] rfl
  have hDc := hD.sub (ws' := []) [] (by decide) rfl
  have hKc := hK.sub (tys' := []) [] rfl
  have hFc := va_free (wc := []) hD hS hA [] rfl
  refine va_callv (va_runV (As := []) (rest := []) ⟨hx, hb, hml, hown, hts⟩ (cz_Qcomod l dC dI ed s.heap.size it h0 u0 u5 4 oa 10) (cwV 0 hts gJx35411_next_0502b_Jx35411_checkForComodification_da8c8 rfl rfl rfl (by decide +kernel) ⟨Nat.le_of_ble_eq_true rfl, Nat.le_of_ble_eq_true rfl⟩) ⟨zb_blind, va_recv hK hP (ci := 0) (q0 := 0) rfl rfl, fun U hU hW => ⟨rfl, zb_mk hU hW hPr hPc hKc hDc hN hH hS hFc zx_e⟩⟩ rfl rfl hl.1 rfl (lv_room (Nat.le_of_ble_eq_true rfl)) dJx35411_next_0502b_1 ⟨Nat.le_of_ble_eq_true rfl, Nat.le_of_ble_eq_true rfl⟩) hS (fun q _ h => hFc q h) hFc (fun u t H1 locs ht hvm hw hB hz1 hk1 hS => ?_)
  have hP := zo_K hP hk1
  refine lv_aload_n hx hb dJx35411_next_0502b_4 rfl (lv_at hl 0 rfl) ?_
  refine va_get (D := (dC, dI)) (ci := 0) (v := .int 4) (C := RJx35411) (T := TJx35411) (N := 4) hx hb hts zi_Jx35411_next_0502b_Jx35411 hown hK hP 0 rfl rfl 0 (by decide) (hts (.fieldLink RJx35411 25 "java/util/ArrayList$Itr" "cursor" "I") (by decide +kernel)) (fun _ h9 => h9) rfl dJx35411_next_0502b_5 ?_
  refine lv_istore_n (lv' := [(1, .int 4), (0, .ref it)]) hx hb dJx35411_next_0502b_8 rfl hl (by decide) rfl (fun ls hl => ?_)
  refine lv_iload_n hx hb dJx35411_next_0502b_9 rfl (lv_at hl 0 rfl) ?_
  refine lv_aload_n hx hb dJx35411_next_0502b_10 rfl (lv_at hl 1 rfl) ?_
  refine va_get (D := (dC, dI)) (ci := 0) (v := .ref h0) (C := RJx35411) (T := TJx35411) (N := 4) hx hb hts zi_Jx35411_next_0502b_Jx35411 hown hK hP 0 rfl rfl 3 (by decide) (hts (.fieldLink RJx35411 1 "java/util/ArrayList$Itr" "this$0" "Ljava/util/ArrayList;") (by decide +kernel)) (fun _ h9 => h9) rfl dJx35411_next_0502b_11 ?_
  refine va_getN (D := (dC, dI)) (ci := 1) (v := .int 10) (C := RJx4a65c) (T := TJx4a65c) (N := 3) hx hb hts zi_Jx35411_next_0502b_Jx4a65c hown hK (zo_R hR0 hS hAr) 0 rfl rfl 2 (by decide) (va_Nw.use rfl (hN.1 ("java/util/ArrayList$Itr", 28, "java/util/ArrayList", "size", "I", "java/util/ArrayList") (List.mem_of_getElem? (i := 0) rfl))) (fun _ h9 => h9) rfl dJx35411_next_0502b_14 ?_
  refine lv_icmp_lt (tgt := 28) hx hb dJx35411_next_0502b_17 (by decide) (fun _ => ?_) (fun h => absurd h (by decide))
  refine lv_aload_n hx hb dJx35411_next_0502b_28 rfl (lv_at hl 1 rfl) ?_
  refine va_get (D := (dC, dI)) (ci := 0) (v := .ref h0) (C := RJx35411) (T := TJx35411) (N := 4) hx hb hts zi_Jx35411_next_0502b_Jx35411 hown hK hP 0 rfl rfl 3 (by decide) (hts (.fieldLink RJx35411 1 "java/util/ArrayList$Itr" "this$0" "Ljava/util/ArrayList;") (by decide +kernel)) (fun _ h9 => h9) rfl dJx35411_next_0502b_29 ?_
  refine va_get (D := (dC, dI)) (ci := 1) (v := .ref oa) (C := RJx4a65c) (T := TJx4a65c) (N := 3) hx hb hts zi_Jx35411_next_0502b_Jx4a65c hown hK (zo_R hR0 hS hAr) 0 rfl rfl 1 (by decide) (hts (.fieldLink RJx35411 37 "java/util/ArrayList" "elementData" "[Ljava/lang/Object;") (by decide +kernel)) (fun _ h9 => h9) rfl dJx35411_next_0502b_32 ?_
  refine lv_astore_n (lv' := [(2, .ref oa), (1, .int 4), (0, .ref it)]) hx hb dJx35411_next_0502b_35 rfl hl (by decide) rfl (fun ls hl => ?_)
  refine lv_iload_n hx hb dJx35411_next_0502b_36 rfl (lv_at hl 1 rfl) ?_
  refine lv_aload_n hx hb dJx35411_next_0502b_37 rfl (lv_at hl 0 rfl) ?_
  refine va_alen hx hb hK (zo_R hR0 hS hAr) 1 0 rfl rfl (v := 10) (by exact rfl) dJx35411_next_0502b_38 ?_
  refine lv_icmp_lt (tgt := 50) hx hb dJx35411_next_0502b_39 (by decide) (fun _ => ?_) (fun h => absurd h (by decide))
  refine lv_aload_n hx hb dJx35411_next_0502b_50 rfl (lv_at hl 2 rfl) ?_
  refine lv_iload_n hx hb dJx35411_next_0502b_51 rfl (lv_at hl 1 rfl) ?_
  refine lv_iconst (v := 1) hx hb dJx35411_next_0502b_52 (by decide) ?_
  refine lv_iadd hx hb dJx35411_next_0502b_53 ?_
  refine zo_i (v := 5) (by decide) ?_
  refine va_put (D := (dC, dI)) (ci := 0) (v := .int 5) (ty := .int) (C := RJx35411) (T := TJx35411) (N := 4) hx hb hts zi_Jx35411_next_0502b_Jx35411 tyJx35411 tyJx35411_ok nmJx35411 hown hK hP hD hS 0 rfl rfl 0 (by decide) (hts (.fieldLink RJx35411 25 "java/util/ArrayList$Itr" "cursor" "I") (by decide +kernel)) (fun _ h9 => h9) rfl (by decide +kernel) rfl rfl (Nat.le_of_ble_eq_true rfl) dJx35411_next_0502b_54 (fun H3 locs hP hD hS => ?_)
  have hP : va_P (dC, dI) vwCl [(it, .inr (0, [.int 5, .int u5, .int u0, .ref h0]))] H3 := hP
  have hD : va_D A [(it, .inr (0, [.int 5, .int u5, .int u0, .ref h0]))] := hD
  refine lv_aload_n hx hb dJx35411_next_0502b_57 rfl (lv_at hl 0 rfl) ?_
  refine lv_aload_n hx hb dJx35411_next_0502b_58 rfl (lv_at hl 2 rfl) ?_
  refine lv_iload_n hx hb dJx35411_next_0502b_59 rfl (lv_at hl 1 rfl) ?_
  refine lv_dup_x1 hx hb dJx35411_next_0502b_60 rfl rfl ?_
  refine va_put (D := (dC, dI)) (ci := 0) (v := .int 4) (ty := .int) (C := RJx35411) (T := TJx35411) (N := 4) hx hb hts zi_Jx35411_next_0502b_Jx35411 tyJx35411 tyJx35411_ok nmJx35411 hown hK hP hD hS 0 rfl rfl 1 (by decide) (hts (.fieldLink RJx35411 13 "java/util/ArrayList$Itr" "lastRet" "I") (by decide +kernel)) (fun _ h9 => h9) rfl (by decide +kernel) rfl rfl (Nat.le_of_ble_eq_true rfl) dJx35411_next_0502b_61 (fun H4 locs hP hD hS => ?_)
  have hP : va_P (dC, dI) vwCl [(it, .inr (0, [.int 5, .int 4, .int u0, .ref h0]))] H4 := hP
  have hD : va_D A [(it, .inr (0, [.int 5, .int 4, .int u0, .ref h0]))] := hD
  refine va_aldq hx hb hK (zo_R hR0 hS hAr) 1 0 rfl rfl (by unfold vp_in; decide) dJx35411_next_0502b_64 ?_
  refine zo_q (v := .ref e1) (by rw [show Int32.toNatClampNeg 4 = 4 from by decide, ho4]; rfl) ?_
  refine W.widen (k := 0) (n := 0) (Nat.le_of_ble_eq_true rfl) (Nat.le_of_ble_eq_true rfl) ?_
  have hP9 := hP.sub (ws' := [(it, .inr (0, [.int 5, .int 4, .int u0, .ref h0]))]) [0] rfl
  have hD9 := hD.sub (ws' := [(it, .inr (0, [.int 5, .int 4, .int u0, .ref h0]))]) [0] (by decide) rfl
  have hK9 := hK.sub (tys' := []) [] rfl
  exact W.aret hx hb hr (Or.inl ⟨_, rfl⟩) (Or.inr ⟨_, rfl⟩) (fun t ht hW => ⟨⟨(), e1, rfl, trivial, ⟨rfl, by rw [ht]; exact hP9, hD9, va_K.moved hW.alike hK9⟩⟩, hS.F ht⟩) hS.2.2 dJx35411_next_0502b_65
set_option maxHeartbeats 4000000 in
set_option maxRecDepth 100000 in
theorem cz_Qnext_5_10 (l : Launch) (dC : Nat → ClassId) (dI : Nat → Nat → Nat) (ed sz : Nat) (h0 : Nat) (u0 : Int32) (oa : Nat) (cO : ClassId) (fo : Nat → Option Nat) (e1 : Nat) (it : Nat) (u5 : Int32) (ho5 : fo 5 = some e1) : Met l yJx35411_next_0502b wsJx35411_next_0502b ({ frames := 1, cells := 0, slots := 0, locals := 20 } : Jvm.Room) (va_Pc [.ref it] (zB dC dI ed sz [(h0, .inr (1, [.int u0, .ref oa, .int 10])), (oa, .inl (cO, 10, .inr (.inr (.inr (.inr fo)))))] [(it, .inr (0, [.int 5, .int u5, .int u0, .ref h0]))] [(cO, .object "java/lang/Object")])) (va_Qr (fun (_ : Unit) => True) (fun (_ : Unit) (r9 : Nat) (t : State) => (r9 = e1) ∧ va_P (dC, dI) vwCl [(it, .inr (0, [.int 6, .int 5, .int u0, .ref h0]))] t.heap ∧ va_D (va_A [(it, .inr (0, [.int 5, .int u5, .int u0, .ref h0]))] sz) [(it, .inr (0, [.int 6, .int 5, .int u0, .ref h0]))] ∧ va_K (dC, dI) vwCl [] t) (va_A [(it, .inr (0, [.int 5, .int u5, .int u0, .ref h0]))] sz)) 0 0 (va_A [(it, .inr (0, [.int 5, .int u5, .int u0, .ref h0]))] sz) := by
  refine Met.ofW (cc := cJx35411_next_0502b) (maxL := 3) (ret := (some (.object "java/lang/Object"))) (by decide) rfl ?_
  intro p e s m args below meth c s₁ B hml hv
  obtain ⟨rfl, hsz, hR0, hP, hK, hD0, hN, hH, hX0⟩ := hv
  have hx := B.exec
  have hb := B.bytes
  have hr := B.returns
  have hts := atoms_spec (ws := wsJx35411_next_0502b) B.pre
  have hown : s.vm.findClass RJx35411 = some m.cls := findClass_of_methodNamed B.named
  have hlocks := B.notSynchronized
  subst hsz
  have hD := hD0.self (sz := s.heap.size)
  have hAr := zx_A hX0 hR0
  generalize hAe : va_A [(it, .inr (0, [.int 5, .int u5, .int u0, .ref h0]))] s.heap.size = A at hD hAr hH ⊢
  have hA : ∀ q : Nat, s.heap.size ≤ q → A q := fun q h => by rw [← hAe]; exact Or.inr h
  have hS : va_S A s.heap s.heap [] := va_S.rf
  have hl := lv_entry ([.ref it]) (n := 3) (Nat.le_of_ble_eq_true rfl)
  rw [lg_entry_eq]
  generalize (lg_sl ([.ref it]) ++ List.replicate (3 - (lg_sl ([.ref it])).length) Slot.unset).toArray = ls at hl ⊢
  have hl : lv_has ls 3 [(0, .ref it)] := hl
  refine lv_aload_n hx hb dJx35411_next_0502b_0 rfl (lv_at hl 0 rfl) ?_
  have hPr := (show va_P (dC, dI) vwCl [(it, .inr (0, [.int 5, .int u5, .int u0, .ref h0])), (h0, .inr (1, [.int u0, .ref oa, .int 10]))] s.heap from (zo_cons ((hP) 0 _ rfl) (zo_cons ((hR0) 0 _ rfl) (zo_nil : va_P (dC, dI) vwCl [] s.heap))))
  have hPc := hP.sub (ws' := []) [] rfl
  have hDc := hD.sub (ws' := []) [] (by decide) rfl
  have hKc := hK.sub (tys' := []) [] rfl
  have hFc := va_free (wc := []) hD hS hA [] rfl
  refine va_callv (va_runV (As := []) (rest := []) ⟨hx, hb, hml, hown, hts⟩ (cz_Qcomod l dC dI ed s.heap.size it h0 u0 u5 5 oa 10) (cwV 0 hts gJx35411_next_0502b_Jx35411_checkForComodification_da8c8 rfl rfl rfl (by decide +kernel) ⟨Nat.le_of_ble_eq_true rfl, Nat.le_of_ble_eq_true rfl⟩) ⟨zb_blind, va_recv hK hP (ci := 0) (q0 := 0) rfl rfl, fun U hU hW => ⟨rfl, zb_mk hU hW hPr hPc hKc hDc hN hH hS hFc zx_e⟩⟩ rfl rfl hl.1 rfl (lv_room (Nat.le_of_ble_eq_true rfl)) dJx35411_next_0502b_1 ⟨Nat.le_of_ble_eq_true rfl, Nat.le_of_ble_eq_true rfl⟩) hS (fun q _ h => hFc q h) hFc (fun u t H1 locs ht hvm hw hB hz1 hk1 hS => ?_)
  have hP := zo_K hP hk1
  refine lv_aload_n hx hb dJx35411_next_0502b_4 rfl (lv_at hl 0 rfl) ?_
  refine va_get (D := (dC, dI)) (ci := 0) (v := .int 5) (C := RJx35411) (T := TJx35411) (N := 4) hx hb hts zi_Jx35411_next_0502b_Jx35411 hown hK hP 0 rfl rfl 0 (by decide) (hts (.fieldLink RJx35411 25 "java/util/ArrayList$Itr" "cursor" "I") (by decide +kernel)) (fun _ h9 => h9) rfl dJx35411_next_0502b_5 ?_
  refine lv_istore_n (lv' := [(1, .int 5), (0, .ref it)]) hx hb dJx35411_next_0502b_8 rfl hl (by decide) rfl (fun ls hl => ?_)
  refine lv_iload_n hx hb dJx35411_next_0502b_9 rfl (lv_at hl 0 rfl) ?_
  refine lv_aload_n hx hb dJx35411_next_0502b_10 rfl (lv_at hl 1 rfl) ?_
  refine va_get (D := (dC, dI)) (ci := 0) (v := .ref h0) (C := RJx35411) (T := TJx35411) (N := 4) hx hb hts zi_Jx35411_next_0502b_Jx35411 hown hK hP 0 rfl rfl 3 (by decide) (hts (.fieldLink RJx35411 1 "java/util/ArrayList$Itr" "this$0" "Ljava/util/ArrayList;") (by decide +kernel)) (fun _ h9 => h9) rfl dJx35411_next_0502b_11 ?_
  refine va_getN (D := (dC, dI)) (ci := 1) (v := .int 10) (C := RJx4a65c) (T := TJx4a65c) (N := 3) hx hb hts zi_Jx35411_next_0502b_Jx4a65c hown hK (zo_R hR0 hS hAr) 0 rfl rfl 2 (by decide) (va_Nw.use rfl (hN.1 ("java/util/ArrayList$Itr", 28, "java/util/ArrayList", "size", "I", "java/util/ArrayList") (List.mem_of_getElem? (i := 0) rfl))) (fun _ h9 => h9) rfl dJx35411_next_0502b_14 ?_
  refine lv_icmp_lt (tgt := 28) hx hb dJx35411_next_0502b_17 (by decide) (fun _ => ?_) (fun h => absurd h (by decide))
  refine lv_aload_n hx hb dJx35411_next_0502b_28 rfl (lv_at hl 1 rfl) ?_
  refine va_get (D := (dC, dI)) (ci := 0) (v := .ref h0) (C := RJx35411) (T := TJx35411) (N := 4) hx hb hts zi_Jx35411_next_0502b_Jx35411 hown hK hP 0 rfl rfl 3 (by decide) (hts (.fieldLink RJx35411 1 "java/util/ArrayList$Itr" "this$0" "Ljava/util/ArrayList;") (by decide +kernel)) (fun _ h9 => h9) rfl dJx35411_next_0502b_29 ?_
  refine va_get (D := (dC, dI)) (ci := 1) (v := .ref oa) (C := RJx4a65c) (T := TJx4a65c) (N := 3) hx hb hts zi_Jx35411_next_0502b_Jx4a65c hown hK (zo_R hR0 hS hAr) 0 rfl rfl 1 (by decide) (hts (.fieldLink RJx35411 37 "java/util/ArrayList" "elementData" "[Ljava/lang/Object;") (by decide +kernel)) (fun _ h9 => h9) rfl dJx35411_next_0502b_32 ?_
  refine lv_astore_n (lv' := [(2, .ref oa), (1, .int 5), (0, .ref it)]) hx hb dJx35411_next_0502b_35 rfl hl (by decide) rfl (fun ls hl => ?_)
  refine lv_iload_n hx hb dJx35411_next_0502b_36 rfl (lv_at hl 1 rfl) ?_
  refine lv_aload_n hx hb dJx35411_next_0502b_37 rfl (lv_at hl 0 rfl) ?_
  refine va_alen hx hb hK (zo_R hR0 hS hAr) 1 0 rfl rfl (v := 10) (by exact rfl) dJx35411_next_0502b_38 ?_
  refine lv_icmp_lt (tgt := 50) hx hb dJx35411_next_0502b_39 (by decide) (fun _ => ?_) (fun h => absurd h (by decide))
  refine lv_aload_n hx hb dJx35411_next_0502b_50 rfl (lv_at hl 2 rfl) ?_
  refine lv_iload_n hx hb dJx35411_next_0502b_51 rfl (lv_at hl 1 rfl) ?_
  refine lv_iconst (v := 1) hx hb dJx35411_next_0502b_52 (by decide) ?_
  refine lv_iadd hx hb dJx35411_next_0502b_53 ?_
  refine zo_i (v := 6) (by decide) ?_
  refine va_put (D := (dC, dI)) (ci := 0) (v := .int 6) (ty := .int) (C := RJx35411) (T := TJx35411) (N := 4) hx hb hts zi_Jx35411_next_0502b_Jx35411 tyJx35411 tyJx35411_ok nmJx35411 hown hK hP hD hS 0 rfl rfl 0 (by decide) (hts (.fieldLink RJx35411 25 "java/util/ArrayList$Itr" "cursor" "I") (by decide +kernel)) (fun _ h9 => h9) rfl (by decide +kernel) rfl rfl (Nat.le_of_ble_eq_true rfl) dJx35411_next_0502b_54 (fun H3 locs hP hD hS => ?_)
  have hP : va_P (dC, dI) vwCl [(it, .inr (0, [.int 6, .int u5, .int u0, .ref h0]))] H3 := hP
  have hD : va_D A [(it, .inr (0, [.int 6, .int u5, .int u0, .ref h0]))] := hD
  refine lv_aload_n hx hb dJx35411_next_0502b_57 rfl (lv_at hl 0 rfl) ?_
  refine lv_aload_n hx hb dJx35411_next_0502b_58 rfl (lv_at hl 2 rfl) ?_
  refine lv_iload_n hx hb dJx35411_next_0502b_59 rfl (lv_at hl 1 rfl) ?_
  refine lv_dup_x1 hx hb dJx35411_next_0502b_60 rfl rfl ?_
  refine va_put (D := (dC, dI)) (ci := 0) (v := .int 5) (ty := .int) (C := RJx35411) (T := TJx35411) (N := 4) hx hb hts zi_Jx35411_next_0502b_Jx35411 tyJx35411 tyJx35411_ok nmJx35411 hown hK hP hD hS 0 rfl rfl 1 (by decide) (hts (.fieldLink RJx35411 13 "java/util/ArrayList$Itr" "lastRet" "I") (by decide +kernel)) (fun _ h9 => h9) rfl (by decide +kernel) rfl rfl (Nat.le_of_ble_eq_true rfl) dJx35411_next_0502b_61 (fun H4 locs hP hD hS => ?_)
  have hP : va_P (dC, dI) vwCl [(it, .inr (0, [.int 6, .int 5, .int u0, .ref h0]))] H4 := hP
  have hD : va_D A [(it, .inr (0, [.int 6, .int 5, .int u0, .ref h0]))] := hD
  refine va_aldq hx hb hK (zo_R hR0 hS hAr) 1 0 rfl rfl (by unfold vp_in; decide) dJx35411_next_0502b_64 ?_
  refine zo_q (v := .ref e1) (by rw [show Int32.toNatClampNeg 5 = 5 from by decide, ho5]; rfl) ?_
  refine W.widen (k := 0) (n := 0) (Nat.le_of_ble_eq_true rfl) (Nat.le_of_ble_eq_true rfl) ?_
  have hP9 := hP.sub (ws' := [(it, .inr (0, [.int 6, .int 5, .int u0, .ref h0]))]) [0] rfl
  have hD9 := hD.sub (ws' := [(it, .inr (0, [.int 6, .int 5, .int u0, .ref h0]))]) [0] (by decide) rfl
  have hK9 := hK.sub (tys' := []) [] rfl
  exact W.aret hx hb hr (Or.inl ⟨_, rfl⟩) (Or.inr ⟨_, rfl⟩) (fun t ht hW => ⟨⟨(), e1, rfl, trivial, ⟨rfl, by rw [ht]; exact hP9, hD9, va_K.moved hW.alike hK9⟩⟩, hS.F ht⟩) hS.2.2 dJx35411_next_0502b_65
set_option maxHeartbeats 4000000 in
set_option maxRecDepth 100000 in
theorem cz_Qnext_6_10 (l : Launch) (dC : Nat → ClassId) (dI : Nat → Nat → Nat) (ed sz : Nat) (h0 : Nat) (u0 : Int32) (oa : Nat) (cO : ClassId) (fo : Nat → Option Nat) (e1 : Nat) (it : Nat) (u5 : Int32) (ho6 : fo 6 = some e1) : Met l yJx35411_next_0502b wsJx35411_next_0502b ({ frames := 1, cells := 0, slots := 0, locals := 20 } : Jvm.Room) (va_Pc [.ref it] (zB dC dI ed sz [(h0, .inr (1, [.int u0, .ref oa, .int 10])), (oa, .inl (cO, 10, .inr (.inr (.inr (.inr fo)))))] [(it, .inr (0, [.int 6, .int u5, .int u0, .ref h0]))] [(cO, .object "java/lang/Object")])) (va_Qr (fun (_ : Unit) => True) (fun (_ : Unit) (r9 : Nat) (t : State) => (r9 = e1) ∧ va_P (dC, dI) vwCl [(it, .inr (0, [.int 7, .int 6, .int u0, .ref h0]))] t.heap ∧ va_D (va_A [(it, .inr (0, [.int 6, .int u5, .int u0, .ref h0]))] sz) [(it, .inr (0, [.int 7, .int 6, .int u0, .ref h0]))] ∧ va_K (dC, dI) vwCl [] t) (va_A [(it, .inr (0, [.int 6, .int u5, .int u0, .ref h0]))] sz)) 0 0 (va_A [(it, .inr (0, [.int 6, .int u5, .int u0, .ref h0]))] sz) := by
  refine Met.ofW (cc := cJx35411_next_0502b) (maxL := 3) (ret := (some (.object "java/lang/Object"))) (by decide) rfl ?_
  intro p e s m args below meth c s₁ B hml hv
  obtain ⟨rfl, hsz, hR0, hP, hK, hD0, hN, hH, hX0⟩ := hv
  have hx := B.exec
  have hb := B.bytes
  have hr := B.returns
  have hts := atoms_spec (ws := wsJx35411_next_0502b) B.pre
  have hown : s.vm.findClass RJx35411 = some m.cls := findClass_of_methodNamed B.named
  have hlocks := B.notSynchronized
  subst hsz
  have hD := hD0.self (sz := s.heap.size)
  have hAr := zx_A hX0 hR0
  generalize hAe : va_A [(it, .inr (0, [.int 6, .int u5, .int u0, .ref h0]))] s.heap.size = A at hD hAr hH ⊢
  have hA : ∀ q : Nat, s.heap.size ≤ q → A q := fun q h => by rw [← hAe]; exact Or.inr h
  have hS : va_S A s.heap s.heap [] := va_S.rf
  have hl := lv_entry ([.ref it]) (n := 3) (Nat.le_of_ble_eq_true rfl)
  rw [lg_entry_eq]
  generalize (lg_sl ([.ref it]) ++ List.replicate (3 - (lg_sl ([.ref it])).length) Slot.unset).toArray = ls at hl ⊢
  have hl : lv_has ls 3 [(0, .ref it)] := hl
  refine lv_aload_n hx hb dJx35411_next_0502b_0 rfl (lv_at hl 0 rfl) ?_
  have hPr := (show va_P (dC, dI) vwCl [(it, .inr (0, [.int 6, .int u5, .int u0, .ref h0])), (h0, .inr (1, [.int u0, .ref oa, .int 10]))] s.heap from (zo_cons ((hP) 0 _ rfl) (zo_cons ((hR0) 0 _ rfl) (zo_nil : va_P (dC, dI) vwCl [] s.heap))))
  have hPc := hP.sub (ws' := []) [] rfl
  have hDc := hD.sub (ws' := []) [] (by decide) rfl
  have hKc := hK.sub (tys' := []) [] rfl
  have hFc := va_free (wc := []) hD hS hA [] rfl
  refine va_callv (va_runV (As := []) (rest := []) ⟨hx, hb, hml, hown, hts⟩ (cz_Qcomod l dC dI ed s.heap.size it h0 u0 u5 6 oa 10) (cwV 0 hts gJx35411_next_0502b_Jx35411_checkForComodification_da8c8 rfl rfl rfl (by decide +kernel) ⟨Nat.le_of_ble_eq_true rfl, Nat.le_of_ble_eq_true rfl⟩) ⟨zb_blind, va_recv hK hP (ci := 0) (q0 := 0) rfl rfl, fun U hU hW => ⟨rfl, zb_mk hU hW hPr hPc hKc hDc hN hH hS hFc zx_e⟩⟩ rfl rfl hl.1 rfl (lv_room (Nat.le_of_ble_eq_true rfl)) dJx35411_next_0502b_1 ⟨Nat.le_of_ble_eq_true rfl, Nat.le_of_ble_eq_true rfl⟩) hS (fun q _ h => hFc q h) hFc (fun u t H1 locs ht hvm hw hB hz1 hk1 hS => ?_)
  have hP := zo_K hP hk1
  refine lv_aload_n hx hb dJx35411_next_0502b_4 rfl (lv_at hl 0 rfl) ?_
  refine va_get (D := (dC, dI)) (ci := 0) (v := .int 6) (C := RJx35411) (T := TJx35411) (N := 4) hx hb hts zi_Jx35411_next_0502b_Jx35411 hown hK hP 0 rfl rfl 0 (by decide) (hts (.fieldLink RJx35411 25 "java/util/ArrayList$Itr" "cursor" "I") (by decide +kernel)) (fun _ h9 => h9) rfl dJx35411_next_0502b_5 ?_
  refine lv_istore_n (lv' := [(1, .int 6), (0, .ref it)]) hx hb dJx35411_next_0502b_8 rfl hl (by decide) rfl (fun ls hl => ?_)
  refine lv_iload_n hx hb dJx35411_next_0502b_9 rfl (lv_at hl 0 rfl) ?_
  refine lv_aload_n hx hb dJx35411_next_0502b_10 rfl (lv_at hl 1 rfl) ?_
  refine va_get (D := (dC, dI)) (ci := 0) (v := .ref h0) (C := RJx35411) (T := TJx35411) (N := 4) hx hb hts zi_Jx35411_next_0502b_Jx35411 hown hK hP 0 rfl rfl 3 (by decide) (hts (.fieldLink RJx35411 1 "java/util/ArrayList$Itr" "this$0" "Ljava/util/ArrayList;") (by decide +kernel)) (fun _ h9 => h9) rfl dJx35411_next_0502b_11 ?_
  refine va_getN (D := (dC, dI)) (ci := 1) (v := .int 10) (C := RJx4a65c) (T := TJx4a65c) (N := 3) hx hb hts zi_Jx35411_next_0502b_Jx4a65c hown hK (zo_R hR0 hS hAr) 0 rfl rfl 2 (by decide) (va_Nw.use rfl (hN.1 ("java/util/ArrayList$Itr", 28, "java/util/ArrayList", "size", "I", "java/util/ArrayList") (List.mem_of_getElem? (i := 0) rfl))) (fun _ h9 => h9) rfl dJx35411_next_0502b_14 ?_
  refine lv_icmp_lt (tgt := 28) hx hb dJx35411_next_0502b_17 (by decide) (fun _ => ?_) (fun h => absurd h (by decide))
  refine lv_aload_n hx hb dJx35411_next_0502b_28 rfl (lv_at hl 1 rfl) ?_
  refine va_get (D := (dC, dI)) (ci := 0) (v := .ref h0) (C := RJx35411) (T := TJx35411) (N := 4) hx hb hts zi_Jx35411_next_0502b_Jx35411 hown hK hP 0 rfl rfl 3 (by decide) (hts (.fieldLink RJx35411 1 "java/util/ArrayList$Itr" "this$0" "Ljava/util/ArrayList;") (by decide +kernel)) (fun _ h9 => h9) rfl dJx35411_next_0502b_29 ?_
  refine va_get (D := (dC, dI)) (ci := 1) (v := .ref oa) (C := RJx4a65c) (T := TJx4a65c) (N := 3) hx hb hts zi_Jx35411_next_0502b_Jx4a65c hown hK (zo_R hR0 hS hAr) 0 rfl rfl 1 (by decide) (hts (.fieldLink RJx35411 37 "java/util/ArrayList" "elementData" "[Ljava/lang/Object;") (by decide +kernel)) (fun _ h9 => h9) rfl dJx35411_next_0502b_32 ?_
  refine lv_astore_n (lv' := [(2, .ref oa), (1, .int 6), (0, .ref it)]) hx hb dJx35411_next_0502b_35 rfl hl (by decide) rfl (fun ls hl => ?_)
  refine lv_iload_n hx hb dJx35411_next_0502b_36 rfl (lv_at hl 1 rfl) ?_
  refine lv_aload_n hx hb dJx35411_next_0502b_37 rfl (lv_at hl 0 rfl) ?_
  refine va_alen hx hb hK (zo_R hR0 hS hAr) 1 0 rfl rfl (v := 10) (by exact rfl) dJx35411_next_0502b_38 ?_
  refine lv_icmp_lt (tgt := 50) hx hb dJx35411_next_0502b_39 (by decide) (fun _ => ?_) (fun h => absurd h (by decide))
  refine lv_aload_n hx hb dJx35411_next_0502b_50 rfl (lv_at hl 2 rfl) ?_
  refine lv_iload_n hx hb dJx35411_next_0502b_51 rfl (lv_at hl 1 rfl) ?_
  refine lv_iconst (v := 1) hx hb dJx35411_next_0502b_52 (by decide) ?_
  refine lv_iadd hx hb dJx35411_next_0502b_53 ?_
  refine zo_i (v := 7) (by decide) ?_
  refine va_put (D := (dC, dI)) (ci := 0) (v := .int 7) (ty := .int) (C := RJx35411) (T := TJx35411) (N := 4) hx hb hts zi_Jx35411_next_0502b_Jx35411 tyJx35411 tyJx35411_ok nmJx35411 hown hK hP hD hS 0 rfl rfl 0 (by decide) (hts (.fieldLink RJx35411 25 "java/util/ArrayList$Itr" "cursor" "I") (by decide +kernel)) (fun _ h9 => h9) rfl (by decide +kernel) rfl rfl (Nat.le_of_ble_eq_true rfl) dJx35411_next_0502b_54 (fun H3 locs hP hD hS => ?_)
  have hP : va_P (dC, dI) vwCl [(it, .inr (0, [.int 7, .int u5, .int u0, .ref h0]))] H3 := hP
  have hD : va_D A [(it, .inr (0, [.int 7, .int u5, .int u0, .ref h0]))] := hD
  refine lv_aload_n hx hb dJx35411_next_0502b_57 rfl (lv_at hl 0 rfl) ?_
  refine lv_aload_n hx hb dJx35411_next_0502b_58 rfl (lv_at hl 2 rfl) ?_
  refine lv_iload_n hx hb dJx35411_next_0502b_59 rfl (lv_at hl 1 rfl) ?_
  refine lv_dup_x1 hx hb dJx35411_next_0502b_60 rfl rfl ?_
  refine va_put (D := (dC, dI)) (ci := 0) (v := .int 6) (ty := .int) (C := RJx35411) (T := TJx35411) (N := 4) hx hb hts zi_Jx35411_next_0502b_Jx35411 tyJx35411 tyJx35411_ok nmJx35411 hown hK hP hD hS 0 rfl rfl 1 (by decide) (hts (.fieldLink RJx35411 13 "java/util/ArrayList$Itr" "lastRet" "I") (by decide +kernel)) (fun _ h9 => h9) rfl (by decide +kernel) rfl rfl (Nat.le_of_ble_eq_true rfl) dJx35411_next_0502b_61 (fun H4 locs hP hD hS => ?_)
  have hP : va_P (dC, dI) vwCl [(it, .inr (0, [.int 7, .int 6, .int u0, .ref h0]))] H4 := hP
  have hD : va_D A [(it, .inr (0, [.int 7, .int 6, .int u0, .ref h0]))] := hD
  refine va_aldq hx hb hK (zo_R hR0 hS hAr) 1 0 rfl rfl (by unfold vp_in; decide) dJx35411_next_0502b_64 ?_
  refine zo_q (v := .ref e1) (by rw [show Int32.toNatClampNeg 6 = 6 from by decide, ho6]; rfl) ?_
  refine W.widen (k := 0) (n := 0) (Nat.le_of_ble_eq_true rfl) (Nat.le_of_ble_eq_true rfl) ?_
  have hP9 := hP.sub (ws' := [(it, .inr (0, [.int 7, .int 6, .int u0, .ref h0]))]) [0] rfl
  have hD9 := hD.sub (ws' := [(it, .inr (0, [.int 7, .int 6, .int u0, .ref h0]))]) [0] (by decide) rfl
  have hK9 := hK.sub (tys' := []) [] rfl
  exact W.aret hx hb hr (Or.inl ⟨_, rfl⟩) (Or.inr ⟨_, rfl⟩) (fun t ht hW => ⟨⟨(), e1, rfl, trivial, ⟨rfl, by rw [ht]; exact hP9, hD9, va_K.moved hW.alike hK9⟩⟩, hS.F ht⟩) hS.2.2 dJx35411_next_0502b_65
set_option maxHeartbeats 4000000 in
set_option maxRecDepth 100000 in
theorem cz_Qnext_7_10 (l : Launch) (dC : Nat → ClassId) (dI : Nat → Nat → Nat) (ed sz : Nat) (h0 : Nat) (u0 : Int32) (oa : Nat) (cO : ClassId) (fo : Nat → Option Nat) (e1 : Nat) (it : Nat) (u5 : Int32) (ho7 : fo 7 = some e1) : Met l yJx35411_next_0502b wsJx35411_next_0502b ({ frames := 1, cells := 0, slots := 0, locals := 20 } : Jvm.Room) (va_Pc [.ref it] (zB dC dI ed sz [(h0, .inr (1, [.int u0, .ref oa, .int 10])), (oa, .inl (cO, 10, .inr (.inr (.inr (.inr fo)))))] [(it, .inr (0, [.int 7, .int u5, .int u0, .ref h0]))] [(cO, .object "java/lang/Object")])) (va_Qr (fun (_ : Unit) => True) (fun (_ : Unit) (r9 : Nat) (t : State) => (r9 = e1) ∧ va_P (dC, dI) vwCl [(it, .inr (0, [.int 8, .int 7, .int u0, .ref h0]))] t.heap ∧ va_D (va_A [(it, .inr (0, [.int 7, .int u5, .int u0, .ref h0]))] sz) [(it, .inr (0, [.int 8, .int 7, .int u0, .ref h0]))] ∧ va_K (dC, dI) vwCl [] t) (va_A [(it, .inr (0, [.int 7, .int u5, .int u0, .ref h0]))] sz)) 0 0 (va_A [(it, .inr (0, [.int 7, .int u5, .int u0, .ref h0]))] sz) := by
  refine Met.ofW (cc := cJx35411_next_0502b) (maxL := 3) (ret := (some (.object "java/lang/Object"))) (by decide) rfl ?_
  intro p e s m args below meth c s₁ B hml hv
  obtain ⟨rfl, hsz, hR0, hP, hK, hD0, hN, hH, hX0⟩ := hv
  have hx := B.exec
  have hb := B.bytes
  have hr := B.returns
  have hts := atoms_spec (ws := wsJx35411_next_0502b) B.pre
  have hown : s.vm.findClass RJx35411 = some m.cls := findClass_of_methodNamed B.named
  have hlocks := B.notSynchronized
  subst hsz
  have hD := hD0.self (sz := s.heap.size)
  have hAr := zx_A hX0 hR0
  generalize hAe : va_A [(it, .inr (0, [.int 7, .int u5, .int u0, .ref h0]))] s.heap.size = A at hD hAr hH ⊢
  have hA : ∀ q : Nat, s.heap.size ≤ q → A q := fun q h => by rw [← hAe]; exact Or.inr h
  have hS : va_S A s.heap s.heap [] := va_S.rf
  have hl := lv_entry ([.ref it]) (n := 3) (Nat.le_of_ble_eq_true rfl)
  rw [lg_entry_eq]
  generalize (lg_sl ([.ref it]) ++ List.replicate (3 - (lg_sl ([.ref it])).length) Slot.unset).toArray = ls at hl ⊢
  have hl : lv_has ls 3 [(0, .ref it)] := hl
  refine lv_aload_n hx hb dJx35411_next_0502b_0 rfl (lv_at hl 0 rfl) ?_
  have hPr := (show va_P (dC, dI) vwCl [(it, .inr (0, [.int 7, .int u5, .int u0, .ref h0])), (h0, .inr (1, [.int u0, .ref oa, .int 10]))] s.heap from (zo_cons ((hP) 0 _ rfl) (zo_cons ((hR0) 0 _ rfl) (zo_nil : va_P (dC, dI) vwCl [] s.heap))))
  have hPc := hP.sub (ws' := []) [] rfl
  have hDc := hD.sub (ws' := []) [] (by decide) rfl
  have hKc := hK.sub (tys' := []) [] rfl
  have hFc := va_free (wc := []) hD hS hA [] rfl
  refine va_callv (va_runV (As := []) (rest := []) ⟨hx, hb, hml, hown, hts⟩ (cz_Qcomod l dC dI ed s.heap.size it h0 u0 u5 7 oa 10) (cwV 0 hts gJx35411_next_0502b_Jx35411_checkForComodification_da8c8 rfl rfl rfl (by decide +kernel) ⟨Nat.le_of_ble_eq_true rfl, Nat.le_of_ble_eq_true rfl⟩) ⟨zb_blind, va_recv hK hP (ci := 0) (q0 := 0) rfl rfl, fun U hU hW => ⟨rfl, zb_mk hU hW hPr hPc hKc hDc hN hH hS hFc zx_e⟩⟩ rfl rfl hl.1 rfl (lv_room (Nat.le_of_ble_eq_true rfl)) dJx35411_next_0502b_1 ⟨Nat.le_of_ble_eq_true rfl, Nat.le_of_ble_eq_true rfl⟩) hS (fun q _ h => hFc q h) hFc (fun u t H1 locs ht hvm hw hB hz1 hk1 hS => ?_)
  have hP := zo_K hP hk1
  refine lv_aload_n hx hb dJx35411_next_0502b_4 rfl (lv_at hl 0 rfl) ?_
  refine va_get (D := (dC, dI)) (ci := 0) (v := .int 7) (C := RJx35411) (T := TJx35411) (N := 4) hx hb hts zi_Jx35411_next_0502b_Jx35411 hown hK hP 0 rfl rfl 0 (by decide) (hts (.fieldLink RJx35411 25 "java/util/ArrayList$Itr" "cursor" "I") (by decide +kernel)) (fun _ h9 => h9) rfl dJx35411_next_0502b_5 ?_
  refine lv_istore_n (lv' := [(1, .int 7), (0, .ref it)]) hx hb dJx35411_next_0502b_8 rfl hl (by decide) rfl (fun ls hl => ?_)
  refine lv_iload_n hx hb dJx35411_next_0502b_9 rfl (lv_at hl 0 rfl) ?_
  refine lv_aload_n hx hb dJx35411_next_0502b_10 rfl (lv_at hl 1 rfl) ?_
  refine va_get (D := (dC, dI)) (ci := 0) (v := .ref h0) (C := RJx35411) (T := TJx35411) (N := 4) hx hb hts zi_Jx35411_next_0502b_Jx35411 hown hK hP 0 rfl rfl 3 (by decide) (hts (.fieldLink RJx35411 1 "java/util/ArrayList$Itr" "this$0" "Ljava/util/ArrayList;") (by decide +kernel)) (fun _ h9 => h9) rfl dJx35411_next_0502b_11 ?_
  refine va_getN (D := (dC, dI)) (ci := 1) (v := .int 10) (C := RJx4a65c) (T := TJx4a65c) (N := 3) hx hb hts zi_Jx35411_next_0502b_Jx4a65c hown hK (zo_R hR0 hS hAr) 0 rfl rfl 2 (by decide) (va_Nw.use rfl (hN.1 ("java/util/ArrayList$Itr", 28, "java/util/ArrayList", "size", "I", "java/util/ArrayList") (List.mem_of_getElem? (i := 0) rfl))) (fun _ h9 => h9) rfl dJx35411_next_0502b_14 ?_
  refine lv_icmp_lt (tgt := 28) hx hb dJx35411_next_0502b_17 (by decide) (fun _ => ?_) (fun h => absurd h (by decide))
  refine lv_aload_n hx hb dJx35411_next_0502b_28 rfl (lv_at hl 1 rfl) ?_
  refine va_get (D := (dC, dI)) (ci := 0) (v := .ref h0) (C := RJx35411) (T := TJx35411) (N := 4) hx hb hts zi_Jx35411_next_0502b_Jx35411 hown hK hP 0 rfl rfl 3 (by decide) (hts (.fieldLink RJx35411 1 "java/util/ArrayList$Itr" "this$0" "Ljava/util/ArrayList;") (by decide +kernel)) (fun _ h9 => h9) rfl dJx35411_next_0502b_29 ?_
  refine va_get (D := (dC, dI)) (ci := 1) (v := .ref oa) (C := RJx4a65c) (T := TJx4a65c) (N := 3) hx hb hts zi_Jx35411_next_0502b_Jx4a65c hown hK (zo_R hR0 hS hAr) 0 rfl rfl 1 (by decide) (hts (.fieldLink RJx35411 37 "java/util/ArrayList" "elementData" "[Ljava/lang/Object;") (by decide +kernel)) (fun _ h9 => h9) rfl dJx35411_next_0502b_32 ?_
  refine lv_astore_n (lv' := [(2, .ref oa), (1, .int 7), (0, .ref it)]) hx hb dJx35411_next_0502b_35 rfl hl (by decide) rfl (fun ls hl => ?_)
  refine lv_iload_n hx hb dJx35411_next_0502b_36 rfl (lv_at hl 1 rfl) ?_
  refine lv_aload_n hx hb dJx35411_next_0502b_37 rfl (lv_at hl 0 rfl) ?_
  refine va_alen hx hb hK (zo_R hR0 hS hAr) 1 0 rfl rfl (v := 10) (by exact rfl) dJx35411_next_0502b_38 ?_
  refine lv_icmp_lt (tgt := 50) hx hb dJx35411_next_0502b_39 (by decide) (fun _ => ?_) (fun h => absurd h (by decide))
  refine lv_aload_n hx hb dJx35411_next_0502b_50 rfl (lv_at hl 2 rfl) ?_
  refine lv_iload_n hx hb dJx35411_next_0502b_51 rfl (lv_at hl 1 rfl) ?_
  refine lv_iconst (v := 1) hx hb dJx35411_next_0502b_52 (by decide) ?_
  refine lv_iadd hx hb dJx35411_next_0502b_53 ?_
  refine zo_i (v := 8) (by decide) ?_
  refine va_put (D := (dC, dI)) (ci := 0) (v := .int 8) (ty := .int) (C := RJx35411) (T := TJx35411) (N := 4) hx hb hts zi_Jx35411_next_0502b_Jx35411 tyJx35411 tyJx35411_ok nmJx35411 hown hK hP hD hS 0 rfl rfl 0 (by decide) (hts (.fieldLink RJx35411 25 "java/util/ArrayList$Itr" "cursor" "I") (by decide +kernel)) (fun _ h9 => h9) rfl (by decide +kernel) rfl rfl (Nat.le_of_ble_eq_true rfl) dJx35411_next_0502b_54 (fun H3 locs hP hD hS => ?_)
  have hP : va_P (dC, dI) vwCl [(it, .inr (0, [.int 8, .int u5, .int u0, .ref h0]))] H3 := hP
  have hD : va_D A [(it, .inr (0, [.int 8, .int u5, .int u0, .ref h0]))] := hD
  refine lv_aload_n hx hb dJx35411_next_0502b_57 rfl (lv_at hl 0 rfl) ?_
  refine lv_aload_n hx hb dJx35411_next_0502b_58 rfl (lv_at hl 2 rfl) ?_
  refine lv_iload_n hx hb dJx35411_next_0502b_59 rfl (lv_at hl 1 rfl) ?_
  refine lv_dup_x1 hx hb dJx35411_next_0502b_60 rfl rfl ?_
  refine va_put (D := (dC, dI)) (ci := 0) (v := .int 7) (ty := .int) (C := RJx35411) (T := TJx35411) (N := 4) hx hb hts zi_Jx35411_next_0502b_Jx35411 tyJx35411 tyJx35411_ok nmJx35411 hown hK hP hD hS 0 rfl rfl 1 (by decide) (hts (.fieldLink RJx35411 13 "java/util/ArrayList$Itr" "lastRet" "I") (by decide +kernel)) (fun _ h9 => h9) rfl (by decide +kernel) rfl rfl (Nat.le_of_ble_eq_true rfl) dJx35411_next_0502b_61 (fun H4 locs hP hD hS => ?_)
  have hP : va_P (dC, dI) vwCl [(it, .inr (0, [.int 8, .int 7, .int u0, .ref h0]))] H4 := hP
  have hD : va_D A [(it, .inr (0, [.int 8, .int 7, .int u0, .ref h0]))] := hD
  refine va_aldq hx hb hK (zo_R hR0 hS hAr) 1 0 rfl rfl (by unfold vp_in; decide) dJx35411_next_0502b_64 ?_
  refine zo_q (v := .ref e1) (by rw [show Int32.toNatClampNeg 7 = 7 from by decide, ho7]; rfl) ?_
  refine W.widen (k := 0) (n := 0) (Nat.le_of_ble_eq_true rfl) (Nat.le_of_ble_eq_true rfl) ?_
  have hP9 := hP.sub (ws' := [(it, .inr (0, [.int 8, .int 7, .int u0, .ref h0]))]) [0] rfl
  have hD9 := hD.sub (ws' := [(it, .inr (0, [.int 8, .int 7, .int u0, .ref h0]))]) [0] (by decide) rfl
  have hK9 := hK.sub (tys' := []) [] rfl
  exact W.aret hx hb hr (Or.inl ⟨_, rfl⟩) (Or.inr ⟨_, rfl⟩) (fun t ht hW => ⟨⟨(), e1, rfl, trivial, ⟨rfl, by rw [ht]; exact hP9, hD9, va_K.moved hW.alike hK9⟩⟩, hS.F ht⟩) hS.2.2 dJx35411_next_0502b_65
set_option maxHeartbeats 4000000 in
set_option maxRecDepth 100000 in
theorem cz_Qnext_8_10 (l : Launch) (dC : Nat → ClassId) (dI : Nat → Nat → Nat) (ed sz : Nat) (h0 : Nat) (u0 : Int32) (oa : Nat) (cO : ClassId) (fo : Nat → Option Nat) (e1 : Nat) (it : Nat) (u5 : Int32) (ho8 : fo 8 = some e1) : Met l yJx35411_next_0502b wsJx35411_next_0502b ({ frames := 1, cells := 0, slots := 0, locals := 20 } : Jvm.Room) (va_Pc [.ref it] (zB dC dI ed sz [(h0, .inr (1, [.int u0, .ref oa, .int 10])), (oa, .inl (cO, 10, .inr (.inr (.inr (.inr fo)))))] [(it, .inr (0, [.int 8, .int u5, .int u0, .ref h0]))] [(cO, .object "java/lang/Object")])) (va_Qr (fun (_ : Unit) => True) (fun (_ : Unit) (r9 : Nat) (t : State) => (r9 = e1) ∧ va_P (dC, dI) vwCl [(it, .inr (0, [.int 9, .int 8, .int u0, .ref h0]))] t.heap ∧ va_D (va_A [(it, .inr (0, [.int 8, .int u5, .int u0, .ref h0]))] sz) [(it, .inr (0, [.int 9, .int 8, .int u0, .ref h0]))] ∧ va_K (dC, dI) vwCl [] t) (va_A [(it, .inr (0, [.int 8, .int u5, .int u0, .ref h0]))] sz)) 0 0 (va_A [(it, .inr (0, [.int 8, .int u5, .int u0, .ref h0]))] sz) := by
  refine Met.ofW (cc := cJx35411_next_0502b) (maxL := 3) (ret := (some (.object "java/lang/Object"))) (by decide) rfl ?_
  intro p e s m args below meth c s₁ B hml hv
  obtain ⟨rfl, hsz, hR0, hP, hK, hD0, hN, hH, hX0⟩ := hv
  have hx := B.exec
  have hb := B.bytes
  have hr := B.returns
  have hts := atoms_spec (ws := wsJx35411_next_0502b) B.pre
  have hown : s.vm.findClass RJx35411 = some m.cls := findClass_of_methodNamed B.named
  have hlocks := B.notSynchronized
  subst hsz
  have hD := hD0.self (sz := s.heap.size)
  have hAr := zx_A hX0 hR0
  generalize hAe : va_A [(it, .inr (0, [.int 8, .int u5, .int u0, .ref h0]))] s.heap.size = A at hD hAr hH ⊢
  have hA : ∀ q : Nat, s.heap.size ≤ q → A q := fun q h => by rw [← hAe]; exact Or.inr h
  have hS : va_S A s.heap s.heap [] := va_S.rf
  have hl := lv_entry ([.ref it]) (n := 3) (Nat.le_of_ble_eq_true rfl)
  rw [lg_entry_eq]
  generalize (lg_sl ([.ref it]) ++ List.replicate (3 - (lg_sl ([.ref it])).length) Slot.unset).toArray = ls at hl ⊢
  have hl : lv_has ls 3 [(0, .ref it)] := hl
  refine lv_aload_n hx hb dJx35411_next_0502b_0 rfl (lv_at hl 0 rfl) ?_
  have hPr := (show va_P (dC, dI) vwCl [(it, .inr (0, [.int 8, .int u5, .int u0, .ref h0])), (h0, .inr (1, [.int u0, .ref oa, .int 10]))] s.heap from (zo_cons ((hP) 0 _ rfl) (zo_cons ((hR0) 0 _ rfl) (zo_nil : va_P (dC, dI) vwCl [] s.heap))))
  have hPc := hP.sub (ws' := []) [] rfl
  have hDc := hD.sub (ws' := []) [] (by decide) rfl
  have hKc := hK.sub (tys' := []) [] rfl
  have hFc := va_free (wc := []) hD hS hA [] rfl
  refine va_callv (va_runV (As := []) (rest := []) ⟨hx, hb, hml, hown, hts⟩ (cz_Qcomod l dC dI ed s.heap.size it h0 u0 u5 8 oa 10) (cwV 0 hts gJx35411_next_0502b_Jx35411_checkForComodification_da8c8 rfl rfl rfl (by decide +kernel) ⟨Nat.le_of_ble_eq_true rfl, Nat.le_of_ble_eq_true rfl⟩) ⟨zb_blind, va_recv hK hP (ci := 0) (q0 := 0) rfl rfl, fun U hU hW => ⟨rfl, zb_mk hU hW hPr hPc hKc hDc hN hH hS hFc zx_e⟩⟩ rfl rfl hl.1 rfl (lv_room (Nat.le_of_ble_eq_true rfl)) dJx35411_next_0502b_1 ⟨Nat.le_of_ble_eq_true rfl, Nat.le_of_ble_eq_true rfl⟩) hS (fun q _ h => hFc q h) hFc (fun u t H1 locs ht hvm hw hB hz1 hk1 hS => ?_)
  have hP := zo_K hP hk1
  refine lv_aload_n hx hb dJx35411_next_0502b_4 rfl (lv_at hl 0 rfl) ?_
  refine va_get (D := (dC, dI)) (ci := 0) (v := .int 8) (C := RJx35411) (T := TJx35411) (N := 4) hx hb hts zi_Jx35411_next_0502b_Jx35411 hown hK hP 0 rfl rfl 0 (by decide) (hts (.fieldLink RJx35411 25 "java/util/ArrayList$Itr" "cursor" "I") (by decide +kernel)) (fun _ h9 => h9) rfl dJx35411_next_0502b_5 ?_
  refine lv_istore_n (lv' := [(1, .int 8), (0, .ref it)]) hx hb dJx35411_next_0502b_8 rfl hl (by decide) rfl (fun ls hl => ?_)
  refine lv_iload_n hx hb dJx35411_next_0502b_9 rfl (lv_at hl 0 rfl) ?_
  refine lv_aload_n hx hb dJx35411_next_0502b_10 rfl (lv_at hl 1 rfl) ?_
  refine va_get (D := (dC, dI)) (ci := 0) (v := .ref h0) (C := RJx35411) (T := TJx35411) (N := 4) hx hb hts zi_Jx35411_next_0502b_Jx35411 hown hK hP 0 rfl rfl 3 (by decide) (hts (.fieldLink RJx35411 1 "java/util/ArrayList$Itr" "this$0" "Ljava/util/ArrayList;") (by decide +kernel)) (fun _ h9 => h9) rfl dJx35411_next_0502b_11 ?_
  refine va_getN (D := (dC, dI)) (ci := 1) (v := .int 10) (C := RJx4a65c) (T := TJx4a65c) (N := 3) hx hb hts zi_Jx35411_next_0502b_Jx4a65c hown hK (zo_R hR0 hS hAr) 0 rfl rfl 2 (by decide) (va_Nw.use rfl (hN.1 ("java/util/ArrayList$Itr", 28, "java/util/ArrayList", "size", "I", "java/util/ArrayList") (List.mem_of_getElem? (i := 0) rfl))) (fun _ h9 => h9) rfl dJx35411_next_0502b_14 ?_
  refine lv_icmp_lt (tgt := 28) hx hb dJx35411_next_0502b_17 (by decide) (fun _ => ?_) (fun h => absurd h (by decide))
  refine lv_aload_n hx hb dJx35411_next_0502b_28 rfl (lv_at hl 1 rfl) ?_
  refine va_get (D := (dC, dI)) (ci := 0) (v := .ref h0) (C := RJx35411) (T := TJx35411) (N := 4) hx hb hts zi_Jx35411_next_0502b_Jx35411 hown hK hP 0 rfl rfl 3 (by decide) (hts (.fieldLink RJx35411 1 "java/util/ArrayList$Itr" "this$0" "Ljava/util/ArrayList;") (by decide +kernel)) (fun _ h9 => h9) rfl dJx35411_next_0502b_29 ?_
  refine va_get (D := (dC, dI)) (ci := 1) (v := .ref oa) (C := RJx4a65c) (T := TJx4a65c) (N := 3) hx hb hts zi_Jx35411_next_0502b_Jx4a65c hown hK (zo_R hR0 hS hAr) 0 rfl rfl 1 (by decide) (hts (.fieldLink RJx35411 37 "java/util/ArrayList" "elementData" "[Ljava/lang/Object;") (by decide +kernel)) (fun _ h9 => h9) rfl dJx35411_next_0502b_32 ?_
  refine lv_astore_n (lv' := [(2, .ref oa), (1, .int 8), (0, .ref it)]) hx hb dJx35411_next_0502b_35 rfl hl (by decide) rfl (fun ls hl => ?_)
  refine lv_iload_n hx hb dJx35411_next_0502b_36 rfl (lv_at hl 1 rfl) ?_
  refine lv_aload_n hx hb dJx35411_next_0502b_37 rfl (lv_at hl 0 rfl) ?_
  refine va_alen hx hb hK (zo_R hR0 hS hAr) 1 0 rfl rfl (v := 10) (by exact rfl) dJx35411_next_0502b_38 ?_
  refine lv_icmp_lt (tgt := 50) hx hb dJx35411_next_0502b_39 (by decide) (fun _ => ?_) (fun h => absurd h (by decide))
  refine lv_aload_n hx hb dJx35411_next_0502b_50 rfl (lv_at hl 2 rfl) ?_
  refine lv_iload_n hx hb dJx35411_next_0502b_51 rfl (lv_at hl 1 rfl) ?_
  refine lv_iconst (v := 1) hx hb dJx35411_next_0502b_52 (by decide) ?_
  refine lv_iadd hx hb dJx35411_next_0502b_53 ?_
  refine zo_i (v := 9) (by decide) ?_
  refine va_put (D := (dC, dI)) (ci := 0) (v := .int 9) (ty := .int) (C := RJx35411) (T := TJx35411) (N := 4) hx hb hts zi_Jx35411_next_0502b_Jx35411 tyJx35411 tyJx35411_ok nmJx35411 hown hK hP hD hS 0 rfl rfl 0 (by decide) (hts (.fieldLink RJx35411 25 "java/util/ArrayList$Itr" "cursor" "I") (by decide +kernel)) (fun _ h9 => h9) rfl (by decide +kernel) rfl rfl (Nat.le_of_ble_eq_true rfl) dJx35411_next_0502b_54 (fun H3 locs hP hD hS => ?_)
  have hP : va_P (dC, dI) vwCl [(it, .inr (0, [.int 9, .int u5, .int u0, .ref h0]))] H3 := hP
  have hD : va_D A [(it, .inr (0, [.int 9, .int u5, .int u0, .ref h0]))] := hD
  refine lv_aload_n hx hb dJx35411_next_0502b_57 rfl (lv_at hl 0 rfl) ?_
  refine lv_aload_n hx hb dJx35411_next_0502b_58 rfl (lv_at hl 2 rfl) ?_
  refine lv_iload_n hx hb dJx35411_next_0502b_59 rfl (lv_at hl 1 rfl) ?_
  refine lv_dup_x1 hx hb dJx35411_next_0502b_60 rfl rfl ?_
  refine va_put (D := (dC, dI)) (ci := 0) (v := .int 8) (ty := .int) (C := RJx35411) (T := TJx35411) (N := 4) hx hb hts zi_Jx35411_next_0502b_Jx35411 tyJx35411 tyJx35411_ok nmJx35411 hown hK hP hD hS 0 rfl rfl 1 (by decide) (hts (.fieldLink RJx35411 13 "java/util/ArrayList$Itr" "lastRet" "I") (by decide +kernel)) (fun _ h9 => h9) rfl (by decide +kernel) rfl rfl (Nat.le_of_ble_eq_true rfl) dJx35411_next_0502b_61 (fun H4 locs hP hD hS => ?_)
  have hP : va_P (dC, dI) vwCl [(it, .inr (0, [.int 9, .int 8, .int u0, .ref h0]))] H4 := hP
  have hD : va_D A [(it, .inr (0, [.int 9, .int 8, .int u0, .ref h0]))] := hD
  refine va_aldq hx hb hK (zo_R hR0 hS hAr) 1 0 rfl rfl (by unfold vp_in; decide) dJx35411_next_0502b_64 ?_
  refine zo_q (v := .ref e1) (by rw [show Int32.toNatClampNeg 8 = 8 from by decide, ho8]; rfl) ?_
  refine W.widen (k := 0) (n := 0) (Nat.le_of_ble_eq_true rfl) (Nat.le_of_ble_eq_true rfl) ?_
  have hP9 := hP.sub (ws' := [(it, .inr (0, [.int 9, .int 8, .int u0, .ref h0]))]) [0] rfl
  have hD9 := hD.sub (ws' := [(it, .inr (0, [.int 9, .int 8, .int u0, .ref h0]))]) [0] (by decide) rfl
  have hK9 := hK.sub (tys' := []) [] rfl
  exact W.aret hx hb hr (Or.inl ⟨_, rfl⟩) (Or.inr ⟨_, rfl⟩) (fun t ht hW => ⟨⟨(), e1, rfl, trivial, ⟨rfl, by rw [ht]; exact hP9, hD9, va_K.moved hW.alike hK9⟩⟩, hS.F ht⟩) hS.2.2 dJx35411_next_0502b_65
set_option maxHeartbeats 4000000 in
set_option maxRecDepth 100000 in
theorem cz_Qnext_9_10 (l : Launch) (dC : Nat → ClassId) (dI : Nat → Nat → Nat) (ed sz : Nat) (h0 : Nat) (u0 : Int32) (oa : Nat) (cO : ClassId) (fo : Nat → Option Nat) (e1 : Nat) (it : Nat) (u5 : Int32) (ho9 : fo 9 = some e1) : Met l yJx35411_next_0502b wsJx35411_next_0502b ({ frames := 1, cells := 0, slots := 0, locals := 20 } : Jvm.Room) (va_Pc [.ref it] (zB dC dI ed sz [(h0, .inr (1, [.int u0, .ref oa, .int 10])), (oa, .inl (cO, 10, .inr (.inr (.inr (.inr fo)))))] [(it, .inr (0, [.int 9, .int u5, .int u0, .ref h0]))] [(cO, .object "java/lang/Object")])) (va_Qr (fun (_ : Unit) => True) (fun (_ : Unit) (r9 : Nat) (t : State) => (r9 = e1) ∧ va_P (dC, dI) vwCl [(it, .inr (0, [.int 10, .int 9, .int u0, .ref h0]))] t.heap ∧ va_D (va_A [(it, .inr (0, [.int 9, .int u5, .int u0, .ref h0]))] sz) [(it, .inr (0, [.int 10, .int 9, .int u0, .ref h0]))] ∧ va_K (dC, dI) vwCl [] t) (va_A [(it, .inr (0, [.int 9, .int u5, .int u0, .ref h0]))] sz)) 0 0 (va_A [(it, .inr (0, [.int 9, .int u5, .int u0, .ref h0]))] sz) := by
  refine Met.ofW (cc := cJx35411_next_0502b) (maxL := 3) (ret := (some (.object "java/lang/Object"))) (by decide) rfl ?_
  intro p e s m args below meth c s₁ B hml hv
  obtain ⟨rfl, hsz, hR0, hP, hK, hD0, hN, hH, hX0⟩ := hv
  have hx := B.exec
  have hb := B.bytes
  have hr := B.returns
  have hts := atoms_spec (ws := wsJx35411_next_0502b) B.pre
  have hown : s.vm.findClass RJx35411 = some m.cls := findClass_of_methodNamed B.named
  have hlocks := B.notSynchronized
  subst hsz
  have hD := hD0.self (sz := s.heap.size)
  have hAr := zx_A hX0 hR0
  generalize hAe : va_A [(it, .inr (0, [.int 9, .int u5, .int u0, .ref h0]))] s.heap.size = A at hD hAr hH ⊢
  have hA : ∀ q : Nat, s.heap.size ≤ q → A q := fun q h => by rw [← hAe]; exact Or.inr h
  have hS : va_S A s.heap s.heap [] := va_S.rf
  have hl := lv_entry ([.ref it]) (n := 3) (Nat.le_of_ble_eq_true rfl)
  rw [lg_entry_eq]
  generalize (lg_sl ([.ref it]) ++ List.replicate (3 - (lg_sl ([.ref it])).length) Slot.unset).toArray = ls at hl ⊢
  have hl : lv_has ls 3 [(0, .ref it)] := hl
  refine lv_aload_n hx hb dJx35411_next_0502b_0 rfl (lv_at hl 0 rfl) ?_
  have hPr := (show va_P (dC, dI) vwCl [(it, .inr (0, [.int 9, .int u5, .int u0, .ref h0])), (h0, .inr (1, [.int u0, .ref oa, .int 10]))] s.heap from (zo_cons ((hP) 0 _ rfl) (zo_cons ((hR0) 0 _ rfl) (zo_nil : va_P (dC, dI) vwCl [] s.heap))))
  have hPc := hP.sub (ws' := []) [] rfl
  have hDc := hD.sub (ws' := []) [] (by decide) rfl
  have hKc := hK.sub (tys' := []) [] rfl
  have hFc := va_free (wc := []) hD hS hA [] rfl
  refine va_callv (va_runV (As := []) (rest := []) ⟨hx, hb, hml, hown, hts⟩ (cz_Qcomod l dC dI ed s.heap.size it h0 u0 u5 9 oa 10) (cwV 0 hts gJx35411_next_0502b_Jx35411_checkForComodification_da8c8 rfl rfl rfl (by decide +kernel) ⟨Nat.le_of_ble_eq_true rfl, Nat.le_of_ble_eq_true rfl⟩) ⟨zb_blind, va_recv hK hP (ci := 0) (q0 := 0) rfl rfl, fun U hU hW => ⟨rfl, zb_mk hU hW hPr hPc hKc hDc hN hH hS hFc zx_e⟩⟩ rfl rfl hl.1 rfl (lv_room (Nat.le_of_ble_eq_true rfl)) dJx35411_next_0502b_1 ⟨Nat.le_of_ble_eq_true rfl, Nat.le_of_ble_eq_true rfl⟩) hS (fun q _ h => hFc q h) hFc (fun u t H1 locs ht hvm hw hB hz1 hk1 hS => ?_)
  have hP := zo_K hP hk1
  refine lv_aload_n hx hb dJx35411_next_0502b_4 rfl (lv_at hl 0 rfl) ?_
  refine va_get (D := (dC, dI)) (ci := 0) (v := .int 9) (C := RJx35411) (T := TJx35411) (N := 4) hx hb hts zi_Jx35411_next_0502b_Jx35411 hown hK hP 0 rfl rfl 0 (by decide) (hts (.fieldLink RJx35411 25 "java/util/ArrayList$Itr" "cursor" "I") (by decide +kernel)) (fun _ h9 => h9) rfl dJx35411_next_0502b_5 ?_
  refine lv_istore_n (lv' := [(1, .int 9), (0, .ref it)]) hx hb dJx35411_next_0502b_8 rfl hl (by decide) rfl (fun ls hl => ?_)
  refine lv_iload_n hx hb dJx35411_next_0502b_9 rfl (lv_at hl 0 rfl) ?_
  refine lv_aload_n hx hb dJx35411_next_0502b_10 rfl (lv_at hl 1 rfl) ?_
  refine va_get (D := (dC, dI)) (ci := 0) (v := .ref h0) (C := RJx35411) (T := TJx35411) (N := 4) hx hb hts zi_Jx35411_next_0502b_Jx35411 hown hK hP 0 rfl rfl 3 (by decide) (hts (.fieldLink RJx35411 1 "java/util/ArrayList$Itr" "this$0" "Ljava/util/ArrayList;") (by decide +kernel)) (fun _ h9 => h9) rfl dJx35411_next_0502b_11 ?_
  refine va_getN (D := (dC, dI)) (ci := 1) (v := .int 10) (C := RJx4a65c) (T := TJx4a65c) (N := 3) hx hb hts zi_Jx35411_next_0502b_Jx4a65c hown hK (zo_R hR0 hS hAr) 0 rfl rfl 2 (by decide) (va_Nw.use rfl (hN.1 ("java/util/ArrayList$Itr", 28, "java/util/ArrayList", "size", "I", "java/util/ArrayList") (List.mem_of_getElem? (i := 0) rfl))) (fun _ h9 => h9) rfl dJx35411_next_0502b_14 ?_
  refine lv_icmp_lt (tgt := 28) hx hb dJx35411_next_0502b_17 (by decide) (fun _ => ?_) (fun h => absurd h (by decide))
  refine lv_aload_n hx hb dJx35411_next_0502b_28 rfl (lv_at hl 1 rfl) ?_
  refine va_get (D := (dC, dI)) (ci := 0) (v := .ref h0) (C := RJx35411) (T := TJx35411) (N := 4) hx hb hts zi_Jx35411_next_0502b_Jx35411 hown hK hP 0 rfl rfl 3 (by decide) (hts (.fieldLink RJx35411 1 "java/util/ArrayList$Itr" "this$0" "Ljava/util/ArrayList;") (by decide +kernel)) (fun _ h9 => h9) rfl dJx35411_next_0502b_29 ?_
  refine va_get (D := (dC, dI)) (ci := 1) (v := .ref oa) (C := RJx4a65c) (T := TJx4a65c) (N := 3) hx hb hts zi_Jx35411_next_0502b_Jx4a65c hown hK (zo_R hR0 hS hAr) 0 rfl rfl 1 (by decide) (hts (.fieldLink RJx35411 37 "java/util/ArrayList" "elementData" "[Ljava/lang/Object;") (by decide +kernel)) (fun _ h9 => h9) rfl dJx35411_next_0502b_32 ?_
  refine lv_astore_n (lv' := [(2, .ref oa), (1, .int 9), (0, .ref it)]) hx hb dJx35411_next_0502b_35 rfl hl (by decide) rfl (fun ls hl => ?_)
  refine lv_iload_n hx hb dJx35411_next_0502b_36 rfl (lv_at hl 1 rfl) ?_
  refine lv_aload_n hx hb dJx35411_next_0502b_37 rfl (lv_at hl 0 rfl) ?_
  refine va_alen hx hb hK (zo_R hR0 hS hAr) 1 0 rfl rfl (v := 10) (by exact rfl) dJx35411_next_0502b_38 ?_
  refine lv_icmp_lt (tgt := 50) hx hb dJx35411_next_0502b_39 (by decide) (fun _ => ?_) (fun h => absurd h (by decide))
  refine lv_aload_n hx hb dJx35411_next_0502b_50 rfl (lv_at hl 2 rfl) ?_
  refine lv_iload_n hx hb dJx35411_next_0502b_51 rfl (lv_at hl 1 rfl) ?_
  refine lv_iconst (v := 1) hx hb dJx35411_next_0502b_52 (by decide) ?_
  refine lv_iadd hx hb dJx35411_next_0502b_53 ?_
  refine zo_i (v := 10) (by decide) ?_
  refine va_put (D := (dC, dI)) (ci := 0) (v := .int 10) (ty := .int) (C := RJx35411) (T := TJx35411) (N := 4) hx hb hts zi_Jx35411_next_0502b_Jx35411 tyJx35411 tyJx35411_ok nmJx35411 hown hK hP hD hS 0 rfl rfl 0 (by decide) (hts (.fieldLink RJx35411 25 "java/util/ArrayList$Itr" "cursor" "I") (by decide +kernel)) (fun _ h9 => h9) rfl (by decide +kernel) rfl rfl (Nat.le_of_ble_eq_true rfl) dJx35411_next_0502b_54 (fun H3 locs hP hD hS => ?_)
  have hP : va_P (dC, dI) vwCl [(it, .inr (0, [.int 10, .int u5, .int u0, .ref h0]))] H3 := hP
  have hD : va_D A [(it, .inr (0, [.int 10, .int u5, .int u0, .ref h0]))] := hD
  refine lv_aload_n hx hb dJx35411_next_0502b_57 rfl (lv_at hl 0 rfl) ?_
  refine lv_aload_n hx hb dJx35411_next_0502b_58 rfl (lv_at hl 2 rfl) ?_
  refine lv_iload_n hx hb dJx35411_next_0502b_59 rfl (lv_at hl 1 rfl) ?_
  refine lv_dup_x1 hx hb dJx35411_next_0502b_60 rfl rfl ?_
  refine va_put (D := (dC, dI)) (ci := 0) (v := .int 9) (ty := .int) (C := RJx35411) (T := TJx35411) (N := 4) hx hb hts zi_Jx35411_next_0502b_Jx35411 tyJx35411 tyJx35411_ok nmJx35411 hown hK hP hD hS 0 rfl rfl 1 (by decide) (hts (.fieldLink RJx35411 13 "java/util/ArrayList$Itr" "lastRet" "I") (by decide +kernel)) (fun _ h9 => h9) rfl (by decide +kernel) rfl rfl (Nat.le_of_ble_eq_true rfl) dJx35411_next_0502b_61 (fun H4 locs hP hD hS => ?_)
  have hP : va_P (dC, dI) vwCl [(it, .inr (0, [.int 10, .int 9, .int u0, .ref h0]))] H4 := hP
  have hD : va_D A [(it, .inr (0, [.int 10, .int 9, .int u0, .ref h0]))] := hD
  refine va_aldq hx hb hK (zo_R hR0 hS hAr) 1 0 rfl rfl (by unfold vp_in; decide) dJx35411_next_0502b_64 ?_
  refine zo_q (v := .ref e1) (by rw [show Int32.toNatClampNeg 9 = 9 from by decide, ho9]; rfl) ?_
  refine W.widen (k := 0) (n := 0) (Nat.le_of_ble_eq_true rfl) (Nat.le_of_ble_eq_true rfl) ?_
  have hP9 := hP.sub (ws' := [(it, .inr (0, [.int 10, .int 9, .int u0, .ref h0]))]) [0] rfl
  have hD9 := hD.sub (ws' := [(it, .inr (0, [.int 10, .int 9, .int u0, .ref h0]))]) [0] (by decide) rfl
  have hK9 := hK.sub (tys' := []) [] rfl
  exact W.aret hx hb hr (Or.inl ⟨_, rfl⟩) (Or.inr ⟨_, rfl⟩) (fun t ht hW => ⟨⟨(), e1, rfl, trivial, ⟨rfl, by rw [ht]; exact hP9, hD9, va_K.moved hW.alike hK9⟩⟩, hS.F ht⟩) hS.2.2 dJx35411_next_0502b_65
set_option maxHeartbeats 4000000 in
set_option maxRecDepth 100000 in
theorem cz_Qgrow1 (l : Launch) (dC : Nat → ClassId) (dI : Nat → Nat → Nat) (ed sz : Nat) (h0 : Nat) : Met l yJx4a65c_grow_92f84 wsJx4a65c_grow_92f84 ({ frames := 1, cells := 1, slots := 10, locals := 14 } : Jvm.Room) (va_Pc [.ref h0, .int 1] (zB dC dI ed sz [] [(h0, .inr (1, [.int 1, .ref ed, .int 0]))] [])) (va_Qr (fun (_ : Unit) => True) (fun (_ : Unit) (oa : Nat) (t : State) => ∃ (cO : ClassId), va_P (dC, dI) vwCl [(h0, .inr (1, [.int 1, .ref oa, .int 0])), (oa, .inl (cO, 10, .inr (.inr (.inr (.inr (fun _ => none))))))] t.heap ∧ va_D (va_A [(h0, .inr (1, [.int 1, .ref ed, .int 0]))] sz) [(h0, .inr (1, [.int 1, .ref oa, .int 0])), (oa, .inl (cO, 10, .inr (.inr (.inr (.inr (fun _ => none))))))] ∧ va_K (dC, dI) vwCl [(cO, .object "java/lang/Object")] t) (va_A [(h0, .inr (1, [.int 1, .ref ed, .int 0]))] sz)) 1 10 (va_A [(h0, .inr (1, [.int 1, .ref ed, .int 0]))] sz) := by
  refine Met.ofW (cc := cJx4a65c_grow_92f84) (maxL := 4) (ret := (some (.array (.object "java/lang/Object")))) (by decide) rfl ?_
  intro p e s m args below meth c s₁ B hml hv
  obtain ⟨rfl, hsz, hR0, hP, hK, hD0, hN, hH, hX0⟩ := hv
  have hx := B.exec
  have hb := B.bytes
  have hr := B.returns
  have hts := atoms_spec (ws := wsJx4a65c_grow_92f84) B.pre
  have hown : s.vm.findClass RJx4a65c = some m.cls := findClass_of_methodNamed B.named
  have hlocks := B.notSynchronized
  subst hsz
  have hD := hD0.self (sz := s.heap.size)
  have hAr := zx_A hX0 hR0
  generalize hAe : va_A [(h0, .inr (1, [.int 1, .ref ed, .int 0]))] s.heap.size = A at hD hAr hH ⊢
  have hA : ∀ q : Nat, s.heap.size ≤ q → A q := fun q h => by rw [← hAe]; exact Or.inr h
  have hS : va_S A s.heap s.heap [] := va_S.rf
  have hl := lv_entry ([.ref h0, .int 1]) (n := 4) (Nat.le_of_ble_eq_true rfl)
  rw [lg_entry_eq]
  generalize (lg_sl ([.ref h0, .int 1]) ++ List.replicate (4 - (lg_sl ([.ref h0, .int 1])).length) Slot.unset).toArray = ls at hl ⊢
  have hl : lv_has ls 4 [(0, .ref h0), (1, .int 1)] := hl
  refine lv_aload_n hx hb dJx4a65c_grow_92f84_0 rfl (lv_at hl 0 rfl) ?_
  refine va_get (D := (dC, dI)) (ci := 1) (v := .ref ed) (C := RJx4a65c) (T := TJx4a65c) (N := 3) hx hb hts zi_Jx4a65c_grow_92f84_Jx4a65c hown hK hP 0 rfl rfl 1 (by decide) (hts (.fieldLink RJx4a65c 9 "java/util/ArrayList" "elementData" "[Ljava/lang/Object;") (by decide +kernel)) (fun _ h9 => h9) rfl dJx4a65c_grow_92f84_1 ?_
  refine va_tlen hx hb hH.2.2.2 hS (v := 0) (by decide) dJx4a65c_grow_92f84_4 ?_
  refine lv_istore_n (lv' := [(2, .int 0), (0, .ref h0), (1, .int 1)]) hx hb dJx4a65c_grow_92f84_5 rfl hl (by decide) rfl (fun ls hl => ?_)
  refine lv_iload_n hx hb dJx4a65c_grow_92f84_6 rfl (lv_at hl 0 rfl) ?_
  refine lv_if_gt (tgt := 20) hx hb dJx4a65c_grow_92f84_7 (by decide) (fun h => absurd h (by decide)) (fun _ => ?_)
  refine lv_aload_n hx hb dJx4a65c_grow_92f84_10 rfl (lv_at hl 1 rfl) ?_
  refine va_get (D := (dC, dI)) (ci := 1) (v := .ref ed) (C := RJx4a65c) (T := TJx4a65c) (N := 3) hx hb hts zi_Jx4a65c_grow_92f84_Jx4a65c hown hK hP 0 rfl rfl 1 (by decide) (hts (.fieldLink RJx4a65c 9 "java/util/ArrayList" "elementData" "[Ljava/lang/Object;") (by decide +kernel)) (fun _ h9 => h9) rfl dJx4a65c_grow_92f84_11 ?_
  refine va_gets hx hb hH.2.2.1 hS hown (hts (.fieldLink RJx4a65c 39 "java/util/ArrayList" "DEFAULTCAPACITY_EMPTY_ELEMENTDATA" "[Ljava/lang/Object;") (by decide +kernel)) (fun _ h9 => h9) dJx4a65c_grow_92f84_14 ?_
  refine lv_acmp_eq (rx := some ed) (ry := some ed) (tgt := 45) hx hb dJx4a65c_grow_92f84_17 (by decide) (fun _ => ?_) (fun h => absurd rfl h)
  refine lv_aload_n hx hb dJx4a65c_grow_92f84_45 rfl (lv_at hl 1 rfl) ?_
  refine lv_bipush (v := 10) hx hb dJx4a65c_grow_92f84_46 (by decide) ?_
  refine lv_iload_n hx hb dJx4a65c_grow_92f84_48 rfl (lv_at hl 2 rfl) ?_
  refine va_mmax hx hb (hml.trans hl.1.symm) hown (hts (.methodLink RJx4a65c 79 Lib.Math.max.name) (by decide +kernel)) (hts (.static Lib.Math.max.name) (by decide +kernel)) (hts (.initialized "java/lang/Math") (by decide +kernel)) (hts (.code Lib.Math.max.name Lib.Math.max.code 2 (some .int)) (by decide +kernel)) (Nat.le_of_ble_eq_true rfl) (Nat.le_of_ble_eq_true rfl) (Nat.le_of_ble_eq_true rfl) (Nat.le_of_ble_eq_true rfl) dJx4a65c_grow_92f84_49 ?_
  refine zo_i (v := 10) (by decide) ?_
  refine va_newq hx hb hown (hts (.classLink RJx4a65c 7 "java/lang/Object") (by decide +kernel)) (hN.2.2.1 "java/lang/Object" (by decide)) hK hP hD hS hA (by decide) (N' := 10) (by decide) (by decide) (Nat.le_of_ble_eq_true rfl) (Nat.le_of_ble_eq_true rfl) dJx4a65c_grow_92f84_52 (fun q1 cA3 H2 hK hP hD hS => ?_)
  have hP : va_P (dC, dI) vwCl [(h0, .inr (1, [.int 1, .ref ed, .int 0])), (q1, .inl (cA3, 10, .inr (.inr (.inr (.inr (fun _ => none))))))] H2 := hP
  have hD : va_D A [(h0, .inr (1, [.int 1, .ref ed, .int 0])), (q1, .inl (cA3, 10, .inr (.inr (.inr (.inr (fun _ => none))))))] := hD
  refine lv_dup_x1 hx hb dJx4a65c_grow_92f84_55 rfl rfl ?_
  refine va_put (D := (dC, dI)) (ci := 1) (v := .ref q1) (ty := .array (.object "java/lang/Object")) (C := RJx4a65c) (T := TJx4a65c) (N := 3) hx hb hts zi_Jx4a65c_grow_92f84_Jx4a65c tyJx4a65c tyJx4a65c_ok nmJx4a65c hown hK hP hD hS 0 rfl rfl 1 (by decide) (hts (.fieldLink RJx4a65c 9 "java/util/ArrayList" "elementData" "[Ljava/lang/Object;") (by decide +kernel)) (fun _ h9 => h9) rfl (by decide +kernel) rfl rfl (Nat.le_of_ble_eq_true rfl) dJx4a65c_grow_92f84_56 (fun H4 locs hP hD hS => ?_)
  have hP : va_P (dC, dI) vwCl [(h0, .inr (1, [.int 1, .ref q1, .int 0])), (q1, .inl (cA3, 10, .inr (.inr (.inr (.inr (fun _ => none))))))] H4 := hP
  have hD : va_D A [(h0, .inr (1, [.int 1, .ref q1, .int 0])), (q1, .inl (cA3, 10, .inr (.inr (.inr (.inr (fun _ => none))))))] := hD
  refine W.widen (k := 1) (n := 10) (Nat.le_of_ble_eq_true rfl) (Nat.le_of_ble_eq_true rfl) ?_
  have hP9 := hP.sub (ws' := [(h0, .inr (1, [.int 1, .ref q1, .int 0])), (q1, .inl (cA3, 10, .inr (.inr (.inr (.inr (fun _ => none))))))]) [0, 1] rfl
  have hD9 := hD.sub (ws' := [(h0, .inr (1, [.int 1, .ref q1, .int 0])), (q1, .inl (cA3, 10, .inr (.inr (.inr (.inr (fun _ => none))))))]) [0, 1] (by decide) rfl
  have hK9 := hK.sub (tys' := [(cA3, .object "java/lang/Object")]) [0] rfl
  exact W.aret hx hb hr (Or.inr ⟨_, rfl⟩) (Or.inr ⟨_, rfl⟩) (fun t ht hW => ⟨⟨(), q1, rfl, trivial, ⟨cA3, by rw [ht]; exact hP9, hD9, va_K.moved hW.alike hK9⟩⟩, hS.F ht⟩) hS.2.2 dJx4a65c_grow_92f84_59
set_option maxHeartbeats 4000000 in
set_option maxRecDepth 100000 in
theorem cz_Qgrow0 (l : Launch) (dC : Nat → ClassId) (dI : Nat → Nat → Nat) (ed sz : Nat) (h0 : Nat) : Met l yJx4a65c_grow_d5877 wsJx4a65c_grow_d5877 ({ frames := 2, cells := 1, slots := 10, locals := 37 } : Jvm.Room) (va_Pc [.ref h0] (zB dC dI ed sz [] [(h0, .inr (1, [.int 1, .ref ed, .int 0]))] [])) (va_Qr (fun (_ : Unit) => True) (fun (_ : Unit) (oa : Nat) (t : State) => ∃ (cO : ClassId), va_P (dC, dI) vwCl [(h0, .inr (1, [.int 1, .ref oa, .int 0])), (oa, .inl (cO, 10, .inr (.inr (.inr (.inr (fun _ => none))))))] t.heap ∧ va_D (va_A [(h0, .inr (1, [.int 1, .ref ed, .int 0]))] sz) [(h0, .inr (1, [.int 1, .ref oa, .int 0])), (oa, .inl (cO, 10, .inr (.inr (.inr (.inr (fun _ => none))))))] ∧ va_K (dC, dI) vwCl [(cO, .object "java/lang/Object")] t) (va_A [(h0, .inr (1, [.int 1, .ref ed, .int 0]))] sz)) 1 10 (va_A [(h0, .inr (1, [.int 1, .ref ed, .int 0]))] sz) := by
  refine Met.ofW (cc := cJx4a65c_grow_d5877) (maxL := 1) (ret := (some (.array (.object "java/lang/Object")))) (by decide) rfl ?_
  intro p e s m args below meth c s₁ B hml hv
  obtain ⟨rfl, hsz, hR0, hP, hK, hD0, hN, hH, hX0⟩ := hv
  have hx := B.exec
  have hb := B.bytes
  have hr := B.returns
  have hts := atoms_spec (ws := wsJx4a65c_grow_d5877) B.pre
  have hown : s.vm.findClass RJx4a65c = some m.cls := findClass_of_methodNamed B.named
  have hlocks := B.notSynchronized
  subst hsz
  have hD := hD0.self (sz := s.heap.size)
  have hAr := zx_A hX0 hR0
  generalize hAe : va_A [(h0, .inr (1, [.int 1, .ref ed, .int 0]))] s.heap.size = A at hD hAr hH ⊢
  have hA : ∀ q : Nat, s.heap.size ≤ q → A q := fun q h => by rw [← hAe]; exact Or.inr h
  have hS : va_S A s.heap s.heap [] := va_S.rf
  have hl := lv_entry ([.ref h0]) (n := 1) (Nat.le_of_ble_eq_true rfl)
  rw [lg_entry_eq]
  generalize (lg_sl ([.ref h0]) ++ List.replicate (1 - (lg_sl ([.ref h0])).length) Slot.unset).toArray = ls at hl ⊢
  have hl : lv_has ls 1 [(0, .ref h0)] := hl
  refine lv_aload_n hx hb dJx4a65c_grow_d5877_0 rfl (lv_at hl 0 rfl) ?_
  refine lv_aload_n hx hb dJx4a65c_grow_d5877_1 rfl (lv_at hl 0 rfl) ?_
  refine va_get (D := (dC, dI)) (ci := 1) (v := .int 0) (C := RJx4a65c) (T := TJx4a65c) (N := 3) hx hb hts zi_Jx4a65c_grow_d5877_Jx4a65c hown hK hP 0 rfl rfl 2 (by decide) (hts (.fieldLink RJx4a65c 48 "java/util/ArrayList" "size" "I") (by decide +kernel)) (fun _ h9 => h9) rfl dJx4a65c_grow_d5877_2 ?_
  refine lv_iconst (v := 1) hx hb dJx4a65c_grow_d5877_5 (by decide) ?_
  refine lv_iadd hx hb dJx4a65c_grow_d5877_6 ?_
  refine zo_i (v := 1) (by decide) ?_
  have hPr := (zo_nil : va_P (dC, dI) vwCl [] s.heap)
  have hPc := hP.sub (ws' := [(h0, .inr (1, [.int 1, .ref ed, .int 0]))]) [0] rfl
  have hDc := hD.sub (ws' := [(h0, .inr (1, [.int 1, .ref ed, .int 0]))]) [0] (by decide) rfl
  have hKc := hK.sub (tys' := []) [] rfl
  have hFc := va_free (wc := [(h0, .inr (1, [.int 1, .ref ed, .int 0]))]) hD hS hA [0] rfl
  refine va_callr (va_runV (As := [.int 1]) (rest := []) ⟨hx, hb, hml, hown, hts⟩ (cz_Qgrow1 l dC dI ed s.heap.size h0) (cwV 1 hts gJx4a65c_grow_d5877_Jx4a65c_grow_92f84 rfl rfl rfl (by decide +kernel) ⟨Nat.le_of_ble_eq_true rfl, Nat.le_of_ble_eq_true rfl⟩) ⟨zb_blind, va_recv hK hP (ci := 1) (q0 := 0) rfl rfl, fun U hU hW => ⟨rfl, zb_mk hU hW hPr hPc hKc hDc hN hH hS hFc zx_nil⟩⟩ rfl rfl hl.1 rfl (lv_room (Nat.le_of_ble_eq_true rfl)) dJx4a65c_grow_d5877_7 ⟨Nat.le_of_ble_eq_true rfl, Nat.le_of_ble_eq_true rfl⟩) hS (fun q _ h => hFc q h) hFc (fun u r2 t H1 locs ht hvm hw hB hz1 hk1 hS => ?_)
  obtain ⟨cO_3, hP1, hD1, hK1⟩ := hB
  rw [ht] at hP1
  obtain ⟨hP, hD⟩ := va_join (wr := []) (w1 := [(h0, .inr (1, [.int 1, .ref r2, .int 0])), (r2, .inl (cO_3, 10, .inr (.inr (.inr (.inr (fun _ => none))))))]) hP hD [0] [] rfl rfl (by decide) (by decide) hk1 hFc hP1 hD1
  have hP : va_P (dC, dI) vwCl [(h0, .inr (1, [.int 1, .ref r2, .int 0])), (r2, .inl (cO_3, 10, .inr (.inr (.inr (.inr (fun _ => none))))))] H1 := hP
  have hD : va_D A [(h0, .inr (1, [.int 1, .ref r2, .int 0])), (r2, .inl (cO_3, 10, .inr (.inr (.inr (.inr (fun _ => none))))))] := hD
  have hK := hK.app (va_K.moved hvm.symm hK1)
  have hK : va_K (dC, dI) vwCl [(cO_3, .object "java/lang/Object")] s := hK
  refine W.widen (k := 1) (n := 10) (Nat.le_of_ble_eq_true rfl) (Nat.le_of_ble_eq_true rfl) ?_
  have hP9 := hP.sub (ws' := [(h0, .inr (1, [.int 1, .ref r2, .int 0])), (r2, .inl (cO_3, 10, .inr (.inr (.inr (.inr (fun _ => none))))))]) [0, 1] rfl
  have hD9 := hD.sub (ws' := [(h0, .inr (1, [.int 1, .ref r2, .int 0])), (r2, .inl (cO_3, 10, .inr (.inr (.inr (.inr (fun _ => none))))))]) [0, 1] (by decide) rfl
  have hK9 := hK.sub (tys' := [(cO_3, .object "java/lang/Object")]) [0] rfl
  exact W.aret hx hb hr (Or.inr ⟨_, rfl⟩) (Or.inr ⟨_, rfl⟩) (fun t ht hW => ⟨⟨(), r2, rfl, trivial, ⟨cO_3, by rw [ht]; exact hP9, hD9, va_K.moved hW.alike hK9⟩⟩, hS.F ht⟩) hS.2.2 dJx4a65c_grow_d5877_10
set_option maxHeartbeats 4000000 in
set_option maxRecDepth 100000 in
theorem cz_Qadd3_0 (l : Launch) (dC : Nat → ClassId) (dI : Nat → Nat → Nat) (ed sz : Nat) (e1 : Nat) (cE : ClassId) (ne : Nat) (fe : Nat → Int32) (h0 : Nat) : Met l yJx4a65c_add_72be8 wsJx4a65c_add_72be8 ({ frames := 3, cells := 1, slots := 10, locals := 57 } : Jvm.Room) (va_Pc [.ref h0, .ref e1, .ref ed, .int 0] (zB dC dI ed sz [(e1, .inl (cE, ne, .inl fe))] [(h0, .inr (1, [.int 1, .ref ed, .int 0]))] [(cE, .int)])) (va_Qv (fun (_ : Unit) => True) (fun (_ : Unit) (t : State) => ∃ (oa : Nat), ∃ (cO : ClassId), ∃ (go : Nat → Option Nat), (go 0 = some e1) ∧ va_P (dC, dI) vwCl [(h0, .inr (1, [.int 1, .ref oa, .int 1])), (oa, .inl (cO, 10, .inr (.inr (.inr (.inr go)))))] t.heap ∧ va_D (va_A [(h0, .inr (1, [.int 1, .ref ed, .int 0]))] sz) [(h0, .inr (1, [.int 1, .ref oa, .int 1])), (oa, .inl (cO, 10, .inr (.inr (.inr (.inr go)))))] ∧ va_K (dC, dI) vwCl [(cO, .object "java/lang/Object")] t) (va_A [(h0, .inr (1, [.int 1, .ref ed, .int 0]))] sz)) 1 10 (va_A [(h0, .inr (1, [.int 1, .ref ed, .int 0]))] sz) := by
  refine Met.ofW (cc := cJx4a65c_add_72be8) (maxL := 4) (ret := none) (by decide) rfl ?_
  intro p e s m args below meth c s₁ B hml hv
  obtain ⟨rfl, hsz, hR0, hP, hK, hD0, hN, hH, hX0⟩ := hv
  have hx := B.exec
  have hb := B.bytes
  have hr := B.returns
  have hts := atoms_spec (ws := wsJx4a65c_add_72be8) B.pre
  have hown : s.vm.findClass RJx4a65c = some m.cls := findClass_of_methodNamed B.named
  have hlocks := B.notSynchronized
  subst hsz
  have hD := hD0.self (sz := s.heap.size)
  have hAr := zx_A hX0 hR0
  generalize hAe : va_A [(h0, .inr (1, [.int 1, .ref ed, .int 0]))] s.heap.size = A at hD hAr hH ⊢
  have hA : ∀ q : Nat, s.heap.size ≤ q → A q := fun q h => by rw [← hAe]; exact Or.inr h
  have hS : va_S A s.heap s.heap [] := va_S.rf
  have hl := lv_entry ([.ref h0, .ref e1, .ref ed, .int 0]) (n := 4) (Nat.le_of_ble_eq_true rfl)
  rw [lg_entry_eq]
  generalize (lg_sl ([.ref h0, .ref e1, .ref ed, .int 0]) ++ List.replicate (4 - (lg_sl ([.ref h0, .ref e1, .ref ed, .int 0])).length) Slot.unset).toArray = ls at hl ⊢
  have hl : lv_has ls 4 [(0, .ref h0), (1, .ref e1), (2, .ref ed), (3, .int 0)] := hl
  refine lv_iload_n hx hb dJx4a65c_add_72be8_0 rfl (lv_at hl 3 rfl) ?_
  refine lv_aload_n hx hb dJx4a65c_add_72be8_1 rfl (lv_at hl 2 rfl) ?_
  refine va_tlen hx hb hH.2.2.2 hS (v := 0) (by decide) dJx4a65c_add_72be8_2 ?_
  refine lv_icmp_ne (tgt := 11) hx hb dJx4a65c_add_72be8_3 (by decide) (fun h => absurd h (by decide)) (fun _ => ?_)
  refine lv_aload_n hx hb dJx4a65c_add_72be8_6 rfl (lv_at hl 0 rfl) ?_
  have hPr := (zo_nil : va_P (dC, dI) vwCl [] s.heap)
  have hPc := hP.sub (ws' := [(h0, .inr (1, [.int 1, .ref ed, .int 0]))]) [0] rfl
  have hDc := hD.sub (ws' := [(h0, .inr (1, [.int 1, .ref ed, .int 0]))]) [0] (by decide) rfl
  have hKc := hK.sub (tys' := []) [] rfl
  have hFc := va_free (wc := [(h0, .inr (1, [.int 1, .ref ed, .int 0]))]) hD hS hA [0] rfl
  refine va_callr (va_runV (As := []) (rest := []) ⟨hx, hb, hml, hown, hts⟩ (cz_Qgrow0 l dC dI ed s.heap.size h0) (cwV 0 hts gJx4a65c_add_72be8_Jx4a65c_grow_d5877 rfl rfl rfl (by decide +kernel) ⟨Nat.le_of_ble_eq_true rfl, Nat.le_of_ble_eq_true rfl⟩) ⟨zb_blind, va_recv hK hP (ci := 1) (q0 := 0) rfl rfl, fun U hU hW => ⟨rfl, zb_mk hU hW hPr hPc hKc hDc hN hH hS hFc zx_nil⟩⟩ rfl rfl hl.1 rfl (lv_room (Nat.le_of_ble_eq_true rfl)) dJx4a65c_add_72be8_7 ⟨Nat.le_of_ble_eq_true rfl, Nat.le_of_ble_eq_true rfl⟩) hS (fun q _ h => hFc q h) hFc (fun u r2 t H1 locs ht hvm hw hB hz1 hk1 hS => ?_)
  obtain ⟨cO_3, hP1, hD1, hK1⟩ := hB
  rw [ht] at hP1
  obtain ⟨hP, hD⟩ := va_join (wr := []) (w1 := [(h0, .inr (1, [.int 1, .ref r2, .int 0])), (r2, .inl (cO_3, 10, .inr (.inr (.inr (.inr (fun _ => none))))))]) hP hD [0] [] rfl rfl (by decide) (by decide) hk1 hFc hP1 hD1
  have hP : va_P (dC, dI) vwCl [(h0, .inr (1, [.int 1, .ref r2, .int 0])), (r2, .inl (cO_3, 10, .inr (.inr (.inr (.inr (fun _ => none))))))] H1 := hP
  have hD : va_D A [(h0, .inr (1, [.int 1, .ref r2, .int 0])), (r2, .inl (cO_3, 10, .inr (.inr (.inr (.inr (fun _ => none))))))] := hD
  have hK := hK.app (va_K.moved hvm.symm hK1)
  have hK : va_K (dC, dI) vwCl [(cE, .int), (cO_3, .object "java/lang/Object")] s := hK
  refine lv_astore_n (lv' := [(2, .ref r2), (0, .ref h0), (1, .ref e1), (3, .int 0)]) hx hb dJx4a65c_add_72be8_10 rfl hl (by decide) rfl (fun ls hl => ?_)
  refine lv_aload_n hx hb dJx4a65c_add_72be8_11 rfl (lv_at hl 0 rfl) ?_
  refine lv_iload_n hx hb dJx4a65c_add_72be8_12 rfl (lv_at hl 3 rfl) ?_
  refine lv_aload_n hx hb dJx4a65c_add_72be8_13 rfl (lv_at hl 2 rfl) ?_
  refine va_astqM hx hb hK hP hD hS 1 1 rfl rfl (zo_anyI hK (zo_R hR0 hS hAr) 0 0 rfl rfl (hN.2.2.2.2.1 ("[I", "java/lang/Object") (by decide))) (by unfold vp_in; decide) dJx4a65c_add_72be8_14 (fun H4 locs hP hD hS => ?_)
  obtain ⟨f5, ef5⟩ : ∃ z : Nat → Option Nat, z = va_up (fun _ => none) 0 (some e1) := ⟨_, rfl⟩
  have k6 : f5 0 = some e1 := by rw [ef5]; exact va_up_self _ _ _
  have hP : va_P (dC, dI) vwCl [(h0, .inr (1, [.int 1, .ref r2, .int 0])), (r2, .inl (cO_3, 10, .inr (.inr (.inr (.inr f5)))))] H4 := by rw [ef5]; exact hP
  have hD : va_D A [(h0, .inr (1, [.int 1, .ref r2, .int 0])), (r2, .inl (cO_3, 10, .inr (.inr (.inr (.inr f5)))))] := by rw [ef5]; exact hD
  refine lv_aload_n hx hb dJx4a65c_add_72be8_15 rfl (lv_at hl 1 rfl) ?_
  refine lv_iload_n hx hb dJx4a65c_add_72be8_16 rfl (lv_at hl 3 rfl) ?_
  refine lv_iconst (v := 1) hx hb dJx4a65c_add_72be8_17 (by decide) ?_
  refine lv_iadd hx hb dJx4a65c_add_72be8_18 ?_
  refine zo_i (v := 1) (by decide) ?_
  refine va_put (D := (dC, dI)) (ci := 1) (v := .int 1) (ty := .int) (C := RJx4a65c) (T := TJx4a65c) (N := 3) hx hb hts zi_Jx4a65c_add_72be8_Jx4a65c tyJx4a65c tyJx4a65c_ok nmJx4a65c hown hK hP hD hS 0 rfl rfl 2 (by decide) (hts (.fieldLink RJx4a65c 48 "java/util/ArrayList" "size" "I") (by decide +kernel)) (fun _ h9 => h9) rfl (by decide +kernel) rfl rfl (Nat.le_of_ble_eq_true rfl) dJx4a65c_add_72be8_19 (fun H7 locs hP hD hS => ?_)
  have hP : va_P (dC, dI) vwCl [(h0, .inr (1, [.int 1, .ref r2, .int 1])), (r2, .inl (cO_3, 10, .inr (.inr (.inr (.inr f5)))))] H7 := hP
  have hD : va_D A [(h0, .inr (1, [.int 1, .ref r2, .int 1])), (r2, .inl (cO_3, 10, .inr (.inr (.inr (.inr f5)))))] := hD
  refine W.widen (k := 1) (n := 10) (Nat.le_of_ble_eq_true rfl) (Nat.le_of_ble_eq_true rfl) ?_
  have hP9 := hP.sub (ws' := [(h0, .inr (1, [.int 1, .ref r2, .int 1])), (r2, .inl (cO_3, 10, .inr (.inr (.inr (.inr f5)))))]) [0, 1] rfl
  have hD9 := hD.sub (ws' := [(h0, .inr (1, [.int 1, .ref r2, .int 1])), (r2, .inl (cO_3, 10, .inr (.inr (.inr (.inr f5)))))]) [0, 1] (by decide) rfl
  have hK9 := hK.sub (tys' := [(cO_3, .object "java/lang/Object")]) [1] rfl
  exact W.vret hx hb hr (fun t ht hW => ⟨⟨(), rfl, trivial, ⟨r2, cO_3, f5, k6, by rw [ht]; exact hP9, hD9, va_K.moved hW.alike hK9⟩⟩, hS.F ht⟩) hS.2.2 dJx4a65c_add_72be8_22
set_option maxHeartbeats 4000000 in
set_option maxRecDepth 100000 in
theorem cz_Qadd_0 (l : Launch) (dC : Nat → ClassId) (dI : Nat → Nat → Nat) (ed sz : Nat) (e1 : Nat) (cE : ClassId) (ne : Nat) (fe : Nat → Int32) (h0 : Nat) : Met l yJx4a65c_add_9ea2d wsJx4a65c_add_9ea2d ({ frames := 4, cells := 1, slots := 10, locals := 80 } : Jvm.Room) (va_Pc [.ref h0, .ref e1] (zB dC dI ed sz [(e1, .inl (cE, ne, .inl fe))] [(h0, .inr (1, [.int 0, .ref ed, .int 0]))] [(cE, .int)])) (va_Qi (fun (r : Int32) (_ : Unit) => r = 1) (fun (_ : Unit) (t : State) => ∃ (oa : Nat), ∃ (cO : ClassId), ∃ (go : Nat → Option Nat), (go 0 = some e1) ∧ va_P (dC, dI) vwCl [(h0, .inr (1, [.int 1, .ref oa, .int 1])), (oa, .inl (cO, 10, .inr (.inr (.inr (.inr go)))))] t.heap ∧ va_D (va_A [(h0, .inr (1, [.int 0, .ref ed, .int 0]))] sz) [(h0, .inr (1, [.int 1, .ref oa, .int 1])), (oa, .inl (cO, 10, .inr (.inr (.inr (.inr go)))))] ∧ va_K (dC, dI) vwCl [(cO, .object "java/lang/Object")] t) (va_A [(h0, .inr (1, [.int 0, .ref ed, .int 0]))] sz)) 1 10 (va_A [(h0, .inr (1, [.int 0, .ref ed, .int 0]))] sz) := by
  refine Met.ofW (cc := cJx4a65c_add_9ea2d) (maxL := 2) (ret := (some .boolean)) (by decide) rfl ?_
  intro p e s m args below meth c s₁ B hml hv
  obtain ⟨rfl, hsz, hR0, hP, hK, hD0, hN, hH, hX0⟩ := hv
  have hx := B.exec
  have hb := B.bytes
  have hr := B.returns
  have hts := atoms_spec (ws := wsJx4a65c_add_9ea2d) B.pre
  have hown : s.vm.findClass RJx4a65c = some m.cls := findClass_of_methodNamed B.named
  have hlocks := B.notSynchronized
  subst hsz
  have hD := hD0.self (sz := s.heap.size)
  have hAr := zx_A hX0 hR0
  generalize hAe : va_A [(h0, .inr (1, [.int 0, .ref ed, .int 0]))] s.heap.size = A at hD hAr hH ⊢
  have hA : ∀ q : Nat, s.heap.size ≤ q → A q := fun q h => by rw [← hAe]; exact Or.inr h
  have hS : va_S A s.heap s.heap [] := va_S.rf
  have hl := lv_entry ([.ref h0, .ref e1]) (n := 2) (Nat.le_of_ble_eq_true rfl)
  rw [lg_entry_eq]
  generalize (lg_sl ([.ref h0, .ref e1]) ++ List.replicate (2 - (lg_sl ([.ref h0, .ref e1])).length) Slot.unset).toArray = ls at hl ⊢
  have hl : lv_has ls 2 [(0, .ref h0), (1, .ref e1)] := hl
  refine lv_aload_n hx hb dJx4a65c_add_9ea2d_0 rfl (lv_at hl 0 rfl) ?_
  refine lv_dup hx hb dJx4a65c_add_9ea2d_1 rfl ?_
  refine va_get (D := (dC, dI)) (ci := 1) (v := .int 0) (C := RJx4a65c) (T := TJx4a65c) (N := 3) hx hb hts zi_Jx4a65c_add_9ea2d_Jx4a65c hown hK hP 0 rfl rfl 0 (by decide) (hts (.fieldLink RJx4a65c 63 "java/util/ArrayList" "modCount" "I") (by decide +kernel)) (fun x9 h9 => u_same (hts (.sameField "java/util/ArrayList" "java/util/AbstractList" "modCount" "I") (by decide +kernel)) x9 h9) rfl dJx4a65c_add_9ea2d_2 ?_
  refine lv_iconst (v := 1) hx hb dJx4a65c_add_9ea2d_5 (by decide) ?_
  refine lv_iadd hx hb dJx4a65c_add_9ea2d_6 ?_
  refine zo_i (v := 1) (by decide) ?_
  refine va_put (D := (dC, dI)) (ci := 1) (v := .int 1) (ty := .int) (C := RJx4a65c) (T := TJx4a65c) (N := 3) hx hb hts zi_Jx4a65c_add_9ea2d_Jx4a65c tyJx4a65c tyJx4a65c_ok nmJx4a65c hown hK hP hD hS 0 rfl rfl 0 (by decide) (hts (.fieldLink RJx4a65c 63 "java/util/ArrayList" "modCount" "I") (by decide +kernel)) (fun x9 h9 => u_same (hts (.sameField "java/util/ArrayList" "java/util/AbstractList" "modCount" "I") (by decide +kernel)) x9 h9) rfl (by decide +kernel) rfl rfl (Nat.le_of_ble_eq_true rfl) dJx4a65c_add_9ea2d_7 (fun H1 locs hP hD hS => ?_)
  have hP : va_P (dC, dI) vwCl [(h0, .inr (1, [.int 1, .ref ed, .int 0]))] H1 := hP
  have hD : va_D A [(h0, .inr (1, [.int 1, .ref ed, .int 0]))] := hD
  refine lv_aload_n hx hb dJx4a65c_add_9ea2d_10 rfl (lv_at hl 0 rfl) ?_
  refine lv_aload_n hx hb dJx4a65c_add_9ea2d_11 rfl (lv_at hl 1 rfl) ?_
  refine lv_aload_n hx hb dJx4a65c_add_9ea2d_12 rfl (lv_at hl 0 rfl) ?_
  refine va_get (D := (dC, dI)) (ci := 1) (v := .ref ed) (C := RJx4a65c) (T := TJx4a65c) (N := 3) hx hb hts zi_Jx4a65c_add_9ea2d_Jx4a65c hown hK hP 0 rfl rfl 1 (by decide) (hts (.fieldLink RJx4a65c 9 "java/util/ArrayList" "elementData" "[Ljava/lang/Object;") (by decide +kernel)) (fun _ h9 => h9) rfl dJx4a65c_add_9ea2d_13 ?_
  refine lv_aload_n hx hb dJx4a65c_add_9ea2d_16 rfl (lv_at hl 0 rfl) ?_
  refine va_get (D := (dC, dI)) (ci := 1) (v := .int 0) (C := RJx4a65c) (T := TJx4a65c) (N := 3) hx hb hts zi_Jx4a65c_add_9ea2d_Jx4a65c hown hK hP 0 rfl rfl 2 (by decide) (hts (.fieldLink RJx4a65c 48 "java/util/ArrayList" "size" "I") (by decide +kernel)) (fun _ h9 => h9) rfl dJx4a65c_add_9ea2d_17 ?_
  have hPr := ((zo_R hR0 hS hAr)).sub (ws' := [(e1, .inl (cE, ne, .inl fe))]) [0] rfl
  have hPc := hP.sub (ws' := [(h0, .inr (1, [.int 1, .ref ed, .int 0]))]) [0] rfl
  have hDc := hD.sub (ws' := [(h0, .inr (1, [.int 1, .ref ed, .int 0]))]) [0] (by decide) rfl
  have hKc := hK.sub (tys' := [(cE, .int)]) [0] rfl
  have hFc := va_free (wc := [(h0, .inr (1, [.int 1, .ref ed, .int 0]))]) hD hS hA [0] rfl
  refine va_callv (va_runV (As := [.ref e1, .ref ed, .int 0]) (rest := []) ⟨hx, hb, hml, hown, hts⟩ (cz_Qadd3_0 l dC dI ed H1.size e1 cE ne fe h0) (cwV 3 hts gJx4a65c_add_9ea2d_Jx4a65c_add_72be8 rfl rfl rfl (by decide +kernel) ⟨Nat.le_of_ble_eq_true rfl, Nat.le_of_ble_eq_true rfl⟩) ⟨zb_blind, va_recv hK hP (ci := 1) (q0 := 0) rfl rfl, fun U hU hW => ⟨rfl, zb_mk hU hW hPr hPc hKc hDc hN hH hS hFc (zx_cons (zx_r (hAr _ (List.mem_of_getElem? (i := 0) rfl)) hDc) zx_nil)⟩⟩ rfl rfl hl.1 rfl (lv_room (Nat.le_of_ble_eq_true rfl)) dJx4a65c_add_9ea2d_20 ⟨Nat.le_of_ble_eq_true rfl, Nat.le_of_ble_eq_true rfl⟩) hS (fun q _ h => hFc q h) hFc (fun u t H2 locs ht hvm hw hB hz1 hk1 hS => ?_)
  obtain ⟨oa_4, cO_4, go_4, k4_0, hP1, hD1, hK1⟩ := hB
  rw [ht] at hP1
  obtain ⟨hP, hD⟩ := va_join (wr := []) (w1 := [(h0, .inr (1, [.int 1, .ref oa_4, .int 1])), (oa_4, .inl (cO_4, 10, .inr (.inr (.inr (.inr go_4)))))]) hP hD [0] [] rfl rfl (by decide) (by decide) hk1 hFc hP1 hD1
  have hP : va_P (dC, dI) vwCl [(h0, .inr (1, [.int 1, .ref oa_4, .int 1])), (oa_4, .inl (cO_4, 10, .inr (.inr (.inr (.inr go_4)))))] H2 := hP
  have hD : va_D A [(h0, .inr (1, [.int 1, .ref oa_4, .int 1])), (oa_4, .inl (cO_4, 10, .inr (.inr (.inr (.inr go_4)))))] := hD
  have hK := hK.app (va_K.moved hvm.symm hK1)
  have hK : va_K (dC, dI) vwCl [(cE, .int), (cO_4, .object "java/lang/Object")] s := hK
  refine lv_iconst (v := 1) hx hb dJx4a65c_add_9ea2d_23 (by decide) ?_
  refine W.widen (k := 1) (n := 10) (Nat.le_of_ble_eq_true rfl) (Nat.le_of_ble_eq_true rfl) ?_
  have hP9 := hP.sub (ws' := [(h0, .inr (1, [.int 1, .ref oa_4, .int 1])), (oa_4, .inl (cO_4, 10, .inr (.inr (.inr (.inr go_4)))))]) [0, 1] rfl
  have hD9 := hD.sub (ws' := [(h0, .inr (1, [.int 1, .ref oa_4, .int 1])), (oa_4, .inl (cO_4, 10, .inr (.inr (.inr (.inr go_4)))))]) [0, 1] (by decide) rfl
  have hK9 := hK.sub (tys' := [(cO_4, .object "java/lang/Object")]) [1] rfl
  exact W.zret hx hb hr (by decide) (fun t ht hW => ⟨⟨1, (), rfl, rfl, ⟨oa_4, cO_4, go_4, k4_0, by rw [ht]; exact hP9, hD9, va_K.moved hW.alike hK9⟩⟩, hS.F ht⟩) hS.2.2 dJx4a65c_add_9ea2d_24
set_option maxHeartbeats 4000000 in
set_option maxRecDepth 100000 in
theorem cz_Qadd3_1 (l : Launch) (dC : Nat → ClassId) (dI : Nat → Nat → Nat) (ed sz : Nat) (e1 : Nat) (cE : ClassId) (ne : Nat) (fe : Nat → Int32) (h0 : Nat) (oa : Nat) (cO : ClassId) (fo : Nat → Option Nat) (d0 : Nat) (ho0 : fo 0 = some d0) : Met l yJx4a65c_add_72be8 wsJx4a65c_add_72be8 ({ frames := 0, cells := 0, slots := 0, locals := 0 } : Jvm.Room) (va_Pc [.ref h0, .ref e1, .ref oa, .int 1] (zB dC dI ed sz [(e1, .inl (cE, ne, .inl fe))] [(h0, .inr (1, [.int 2, .ref oa, .int 1])), (oa, .inl (cO, 10, .inr (.inr (.inr (.inr fo)))))] [(cE, .int), (cO, .object "java/lang/Object")])) (va_Qv (fun (_ : Unit) => True) (fun (_ : Unit) (t : State) => ∃ (go : Nat → Option Nat), (go 0 = some d0 ∧ go 1 = some e1) ∧ va_P (dC, dI) vwCl [(h0, .inr (1, [.int 2, .ref oa, .int 2])), (oa, .inl (cO, 10, .inr (.inr (.inr (.inr go)))))] t.heap ∧ va_D (va_A [(h0, .inr (1, [.int 2, .ref oa, .int 1])), (oa, .inl (cO, 10, .inr (.inr (.inr (.inr fo)))))] sz) [(h0, .inr (1, [.int 2, .ref oa, .int 2])), (oa, .inl (cO, 10, .inr (.inr (.inr (.inr go)))))] ∧ va_K (dC, dI) vwCl [(cO, .object "java/lang/Object")] t) (va_A [(h0, .inr (1, [.int 2, .ref oa, .int 1])), (oa, .inl (cO, 10, .inr (.inr (.inr (.inr fo)))))] sz)) 0 0 (va_A [(h0, .inr (1, [.int 2, .ref oa, .int 1])), (oa, .inl (cO, 10, .inr (.inr (.inr (.inr fo)))))] sz) := by
  refine Met.ofW (cc := cJx4a65c_add_72be8) (maxL := 4) (ret := none) (by decide) rfl ?_
  intro p e s m args below meth c s₁ B hml hv
  obtain ⟨rfl, hsz, hR0, hP, hK, hD0, hN, hH, hX0⟩ := hv
  have hx := B.exec
  have hb := B.bytes
  have hr := B.returns
  have hts := atoms_spec (ws := wsJx4a65c_add_72be8) B.pre
  have hown : s.vm.findClass RJx4a65c = some m.cls := findClass_of_methodNamed B.named
  have hlocks := B.notSynchronized
  subst hsz
  have hD := hD0.self (sz := s.heap.size)
  have hAr := zx_A hX0 hR0
  generalize hAe : va_A [(h0, .inr (1, [.int 2, .ref oa, .int 1])), (oa, .inl (cO, 10, .inr (.inr (.inr (.inr fo)))))] s.heap.size = A at hD hAr hH ⊢
  have hA : ∀ q : Nat, s.heap.size ≤ q → A q := fun q h => by rw [← hAe]; exact Or.inr h
  have hS : va_S A s.heap s.heap [] := va_S.rf
  have hl := lv_entry ([.ref h0, .ref e1, .ref oa, .int 1]) (n := 4) (Nat.le_of_ble_eq_true rfl)
  rw [lg_entry_eq]
  generalize (lg_sl ([.ref h0, .ref e1, .ref oa, .int 1]) ++ List.replicate (4 - (lg_sl ([.ref h0, .ref e1, .ref oa, .int 1])).length) Slot.unset).toArray = ls at hl ⊢
  have hl : lv_has ls 4 [(0, .ref h0), (1, .ref e1), (2, .ref oa), (3, .int 1)] := hl
  refine lv_iload_n hx hb dJx4a65c_add_72be8_0 rfl (lv_at hl 3 rfl) ?_
  refine lv_aload_n hx hb dJx4a65c_add_72be8_1 rfl (lv_at hl 2 rfl) ?_
  refine va_alen hx hb hK hP 1 1 rfl rfl (v := 10) (by exact rfl) dJx4a65c_add_72be8_2 ?_
  refine lv_icmp_ne (tgt := 11) hx hb dJx4a65c_add_72be8_3 (by decide) (fun _ => ?_) (fun h => absurd h (by decide))
  refine lv_aload_n hx hb dJx4a65c_add_72be8_11 rfl (lv_at hl 2 rfl) ?_
  refine lv_iload_n hx hb dJx4a65c_add_72be8_12 rfl (lv_at hl 3 rfl) ?_
  refine lv_aload_n hx hb dJx4a65c_add_72be8_13 rfl (lv_at hl 1 rfl) ?_
  refine va_astqM hx hb hK hP hD hS 1 1 rfl rfl (zo_anyI hK hR0 0 0 rfl rfl (hN.2.2.2.2.1 ("[I", "java/lang/Object") (by decide))) (by unfold vp_in; decide) dJx4a65c_add_72be8_14 (fun H1 locs hP hD hS => ?_)
  obtain ⟨f2, ef2⟩ : ∃ z : Nat → Option Nat, z = va_up fo 1 (some e1) := ⟨_, rfl⟩
  have k3 : f2 0 = some d0 := by rw [ef2]; exact (va_up_ne _ _ (by decide)).trans (ho0)
  have k4 : f2 1 = some e1 := by rw [ef2]; exact va_up_self _ _ _
  have hP : va_P (dC, dI) vwCl [(h0, .inr (1, [.int 2, .ref oa, .int 1])), (oa, .inl (cO, 10, .inr (.inr (.inr (.inr f2)))))] H1 := by rw [ef2]; exact hP
  have hD : va_D A [(h0, .inr (1, [.int 2, .ref oa, .int 1])), (oa, .inl (cO, 10, .inr (.inr (.inr (.inr f2)))))] := by rw [ef2]; exact hD
  refine lv_aload_n hx hb dJx4a65c_add_72be8_15 rfl (lv_at hl 0 rfl) ?_
  refine lv_iload_n hx hb dJx4a65c_add_72be8_16 rfl (lv_at hl 3 rfl) ?_
  refine lv_iconst (v := 1) hx hb dJx4a65c_add_72be8_17 (by decide) ?_
  refine lv_iadd hx hb dJx4a65c_add_72be8_18 ?_
  refine zo_i (v := 2) (by decide) ?_
  refine va_put (D := (dC, dI)) (ci := 1) (v := .int 2) (ty := .int) (C := RJx4a65c) (T := TJx4a65c) (N := 3) hx hb hts zi_Jx4a65c_add_72be8_Jx4a65c tyJx4a65c tyJx4a65c_ok nmJx4a65c hown hK hP hD hS 0 rfl rfl 2 (by decide) (hts (.fieldLink RJx4a65c 48 "java/util/ArrayList" "size" "I") (by decide +kernel)) (fun _ h9 => h9) rfl (by decide +kernel) rfl rfl (Nat.le_of_ble_eq_true rfl) dJx4a65c_add_72be8_19 (fun H5 locs hP hD hS => ?_)
  have hP : va_P (dC, dI) vwCl [(h0, .inr (1, [.int 2, .ref oa, .int 2])), (oa, .inl (cO, 10, .inr (.inr (.inr (.inr f2)))))] H5 := hP
  have hD : va_D A [(h0, .inr (1, [.int 2, .ref oa, .int 2])), (oa, .inl (cO, 10, .inr (.inr (.inr (.inr f2)))))] := hD
  refine W.widen (k := 0) (n := 0) (Nat.le_of_ble_eq_true rfl) (Nat.le_of_ble_eq_true rfl) ?_
  have hP9 := hP.sub (ws' := [(h0, .inr (1, [.int 2, .ref oa, .int 2])), (oa, .inl (cO, 10, .inr (.inr (.inr (.inr f2)))))]) [0, 1] rfl
  have hD9 := hD.sub (ws' := [(h0, .inr (1, [.int 2, .ref oa, .int 2])), (oa, .inl (cO, 10, .inr (.inr (.inr (.inr f2)))))]) [0, 1] (by decide) rfl
  have hK9 := hK.sub (tys' := [(cO, .object "java/lang/Object")]) [1] rfl
  exact W.vret hx hb hr (fun t ht hW => ⟨⟨(), rfl, trivial, ⟨f2, ⟨k3, k4⟩, by rw [ht]; exact hP9, hD9, va_K.moved hW.alike hK9⟩⟩, hS.F ht⟩) hS.2.2 dJx4a65c_add_72be8_22
set_option maxHeartbeats 4000000 in
set_option maxRecDepth 100000 in
theorem cz_Qadd_1 (l : Launch) (dC : Nat → ClassId) (dI : Nat → Nat → Nat) (ed sz : Nat) (e1 : Nat) (cE : ClassId) (ne : Nat) (fe : Nat → Int32) (h0 : Nat) (oa : Nat) (cO : ClassId) (fo : Nat → Option Nat) (d0 : Nat) (ho0 : fo 0 = some d0) : Met l yJx4a65c_add_9ea2d wsJx4a65c_add_9ea2d ({ frames := 1, cells := 0, slots := 0, locals := 23 } : Jvm.Room) (va_Pc [.ref h0, .ref e1] (zB dC dI ed sz [(e1, .inl (cE, ne, .inl fe))] [(h0, .inr (1, [.int 1, .ref oa, .int 1])), (oa, .inl (cO, 10, .inr (.inr (.inr (.inr fo)))))] [(cE, .int), (cO, .object "java/lang/Object")])) (va_Qi (fun (r : Int32) (_ : Unit) => r = 1) (fun (_ : Unit) (t : State) => ∃ (go : Nat → Option Nat), (go 0 = some d0 ∧ go 1 = some e1) ∧ va_P (dC, dI) vwCl [(h0, .inr (1, [.int 2, .ref oa, .int 2])), (oa, .inl (cO, 10, .inr (.inr (.inr (.inr go)))))] t.heap ∧ va_D (va_A [(h0, .inr (1, [.int 1, .ref oa, .int 1])), (oa, .inl (cO, 10, .inr (.inr (.inr (.inr fo)))))] sz) [(h0, .inr (1, [.int 2, .ref oa, .int 2])), (oa, .inl (cO, 10, .inr (.inr (.inr (.inr go)))))] ∧ va_K (dC, dI) vwCl [(cO, .object "java/lang/Object")] t) (va_A [(h0, .inr (1, [.int 1, .ref oa, .int 1])), (oa, .inl (cO, 10, .inr (.inr (.inr (.inr fo)))))] sz)) 0 0 (va_A [(h0, .inr (1, [.int 1, .ref oa, .int 1])), (oa, .inl (cO, 10, .inr (.inr (.inr (.inr fo)))))] sz) := by
  refine Met.ofW (cc := cJx4a65c_add_9ea2d) (maxL := 2) (ret := (some .boolean)) (by decide) rfl ?_
  intro p e s m args below meth c s₁ B hml hv
  obtain ⟨rfl, hsz, hR0, hP, hK, hD0, hN, hH, hX0⟩ := hv
  have hx := B.exec
  have hb := B.bytes
  have hr := B.returns
  have hts := atoms_spec (ws := wsJx4a65c_add_9ea2d) B.pre
  have hown : s.vm.findClass RJx4a65c = some m.cls := findClass_of_methodNamed B.named
  have hlocks := B.notSynchronized
  subst hsz
  have hD := hD0.self (sz := s.heap.size)
  have hAr := zx_A hX0 hR0
  generalize hAe : va_A [(h0, .inr (1, [.int 1, .ref oa, .int 1])), (oa, .inl (cO, 10, .inr (.inr (.inr (.inr fo)))))] s.heap.size = A at hD hAr hH ⊢
  have hA : ∀ q : Nat, s.heap.size ≤ q → A q := fun q h => by rw [← hAe]; exact Or.inr h
  have hS : va_S A s.heap s.heap [] := va_S.rf
  have hl := lv_entry ([.ref h0, .ref e1]) (n := 2) (Nat.le_of_ble_eq_true rfl)
  rw [lg_entry_eq]
  generalize (lg_sl ([.ref h0, .ref e1]) ++ List.replicate (2 - (lg_sl ([.ref h0, .ref e1])).length) Slot.unset).toArray = ls at hl ⊢
  have hl : lv_has ls 2 [(0, .ref h0), (1, .ref e1)] := hl
  refine lv_aload_n hx hb dJx4a65c_add_9ea2d_0 rfl (lv_at hl 0 rfl) ?_
  refine lv_dup hx hb dJx4a65c_add_9ea2d_1 rfl ?_
  refine va_get (D := (dC, dI)) (ci := 1) (v := .int 1) (C := RJx4a65c) (T := TJx4a65c) (N := 3) hx hb hts zi_Jx4a65c_add_9ea2d_Jx4a65c hown hK hP 0 rfl rfl 0 (by decide) (hts (.fieldLink RJx4a65c 63 "java/util/ArrayList" "modCount" "I") (by decide +kernel)) (fun x9 h9 => u_same (hts (.sameField "java/util/ArrayList" "java/util/AbstractList" "modCount" "I") (by decide +kernel)) x9 h9) rfl dJx4a65c_add_9ea2d_2 ?_
  refine lv_iconst (v := 1) hx hb dJx4a65c_add_9ea2d_5 (by decide) ?_
  refine lv_iadd hx hb dJx4a65c_add_9ea2d_6 ?_
  refine zo_i (v := 2) (by decide) ?_
  refine va_put (D := (dC, dI)) (ci := 1) (v := .int 2) (ty := .int) (C := RJx4a65c) (T := TJx4a65c) (N := 3) hx hb hts zi_Jx4a65c_add_9ea2d_Jx4a65c tyJx4a65c tyJx4a65c_ok nmJx4a65c hown hK hP hD hS 0 rfl rfl 0 (by decide) (hts (.fieldLink RJx4a65c 63 "java/util/ArrayList" "modCount" "I") (by decide +kernel)) (fun x9 h9 => u_same (hts (.sameField "java/util/ArrayList" "java/util/AbstractList" "modCount" "I") (by decide +kernel)) x9 h9) rfl (by decide +kernel) rfl rfl (Nat.le_of_ble_eq_true rfl) dJx4a65c_add_9ea2d_7 (fun H1 locs hP hD hS => ?_)
  have hP : va_P (dC, dI) vwCl [(h0, .inr (1, [.int 2, .ref oa, .int 1])), (oa, .inl (cO, 10, .inr (.inr (.inr (.inr fo)))))] H1 := hP
  have hD : va_D A [(h0, .inr (1, [.int 2, .ref oa, .int 1])), (oa, .inl (cO, 10, .inr (.inr (.inr (.inr fo)))))] := hD
  refine lv_aload_n hx hb dJx4a65c_add_9ea2d_10 rfl (lv_at hl 0 rfl) ?_
  refine lv_aload_n hx hb dJx4a65c_add_9ea2d_11 rfl (lv_at hl 1 rfl) ?_
  refine lv_aload_n hx hb dJx4a65c_add_9ea2d_12 rfl (lv_at hl 0 rfl) ?_
  refine va_get (D := (dC, dI)) (ci := 1) (v := .ref oa) (C := RJx4a65c) (T := TJx4a65c) (N := 3) hx hb hts zi_Jx4a65c_add_9ea2d_Jx4a65c hown hK hP 0 rfl rfl 1 (by decide) (hts (.fieldLink RJx4a65c 9 "java/util/ArrayList" "elementData" "[Ljava/lang/Object;") (by decide +kernel)) (fun _ h9 => h9) rfl dJx4a65c_add_9ea2d_13 ?_
  refine lv_aload_n hx hb dJx4a65c_add_9ea2d_16 rfl (lv_at hl 0 rfl) ?_
  refine va_get (D := (dC, dI)) (ci := 1) (v := .int 1) (C := RJx4a65c) (T := TJx4a65c) (N := 3) hx hb hts zi_Jx4a65c_add_9ea2d_Jx4a65c hown hK hP 0 rfl rfl 2 (by decide) (hts (.fieldLink RJx4a65c 48 "java/util/ArrayList" "size" "I") (by decide +kernel)) (fun _ h9 => h9) rfl dJx4a65c_add_9ea2d_17 ?_
  have hPr := ((zo_R hR0 hS hAr)).sub (ws' := [(e1, .inl (cE, ne, .inl fe))]) [0] rfl
  have hPc := hP.sub (ws' := [(h0, .inr (1, [.int 2, .ref oa, .int 1])), (oa, .inl (cO, 10, .inr (.inr (.inr (.inr fo)))))]) [0, 1] rfl
  have hDc := hD.sub (ws' := [(h0, .inr (1, [.int 2, .ref oa, .int 1])), (oa, .inl (cO, 10, .inr (.inr (.inr (.inr fo)))))]) [0, 1] (by decide) rfl
  have hKc := hK.sub (tys' := [(cE, .int), (cO, .object "java/lang/Object")]) [0, 1] rfl
  have hFc := va_free (wc := [(h0, .inr (1, [.int 2, .ref oa, .int 1])), (oa, .inl (cO, 10, .inr (.inr (.inr (.inr fo)))))]) hD hS hA [0, 1] rfl
  refine va_callv (va_runV (As := [.ref e1, .ref oa, .int 1]) (rest := []) ⟨hx, hb, hml, hown, hts⟩ (cz_Qadd3_1 l dC dI ed H1.size e1 cE ne fe h0 oa cO fo d0 ho0) (cwV 3 hts gJx4a65c_add_9ea2d_Jx4a65c_add_72be8 rfl rfl rfl (by decide +kernel) ⟨Nat.le_of_ble_eq_true rfl, Nat.le_of_ble_eq_true rfl⟩) ⟨zb_blind, va_recv hK hP (ci := 1) (q0 := 0) rfl rfl, fun U hU hW => ⟨rfl, zb_mk hU hW hPr hPc hKc hDc hN hH hS hFc (zx_cons (zx_r (hAr _ (List.mem_of_getElem? (i := 0) rfl)) hDc) zx_nil)⟩⟩ rfl rfl hl.1 rfl (lv_room (Nat.le_of_ble_eq_true rfl)) dJx4a65c_add_9ea2d_20 ⟨Nat.le_of_ble_eq_true rfl, Nat.le_of_ble_eq_true rfl⟩) hS (fun q _ h => hFc q h) hFc (fun u t H2 locs ht hvm hw hB hz1 hk1 hS => ?_)
  obtain ⟨go_4, ⟨k4_0, k4_1⟩, hP1, hD1, hK1⟩ := hB
  rw [ht] at hP1
  obtain ⟨hP, hD⟩ := va_join (wr := []) (w1 := [(h0, .inr (1, [.int 2, .ref oa, .int 2])), (oa, .inl (cO, 10, .inr (.inr (.inr (.inr go_4)))))]) hP hD [0, 1] [] rfl rfl (by decide) (by decide) hk1 hFc hP1 hD1
  have hP : va_P (dC, dI) vwCl [(h0, .inr (1, [.int 2, .ref oa, .int 2])), (oa, .inl (cO, 10, .inr (.inr (.inr (.inr go_4)))))] H2 := hP
  have hD : va_D A [(h0, .inr (1, [.int 2, .ref oa, .int 2])), (oa, .inl (cO, 10, .inr (.inr (.inr (.inr go_4)))))] := hD
  refine lv_iconst (v := 1) hx hb dJx4a65c_add_9ea2d_23 (by decide) ?_
  refine W.widen (k := 0) (n := 0) (Nat.le_of_ble_eq_true rfl) (Nat.le_of_ble_eq_true rfl) ?_
  have hP9 := hP.sub (ws' := [(h0, .inr (1, [.int 2, .ref oa, .int 2])), (oa, .inl (cO, 10, .inr (.inr (.inr (.inr go_4)))))]) [0, 1] rfl
  have hD9 := hD.sub (ws' := [(h0, .inr (1, [.int 2, .ref oa, .int 2])), (oa, .inl (cO, 10, .inr (.inr (.inr (.inr go_4)))))]) [0, 1] (by decide) rfl
  have hK9 := hK.sub (tys' := [(cO, .object "java/lang/Object")]) [1] rfl
  exact W.zret hx hb hr (by decide) (fun t ht hW => ⟨⟨1, (), rfl, rfl, ⟨go_4, ⟨k4_0, k4_1⟩, by rw [ht]; exact hP9, hD9, va_K.moved hW.alike hK9⟩⟩, hS.F ht⟩) hS.2.2 dJx4a65c_add_9ea2d_24
set_option maxHeartbeats 4000000 in
set_option maxRecDepth 100000 in
theorem cz_Qadd3_2 (l : Launch) (dC : Nat → ClassId) (dI : Nat → Nat → Nat) (ed sz : Nat) (e1 : Nat) (cE : ClassId) (ne : Nat) (fe : Nat → Int32) (h0 : Nat) (oa : Nat) (cO : ClassId) (fo : Nat → Option Nat) (d0 : Nat) (d1 : Nat) (ho0 : fo 0 = some d0) (ho1 : fo 1 = some d1) : Met l yJx4a65c_add_72be8 wsJx4a65c_add_72be8 ({ frames := 0, cells := 0, slots := 0, locals := 0 } : Jvm.Room) (va_Pc [.ref h0, .ref e1, .ref oa, .int 2] (zB dC dI ed sz [(e1, .inl (cE, ne, .inl fe))] [(h0, .inr (1, [.int 3, .ref oa, .int 2])), (oa, .inl (cO, 10, .inr (.inr (.inr (.inr fo)))))] [(cE, .int), (cO, .object "java/lang/Object")])) (va_Qv (fun (_ : Unit) => True) (fun (_ : Unit) (t : State) => ∃ (go : Nat → Option Nat), (go 0 = some d0 ∧ go 1 = some d1 ∧ go 2 = some e1) ∧ va_P (dC, dI) vwCl [(h0, .inr (1, [.int 3, .ref oa, .int 3])), (oa, .inl (cO, 10, .inr (.inr (.inr (.inr go)))))] t.heap ∧ va_D (va_A [(h0, .inr (1, [.int 3, .ref oa, .int 2])), (oa, .inl (cO, 10, .inr (.inr (.inr (.inr fo)))))] sz) [(h0, .inr (1, [.int 3, .ref oa, .int 3])), (oa, .inl (cO, 10, .inr (.inr (.inr (.inr go)))))] ∧ va_K (dC, dI) vwCl [(cO, .object "java/lang/Object")] t) (va_A [(h0, .inr (1, [.int 3, .ref oa, .int 2])), (oa, .inl (cO, 10, .inr (.inr (.inr (.inr fo)))))] sz)) 0 0 (va_A [(h0, .inr (1, [.int 3, .ref oa, .int 2])), (oa, .inl (cO, 10, .inr (.inr (.inr (.inr fo)))))] sz) := by
  refine Met.ofW (cc := cJx4a65c_add_72be8) (maxL := 4) (ret := none) (by decide) rfl ?_
  intro p e s m args below meth c s₁ B hml hv
  obtain ⟨rfl, hsz, hR0, hP, hK, hD0, hN, hH, hX0⟩ := hv
  have hx := B.exec
  have hb := B.bytes
  have hr := B.returns
  have hts := atoms_spec (ws := wsJx4a65c_add_72be8) B.pre
  have hown : s.vm.findClass RJx4a65c = some m.cls := findClass_of_methodNamed B.named
  have hlocks := B.notSynchronized
  subst hsz
  have hD := hD0.self (sz := s.heap.size)
  have hAr := zx_A hX0 hR0
  generalize hAe : va_A [(h0, .inr (1, [.int 3, .ref oa, .int 2])), (oa, .inl (cO, 10, .inr (.inr (.inr (.inr fo)))))] s.heap.size = A at hD hAr hH ⊢
  have hA : ∀ q : Nat, s.heap.size ≤ q → A q := fun q h => by rw [← hAe]; exact Or.inr h
  have hS : va_S A s.heap s.heap [] := va_S.rf
  have hl := lv_entry ([.ref h0, .ref e1, .ref oa, .int 2]) (n := 4) (Nat.le_of_ble_eq_true rfl)
  rw [lg_entry_eq]
  generalize (lg_sl ([.ref h0, .ref e1, .ref oa, .int 2]) ++ List.replicate (4 - (lg_sl ([.ref h0, .ref e1, .ref oa, .int 2])).length) Slot.unset).toArray = ls at hl ⊢
  have hl : lv_has ls 4 [(0, .ref h0), (1, .ref e1), (2, .ref oa), (3, .int 2)] := hl
  refine lv_iload_n hx hb dJx4a65c_add_72be8_0 rfl (lv_at hl 3 rfl) ?_
  refine lv_aload_n hx hb dJx4a65c_add_72be8_1 rfl (lv_at hl 2 rfl) ?_
  refine va_alen hx hb hK hP 1 1 rfl rfl (v := 10) (by exact rfl) dJx4a65c_add_72be8_2 ?_
  refine lv_icmp_ne (tgt := 11) hx hb dJx4a65c_add_72be8_3 (by decide) (fun _ => ?_) (fun h => absurd h (by decide))
  refine lv_aload_n hx hb dJx4a65c_add_72be8_11 rfl (lv_at hl 2 rfl) ?_
  refine lv_iload_n hx hb dJx4a65c_add_72be8_12 rfl (lv_at hl 3 rfl) ?_
  refine lv_aload_n hx hb dJx4a65c_add_72be8_13 rfl (lv_at hl 1 rfl) ?_
  refine va_astqM hx hb hK hP hD hS 1 1 rfl rfl (zo_anyI hK hR0 0 0 rfl rfl (hN.2.2.2.2.1 ("[I", "java/lang/Object") (by decide))) (by unfold vp_in; decide) dJx4a65c_add_72be8_14 (fun H1 locs hP hD hS => ?_)
  obtain ⟨f2, ef2⟩ : ∃ z : Nat → Option Nat, z = va_up fo 2 (some e1) := ⟨_, rfl⟩
  have k3 : f2 0 = some d0 := by rw [ef2]; exact (va_up_ne _ _ (by decide)).trans (ho0)
  have k4 : f2 1 = some d1 := by rw [ef2]; exact (va_up_ne _ _ (by decide)).trans (ho1)
  have k5 : f2 2 = some e1 := by rw [ef2]; exact va_up_self _ _ _
  have hP : va_P (dC, dI) vwCl [(h0, .inr (1, [.int 3, .ref oa, .int 2])), (oa, .inl (cO, 10, .inr (.inr (.inr (.inr f2)))))] H1 := by rw [ef2]; exact hP
  have hD : va_D A [(h0, .inr (1, [.int 3, .ref oa, .int 2])), (oa, .inl (cO, 10, .inr (.inr (.inr (.inr f2)))))] := by rw [ef2]; exact hD
  refine lv_aload_n hx hb dJx4a65c_add_72be8_15 rfl (lv_at hl 0 rfl) ?_
  refine lv_iload_n hx hb dJx4a65c_add_72be8_16 rfl (lv_at hl 3 rfl) ?_
  refine lv_iconst (v := 1) hx hb dJx4a65c_add_72be8_17 (by decide) ?_
  refine lv_iadd hx hb dJx4a65c_add_72be8_18 ?_
  refine zo_i (v := 3) (by decide) ?_
  refine va_put (D := (dC, dI)) (ci := 1) (v := .int 3) (ty := .int) (C := RJx4a65c) (T := TJx4a65c) (N := 3) hx hb hts zi_Jx4a65c_add_72be8_Jx4a65c tyJx4a65c tyJx4a65c_ok nmJx4a65c hown hK hP hD hS 0 rfl rfl 2 (by decide) (hts (.fieldLink RJx4a65c 48 "java/util/ArrayList" "size" "I") (by decide +kernel)) (fun _ h9 => h9) rfl (by decide +kernel) rfl rfl (Nat.le_of_ble_eq_true rfl) dJx4a65c_add_72be8_19 (fun H6 locs hP hD hS => ?_)
  have hP : va_P (dC, dI) vwCl [(h0, .inr (1, [.int 3, .ref oa, .int 3])), (oa, .inl (cO, 10, .inr (.inr (.inr (.inr f2)))))] H6 := hP
  have hD : va_D A [(h0, .inr (1, [.int 3, .ref oa, .int 3])), (oa, .inl (cO, 10, .inr (.inr (.inr (.inr f2)))))] := hD
  refine W.widen (k := 0) (n := 0) (Nat.le_of_ble_eq_true rfl) (Nat.le_of_ble_eq_true rfl) ?_
  have hP9 := hP.sub (ws' := [(h0, .inr (1, [.int 3, .ref oa, .int 3])), (oa, .inl (cO, 10, .inr (.inr (.inr (.inr f2)))))]) [0, 1] rfl
  have hD9 := hD.sub (ws' := [(h0, .inr (1, [.int 3, .ref oa, .int 3])), (oa, .inl (cO, 10, .inr (.inr (.inr (.inr f2)))))]) [0, 1] (by decide) rfl
  have hK9 := hK.sub (tys' := [(cO, .object "java/lang/Object")]) [1] rfl
  exact W.vret hx hb hr (fun t ht hW => ⟨⟨(), rfl, trivial, ⟨f2, ⟨k3, k4, k5⟩, by rw [ht]; exact hP9, hD9, va_K.moved hW.alike hK9⟩⟩, hS.F ht⟩) hS.2.2 dJx4a65c_add_72be8_22
set_option maxHeartbeats 4000000 in
set_option maxRecDepth 100000 in
theorem cz_Qadd_2 (l : Launch) (dC : Nat → ClassId) (dI : Nat → Nat → Nat) (ed sz : Nat) (e1 : Nat) (cE : ClassId) (ne : Nat) (fe : Nat → Int32) (h0 : Nat) (oa : Nat) (cO : ClassId) (fo : Nat → Option Nat) (d0 : Nat) (d1 : Nat) (ho0 : fo 0 = some d0) (ho1 : fo 1 = some d1) : Met l yJx4a65c_add_9ea2d wsJx4a65c_add_9ea2d ({ frames := 1, cells := 0, slots := 0, locals := 23 } : Jvm.Room) (va_Pc [.ref h0, .ref e1] (zB dC dI ed sz [(e1, .inl (cE, ne, .inl fe))] [(h0, .inr (1, [.int 2, .ref oa, .int 2])), (oa, .inl (cO, 10, .inr (.inr (.inr (.inr fo)))))] [(cE, .int), (cO, .object "java/lang/Object")])) (va_Qi (fun (r : Int32) (_ : Unit) => r = 1) (fun (_ : Unit) (t : State) => ∃ (go : Nat → Option Nat), (go 0 = some d0 ∧ go 1 = some d1 ∧ go 2 = some e1) ∧ va_P (dC, dI) vwCl [(h0, .inr (1, [.int 3, .ref oa, .int 3])), (oa, .inl (cO, 10, .inr (.inr (.inr (.inr go)))))] t.heap ∧ va_D (va_A [(h0, .inr (1, [.int 2, .ref oa, .int 2])), (oa, .inl (cO, 10, .inr (.inr (.inr (.inr fo)))))] sz) [(h0, .inr (1, [.int 3, .ref oa, .int 3])), (oa, .inl (cO, 10, .inr (.inr (.inr (.inr go)))))] ∧ va_K (dC, dI) vwCl [(cO, .object "java/lang/Object")] t) (va_A [(h0, .inr (1, [.int 2, .ref oa, .int 2])), (oa, .inl (cO, 10, .inr (.inr (.inr (.inr fo)))))] sz)) 0 0 (va_A [(h0, .inr (1, [.int 2, .ref oa, .int 2])), (oa, .inl (cO, 10, .inr (.inr (.inr (.inr fo)))))] sz) := by
  refine Met.ofW (cc := cJx4a65c_add_9ea2d) (maxL := 2) (ret := (some .boolean)) (by decide) rfl ?_
  intro p e s m args below meth c s₁ B hml hv
  obtain ⟨rfl, hsz, hR0, hP, hK, hD0, hN, hH, hX0⟩ := hv
  have hx := B.exec
  have hb := B.bytes
  have hr := B.returns
  have hts := atoms_spec (ws := wsJx4a65c_add_9ea2d) B.pre
  have hown : s.vm.findClass RJx4a65c = some m.cls := findClass_of_methodNamed B.named
  have hlocks := B.notSynchronized
  subst hsz
  have hD := hD0.self (sz := s.heap.size)
  have hAr := zx_A hX0 hR0
  generalize hAe : va_A [(h0, .inr (1, [.int 2, .ref oa, .int 2])), (oa, .inl (cO, 10, .inr (.inr (.inr (.inr fo)))))] s.heap.size = A at hD hAr hH ⊢
  have hA : ∀ q : Nat, s.heap.size ≤ q → A q := fun q h => by rw [← hAe]; exact Or.inr h
  have hS : va_S A s.heap s.heap [] := va_S.rf
  have hl := lv_entry ([.ref h0, .ref e1]) (n := 2) (Nat.le_of_ble_eq_true rfl)
  rw [lg_entry_eq]
  generalize (lg_sl ([.ref h0, .ref e1]) ++ List.replicate (2 - (lg_sl ([.ref h0, .ref e1])).length) Slot.unset).toArray = ls at hl ⊢
  have hl : lv_has ls 2 [(0, .ref h0), (1, .ref e1)] := hl
  refine lv_aload_n hx hb dJx4a65c_add_9ea2d_0 rfl (lv_at hl 0 rfl) ?_
  refine lv_dup hx hb dJx4a65c_add_9ea2d_1 rfl ?_
  refine va_get (D := (dC, dI)) (ci := 1) (v := .int 2) (C := RJx4a65c) (T := TJx4a65c) (N := 3) hx hb hts zi_Jx4a65c_add_9ea2d_Jx4a65c hown hK hP 0 rfl rfl 0 (by decide) (hts (.fieldLink RJx4a65c 63 "java/util/ArrayList" "modCount" "I") (by decide +kernel)) (fun x9 h9 => u_same (hts (.sameField "java/util/ArrayList" "java/util/AbstractList" "modCount" "I") (by decide +kernel)) x9 h9) rfl dJx4a65c_add_9ea2d_2 ?_
  refine lv_iconst (v := 1) hx hb dJx4a65c_add_9ea2d_5 (by decide) ?_
  refine lv_iadd hx hb dJx4a65c_add_9ea2d_6 ?_
  refine zo_i (v := 3) (by decide) ?_
  refine va_put (D := (dC, dI)) (ci := 1) (v := .int 3) (ty := .int) (C := RJx4a65c) (T := TJx4a65c) (N := 3) hx hb hts zi_Jx4a65c_add_9ea2d_Jx4a65c tyJx4a65c tyJx4a65c_ok nmJx4a65c hown hK hP hD hS 0 rfl rfl 0 (by decide) (hts (.fieldLink RJx4a65c 63 "java/util/ArrayList" "modCount" "I") (by decide +kernel)) (fun x9 h9 => u_same (hts (.sameField "java/util/ArrayList" "java/util/AbstractList" "modCount" "I") (by decide +kernel)) x9 h9) rfl (by decide +kernel) rfl rfl (Nat.le_of_ble_eq_true rfl) dJx4a65c_add_9ea2d_7 (fun H1 locs hP hD hS => ?_)
  have hP : va_P (dC, dI) vwCl [(h0, .inr (1, [.int 3, .ref oa, .int 2])), (oa, .inl (cO, 10, .inr (.inr (.inr (.inr fo)))))] H1 := hP
  have hD : va_D A [(h0, .inr (1, [.int 3, .ref oa, .int 2])), (oa, .inl (cO, 10, .inr (.inr (.inr (.inr fo)))))] := hD
  refine lv_aload_n hx hb dJx4a65c_add_9ea2d_10 rfl (lv_at hl 0 rfl) ?_
  refine lv_aload_n hx hb dJx4a65c_add_9ea2d_11 rfl (lv_at hl 1 rfl) ?_
  refine lv_aload_n hx hb dJx4a65c_add_9ea2d_12 rfl (lv_at hl 0 rfl) ?_
  refine va_get (D := (dC, dI)) (ci := 1) (v := .ref oa) (C := RJx4a65c) (T := TJx4a65c) (N := 3) hx hb hts zi_Jx4a65c_add_9ea2d_Jx4a65c hown hK hP 0 rfl rfl 1 (by decide) (hts (.fieldLink RJx4a65c 9 "java/util/ArrayList" "elementData" "[Ljava/lang/Object;") (by decide +kernel)) (fun _ h9 => h9) rfl dJx4a65c_add_9ea2d_13 ?_
  refine lv_aload_n hx hb dJx4a65c_add_9ea2d_16 rfl (lv_at hl 0 rfl) ?_
  refine va_get (D := (dC, dI)) (ci := 1) (v := .int 2) (C := RJx4a65c) (T := TJx4a65c) (N := 3) hx hb hts zi_Jx4a65c_add_9ea2d_Jx4a65c hown hK hP 0 rfl rfl 2 (by decide) (hts (.fieldLink RJx4a65c 48 "java/util/ArrayList" "size" "I") (by decide +kernel)) (fun _ h9 => h9) rfl dJx4a65c_add_9ea2d_17 ?_
  have hPr := ((zo_R hR0 hS hAr)).sub (ws' := [(e1, .inl (cE, ne, .inl fe))]) [0] rfl
  have hPc := hP.sub (ws' := [(h0, .inr (1, [.int 3, .ref oa, .int 2])), (oa, .inl (cO, 10, .inr (.inr (.inr (.inr fo)))))]) [0, 1] rfl
  have hDc := hD.sub (ws' := [(h0, .inr (1, [.int 3, .ref oa, .int 2])), (oa, .inl (cO, 10, .inr (.inr (.inr (.inr fo)))))]) [0, 1] (by decide) rfl
  have hKc := hK.sub (tys' := [(cE, .int), (cO, .object "java/lang/Object")]) [0, 1] rfl
  have hFc := va_free (wc := [(h0, .inr (1, [.int 3, .ref oa, .int 2])), (oa, .inl (cO, 10, .inr (.inr (.inr (.inr fo)))))]) hD hS hA [0, 1] rfl
  refine va_callv (va_runV (As := [.ref e1, .ref oa, .int 2]) (rest := []) ⟨hx, hb, hml, hown, hts⟩ (cz_Qadd3_2 l dC dI ed H1.size e1 cE ne fe h0 oa cO fo d0 d1 ho0 ho1) (cwV 3 hts gJx4a65c_add_9ea2d_Jx4a65c_add_72be8 rfl rfl rfl (by decide +kernel) ⟨Nat.le_of_ble_eq_true rfl, Nat.le_of_ble_eq_true rfl⟩) ⟨zb_blind, va_recv hK hP (ci := 1) (q0 := 0) rfl rfl, fun U hU hW => ⟨rfl, zb_mk hU hW hPr hPc hKc hDc hN hH hS hFc (zx_cons (zx_r (hAr _ (List.mem_of_getElem? (i := 0) rfl)) hDc) zx_nil)⟩⟩ rfl rfl hl.1 rfl (lv_room (Nat.le_of_ble_eq_true rfl)) dJx4a65c_add_9ea2d_20 ⟨Nat.le_of_ble_eq_true rfl, Nat.le_of_ble_eq_true rfl⟩) hS (fun q _ h => hFc q h) hFc (fun u t H2 locs ht hvm hw hB hz1 hk1 hS => ?_)
  obtain ⟨go_4, ⟨k4_0, k4_1, k4_2⟩, hP1, hD1, hK1⟩ := hB
  rw [ht] at hP1
  obtain ⟨hP, hD⟩ := va_join (wr := []) (w1 := [(h0, .inr (1, [.int 3, .ref oa, .int 3])), (oa, .inl (cO, 10, .inr (.inr (.inr (.inr go_4)))))]) hP hD [0, 1] [] rfl rfl (by decide) (by decide) hk1 hFc hP1 hD1
  have hP : va_P (dC, dI) vwCl [(h0, .inr (1, [.int 3, .ref oa, .int 3])), (oa, .inl (cO, 10, .inr (.inr (.inr (.inr go_4)))))] H2 := hP
  have hD : va_D A [(h0, .inr (1, [.int 3, .ref oa, .int 3])), (oa, .inl (cO, 10, .inr (.inr (.inr (.inr go_4)))))] := hD
  refine lv_iconst (v := 1) hx hb dJx4a65c_add_9ea2d_23 (by decide) ?_
  refine W.widen (k := 0) (n := 0) (Nat.le_of_ble_eq_true rfl) (Nat.le_of_ble_eq_true rfl) ?_
  have hP9 := hP.sub (ws' := [(h0, .inr (1, [.int 3, .ref oa, .int 3])), (oa, .inl (cO, 10, .inr (.inr (.inr (.inr go_4)))))]) [0, 1] rfl
  have hD9 := hD.sub (ws' := [(h0, .inr (1, [.int 3, .ref oa, .int 3])), (oa, .inl (cO, 10, .inr (.inr (.inr (.inr go_4)))))]) [0, 1] (by decide) rfl
  have hK9 := hK.sub (tys' := [(cO, .object "java/lang/Object")]) [1] rfl
  exact W.zret hx hb hr (by decide) (fun t ht hW => ⟨⟨1, (), rfl, rfl, ⟨go_4, ⟨k4_0, k4_1, k4_2⟩, by rw [ht]; exact hP9, hD9, va_K.moved hW.alike hK9⟩⟩, hS.F ht⟩) hS.2.2 dJx4a65c_add_9ea2d_24
set_option maxHeartbeats 4000000 in
set_option maxRecDepth 100000 in
theorem cz_Qadd3_3 (l : Launch) (dC : Nat → ClassId) (dI : Nat → Nat → Nat) (ed sz : Nat) (e1 : Nat) (cE : ClassId) (ne : Nat) (fe : Nat → Int32) (h0 : Nat) (oa : Nat) (cO : ClassId) (fo : Nat → Option Nat) (d0 : Nat) (d1 : Nat) (d2 : Nat) (ho0 : fo 0 = some d0) (ho1 : fo 1 = some d1) (ho2 : fo 2 = some d2) : Met l yJx4a65c_add_72be8 wsJx4a65c_add_72be8 ({ frames := 0, cells := 0, slots := 0, locals := 0 } : Jvm.Room) (va_Pc [.ref h0, .ref e1, .ref oa, .int 3] (zB dC dI ed sz [(e1, .inl (cE, ne, .inl fe))] [(h0, .inr (1, [.int 4, .ref oa, .int 3])), (oa, .inl (cO, 10, .inr (.inr (.inr (.inr fo)))))] [(cE, .int), (cO, .object "java/lang/Object")])) (va_Qv (fun (_ : Unit) => True) (fun (_ : Unit) (t : State) => ∃ (go : Nat → Option Nat), (go 0 = some d0 ∧ go 1 = some d1 ∧ go 2 = some d2 ∧ go 3 = some e1) ∧ va_P (dC, dI) vwCl [(h0, .inr (1, [.int 4, .ref oa, .int 4])), (oa, .inl (cO, 10, .inr (.inr (.inr (.inr go)))))] t.heap ∧ va_D (va_A [(h0, .inr (1, [.int 4, .ref oa, .int 3])), (oa, .inl (cO, 10, .inr (.inr (.inr (.inr fo)))))] sz) [(h0, .inr (1, [.int 4, .ref oa, .int 4])), (oa, .inl (cO, 10, .inr (.inr (.inr (.inr go)))))] ∧ va_K (dC, dI) vwCl [(cO, .object "java/lang/Object")] t) (va_A [(h0, .inr (1, [.int 4, .ref oa, .int 3])), (oa, .inl (cO, 10, .inr (.inr (.inr (.inr fo)))))] sz)) 0 0 (va_A [(h0, .inr (1, [.int 4, .ref oa, .int 3])), (oa, .inl (cO, 10, .inr (.inr (.inr (.inr fo)))))] sz) := by
  refine Met.ofW (cc := cJx4a65c_add_72be8) (maxL := 4) (ret := none) (by decide) rfl ?_
  intro p e s m args below meth c s₁ B hml hv
  obtain ⟨rfl, hsz, hR0, hP, hK, hD0, hN, hH, hX0⟩ := hv
  have hx := B.exec
  have hb := B.bytes
  have hr := B.returns
  have hts := atoms_spec (ws := wsJx4a65c_add_72be8) B.pre
  have hown : s.vm.findClass RJx4a65c = some m.cls := findClass_of_methodNamed B.named
  have hlocks := B.notSynchronized
  subst hsz
  have hD := hD0.self (sz := s.heap.size)
  have hAr := zx_A hX0 hR0
  generalize hAe : va_A [(h0, .inr (1, [.int 4, .ref oa, .int 3])), (oa, .inl (cO, 10, .inr (.inr (.inr (.inr fo)))))] s.heap.size = A at hD hAr hH ⊢
  have hA : ∀ q : Nat, s.heap.size ≤ q → A q := fun q h => by rw [← hAe]; exact Or.inr h
  have hS : va_S A s.heap s.heap [] := va_S.rf
  have hl := lv_entry ([.ref h0, .ref e1, .ref oa, .int 3]) (n := 4) (Nat.le_of_ble_eq_true rfl)
  rw [lg_entry_eq]
  generalize (lg_sl ([.ref h0, .ref e1, .ref oa, .int 3]) ++ List.replicate (4 - (lg_sl ([.ref h0, .ref e1, .ref oa, .int 3])).length) Slot.unset).toArray = ls at hl ⊢
  have hl : lv_has ls 4 [(0, .ref h0), (1, .ref e1), (2, .ref oa), (3, .int 3)] := hl
  refine lv_iload_n hx hb dJx4a65c_add_72be8_0 rfl (lv_at hl 3 rfl) ?_
  refine lv_aload_n hx hb dJx4a65c_add_72be8_1 rfl (lv_at hl 2 rfl) ?_
  refine va_alen hx hb hK hP 1 1 rfl rfl (v := 10) (by exact rfl) dJx4a65c_add_72be8_2 ?_
  refine lv_icmp_ne (tgt := 11) hx hb dJx4a65c_add_72be8_3 (by decide) (fun _ => ?_) (fun h => absurd h (by decide))
  refine lv_aload_n hx hb dJx4a65c_add_72be8_11 rfl (lv_at hl 2 rfl) ?_
  refine lv_iload_n hx hb dJx4a65c_add_72be8_12 rfl (lv_at hl 3 rfl) ?_
  refine lv_aload_n hx hb dJx4a65c_add_72be8_13 rfl (lv_at hl 1 rfl) ?_
  refine va_astqM hx hb hK hP hD hS 1 1 rfl rfl (zo_anyI hK hR0 0 0 rfl rfl (hN.2.2.2.2.1 ("[I", "java/lang/Object") (by decide))) (by unfold vp_in; decide) dJx4a65c_add_72be8_14 (fun H1 locs hP hD hS => ?_)
  obtain ⟨f2, ef2⟩ : ∃ z : Nat → Option Nat, z = va_up fo 3 (some e1) := ⟨_, rfl⟩
  have k3 : f2 0 = some d0 := by rw [ef2]; exact (va_up_ne _ _ (by decide)).trans (ho0)
  have k4 : f2 1 = some d1 := by rw [ef2]; exact (va_up_ne _ _ (by decide)).trans (ho1)
  have k5 : f2 2 = some d2 := by rw [ef2]; exact (va_up_ne _ _ (by decide)).trans (ho2)
  have k6 : f2 3 = some e1 := by rw [ef2]; exact va_up_self _ _ _
  have hP : va_P (dC, dI) vwCl [(h0, .inr (1, [.int 4, .ref oa, .int 3])), (oa, .inl (cO, 10, .inr (.inr (.inr (.inr f2)))))] H1 := by rw [ef2]; exact hP
  have hD : va_D A [(h0, .inr (1, [.int 4, .ref oa, .int 3])), (oa, .inl (cO, 10, .inr (.inr (.inr (.inr f2)))))] := by rw [ef2]; exact hD
  refine lv_aload_n hx hb dJx4a65c_add_72be8_15 rfl (lv_at hl 0 rfl) ?_
  refine lv_iload_n hx hb dJx4a65c_add_72be8_16 rfl (lv_at hl 3 rfl) ?_
  refine lv_iconst (v := 1) hx hb dJx4a65c_add_72be8_17 (by decide) ?_
  refine lv_iadd hx hb dJx4a65c_add_72be8_18 ?_
  refine zo_i (v := 4) (by decide) ?_
  refine va_put (D := (dC, dI)) (ci := 1) (v := .int 4) (ty := .int) (C := RJx4a65c) (T := TJx4a65c) (N := 3) hx hb hts zi_Jx4a65c_add_72be8_Jx4a65c tyJx4a65c tyJx4a65c_ok nmJx4a65c hown hK hP hD hS 0 rfl rfl 2 (by decide) (hts (.fieldLink RJx4a65c 48 "java/util/ArrayList" "size" "I") (by decide +kernel)) (fun _ h9 => h9) rfl (by decide +kernel) rfl rfl (Nat.le_of_ble_eq_true rfl) dJx4a65c_add_72be8_19 (fun H7 locs hP hD hS => ?_)
  have hP : va_P (dC, dI) vwCl [(h0, .inr (1, [.int 4, .ref oa, .int 4])), (oa, .inl (cO, 10, .inr (.inr (.inr (.inr f2)))))] H7 := hP
  have hD : va_D A [(h0, .inr (1, [.int 4, .ref oa, .int 4])), (oa, .inl (cO, 10, .inr (.inr (.inr (.inr f2)))))] := hD
  refine W.widen (k := 0) (n := 0) (Nat.le_of_ble_eq_true rfl) (Nat.le_of_ble_eq_true rfl) ?_
  have hP9 := hP.sub (ws' := [(h0, .inr (1, [.int 4, .ref oa, .int 4])), (oa, .inl (cO, 10, .inr (.inr (.inr (.inr f2)))))]) [0, 1] rfl
  have hD9 := hD.sub (ws' := [(h0, .inr (1, [.int 4, .ref oa, .int 4])), (oa, .inl (cO, 10, .inr (.inr (.inr (.inr f2)))))]) [0, 1] (by decide) rfl
  have hK9 := hK.sub (tys' := [(cO, .object "java/lang/Object")]) [1] rfl
  exact W.vret hx hb hr (fun t ht hW => ⟨⟨(), rfl, trivial, ⟨f2, ⟨k3, k4, k5, k6⟩, by rw [ht]; exact hP9, hD9, va_K.moved hW.alike hK9⟩⟩, hS.F ht⟩) hS.2.2 dJx4a65c_add_72be8_22
set_option maxHeartbeats 4000000 in
set_option maxRecDepth 100000 in
theorem cz_Qadd_3 (l : Launch) (dC : Nat → ClassId) (dI : Nat → Nat → Nat) (ed sz : Nat) (e1 : Nat) (cE : ClassId) (ne : Nat) (fe : Nat → Int32) (h0 : Nat) (oa : Nat) (cO : ClassId) (fo : Nat → Option Nat) (d0 : Nat) (d1 : Nat) (d2 : Nat) (ho0 : fo 0 = some d0) (ho1 : fo 1 = some d1) (ho2 : fo 2 = some d2) : Met l yJx4a65c_add_9ea2d wsJx4a65c_add_9ea2d ({ frames := 1, cells := 0, slots := 0, locals := 23 } : Jvm.Room) (va_Pc [.ref h0, .ref e1] (zB dC dI ed sz [(e1, .inl (cE, ne, .inl fe))] [(h0, .inr (1, [.int 3, .ref oa, .int 3])), (oa, .inl (cO, 10, .inr (.inr (.inr (.inr fo)))))] [(cE, .int), (cO, .object "java/lang/Object")])) (va_Qi (fun (r : Int32) (_ : Unit) => r = 1) (fun (_ : Unit) (t : State) => ∃ (go : Nat → Option Nat), (go 0 = some d0 ∧ go 1 = some d1 ∧ go 2 = some d2 ∧ go 3 = some e1) ∧ va_P (dC, dI) vwCl [(h0, .inr (1, [.int 4, .ref oa, .int 4])), (oa, .inl (cO, 10, .inr (.inr (.inr (.inr go)))))] t.heap ∧ va_D (va_A [(h0, .inr (1, [.int 3, .ref oa, .int 3])), (oa, .inl (cO, 10, .inr (.inr (.inr (.inr fo)))))] sz) [(h0, .inr (1, [.int 4, .ref oa, .int 4])), (oa, .inl (cO, 10, .inr (.inr (.inr (.inr go)))))] ∧ va_K (dC, dI) vwCl [(cO, .object "java/lang/Object")] t) (va_A [(h0, .inr (1, [.int 3, .ref oa, .int 3])), (oa, .inl (cO, 10, .inr (.inr (.inr (.inr fo)))))] sz)) 0 0 (va_A [(h0, .inr (1, [.int 3, .ref oa, .int 3])), (oa, .inl (cO, 10, .inr (.inr (.inr (.inr fo)))))] sz) := by
  refine Met.ofW (cc := cJx4a65c_add_9ea2d) (maxL := 2) (ret := (some .boolean)) (by decide) rfl ?_
  intro p e s m args below meth c s₁ B hml hv
  obtain ⟨rfl, hsz, hR0, hP, hK, hD0, hN, hH, hX0⟩ := hv
  have hx := B.exec
  have hb := B.bytes
  have hr := B.returns
  have hts := atoms_spec (ws := wsJx4a65c_add_9ea2d) B.pre
  have hown : s.vm.findClass RJx4a65c = some m.cls := findClass_of_methodNamed B.named
  have hlocks := B.notSynchronized
  subst hsz
  have hD := hD0.self (sz := s.heap.size)
  have hAr := zx_A hX0 hR0
  generalize hAe : va_A [(h0, .inr (1, [.int 3, .ref oa, .int 3])), (oa, .inl (cO, 10, .inr (.inr (.inr (.inr fo)))))] s.heap.size = A at hD hAr hH ⊢
  have hA : ∀ q : Nat, s.heap.size ≤ q → A q := fun q h => by rw [← hAe]; exact Or.inr h
  have hS : va_S A s.heap s.heap [] := va_S.rf
  have hl := lv_entry ([.ref h0, .ref e1]) (n := 2) (Nat.le_of_ble_eq_true rfl)
  rw [lg_entry_eq]
  generalize (lg_sl ([.ref h0, .ref e1]) ++ List.replicate (2 - (lg_sl ([.ref h0, .ref e1])).length) Slot.unset).toArray = ls at hl ⊢
  have hl : lv_has ls 2 [(0, .ref h0), (1, .ref e1)] := hl
  refine lv_aload_n hx hb dJx4a65c_add_9ea2d_0 rfl (lv_at hl 0 rfl) ?_
  refine lv_dup hx hb dJx4a65c_add_9ea2d_1 rfl ?_
  refine va_get (D := (dC, dI)) (ci := 1) (v := .int 3) (C := RJx4a65c) (T := TJx4a65c) (N := 3) hx hb hts zi_Jx4a65c_add_9ea2d_Jx4a65c hown hK hP 0 rfl rfl 0 (by decide) (hts (.fieldLink RJx4a65c 63 "java/util/ArrayList" "modCount" "I") (by decide +kernel)) (fun x9 h9 => u_same (hts (.sameField "java/util/ArrayList" "java/util/AbstractList" "modCount" "I") (by decide +kernel)) x9 h9) rfl dJx4a65c_add_9ea2d_2 ?_
  refine lv_iconst (v := 1) hx hb dJx4a65c_add_9ea2d_5 (by decide) ?_
  refine lv_iadd hx hb dJx4a65c_add_9ea2d_6 ?_
  refine zo_i (v := 4) (by decide) ?_
  refine va_put (D := (dC, dI)) (ci := 1) (v := .int 4) (ty := .int) (C := RJx4a65c) (T := TJx4a65c) (N := 3) hx hb hts zi_Jx4a65c_add_9ea2d_Jx4a65c tyJx4a65c tyJx4a65c_ok nmJx4a65c hown hK hP hD hS 0 rfl rfl 0 (by decide) (hts (.fieldLink RJx4a65c 63 "java/util/ArrayList" "modCount" "I") (by decide +kernel)) (fun x9 h9 => u_same (hts (.sameField "java/util/ArrayList" "java/util/AbstractList" "modCount" "I") (by decide +kernel)) x9 h9) rfl (by decide +kernel) rfl rfl (Nat.le_of_ble_eq_true rfl) dJx4a65c_add_9ea2d_7 (fun H1 locs hP hD hS => ?_)
  have hP : va_P (dC, dI) vwCl [(h0, .inr (1, [.int 4, .ref oa, .int 3])), (oa, .inl (cO, 10, .inr (.inr (.inr (.inr fo)))))] H1 := hP
  have hD : va_D A [(h0, .inr (1, [.int 4, .ref oa, .int 3])), (oa, .inl (cO, 10, .inr (.inr (.inr (.inr fo)))))] := hD
  refine lv_aload_n hx hb dJx4a65c_add_9ea2d_10 rfl (lv_at hl 0 rfl) ?_
  refine lv_aload_n hx hb dJx4a65c_add_9ea2d_11 rfl (lv_at hl 1 rfl) ?_
  refine lv_aload_n hx hb dJx4a65c_add_9ea2d_12 rfl (lv_at hl 0 rfl) ?_
  refine va_get (D := (dC, dI)) (ci := 1) (v := .ref oa) (C := RJx4a65c) (T := TJx4a65c) (N := 3) hx hb hts zi_Jx4a65c_add_9ea2d_Jx4a65c hown hK hP 0 rfl rfl 1 (by decide) (hts (.fieldLink RJx4a65c 9 "java/util/ArrayList" "elementData" "[Ljava/lang/Object;") (by decide +kernel)) (fun _ h9 => h9) rfl dJx4a65c_add_9ea2d_13 ?_
  refine lv_aload_n hx hb dJx4a65c_add_9ea2d_16 rfl (lv_at hl 0 rfl) ?_
  refine va_get (D := (dC, dI)) (ci := 1) (v := .int 3) (C := RJx4a65c) (T := TJx4a65c) (N := 3) hx hb hts zi_Jx4a65c_add_9ea2d_Jx4a65c hown hK hP 0 rfl rfl 2 (by decide) (hts (.fieldLink RJx4a65c 48 "java/util/ArrayList" "size" "I") (by decide +kernel)) (fun _ h9 => h9) rfl dJx4a65c_add_9ea2d_17 ?_
  have hPr := ((zo_R hR0 hS hAr)).sub (ws' := [(e1, .inl (cE, ne, .inl fe))]) [0] rfl
  have hPc := hP.sub (ws' := [(h0, .inr (1, [.int 4, .ref oa, .int 3])), (oa, .inl (cO, 10, .inr (.inr (.inr (.inr fo)))))]) [0, 1] rfl
  have hDc := hD.sub (ws' := [(h0, .inr (1, [.int 4, .ref oa, .int 3])), (oa, .inl (cO, 10, .inr (.inr (.inr (.inr fo)))))]) [0, 1] (by decide) rfl
  have hKc := hK.sub (tys' := [(cE, .int), (cO, .object "java/lang/Object")]) [0, 1] rfl
  have hFc := va_free (wc := [(h0, .inr (1, [.int 4, .ref oa, .int 3])), (oa, .inl (cO, 10, .inr (.inr (.inr (.inr fo)))))]) hD hS hA [0, 1] rfl
  refine va_callv (va_runV (As := [.ref e1, .ref oa, .int 3]) (rest := []) ⟨hx, hb, hml, hown, hts⟩ (cz_Qadd3_3 l dC dI ed H1.size e1 cE ne fe h0 oa cO fo d0 d1 d2 ho0 ho1 ho2) (cwV 3 hts gJx4a65c_add_9ea2d_Jx4a65c_add_72be8 rfl rfl rfl (by decide +kernel) ⟨Nat.le_of_ble_eq_true rfl, Nat.le_of_ble_eq_true rfl⟩) ⟨zb_blind, va_recv hK hP (ci := 1) (q0 := 0) rfl rfl, fun U hU hW => ⟨rfl, zb_mk hU hW hPr hPc hKc hDc hN hH hS hFc (zx_cons (zx_r (hAr _ (List.mem_of_getElem? (i := 0) rfl)) hDc) zx_nil)⟩⟩ rfl rfl hl.1 rfl (lv_room (Nat.le_of_ble_eq_true rfl)) dJx4a65c_add_9ea2d_20 ⟨Nat.le_of_ble_eq_true rfl, Nat.le_of_ble_eq_true rfl⟩) hS (fun q _ h => hFc q h) hFc (fun u t H2 locs ht hvm hw hB hz1 hk1 hS => ?_)
  obtain ⟨go_4, ⟨k4_0, k4_1, k4_2, k4_3⟩, hP1, hD1, hK1⟩ := hB
  rw [ht] at hP1
  obtain ⟨hP, hD⟩ := va_join (wr := []) (w1 := [(h0, .inr (1, [.int 4, .ref oa, .int 4])), (oa, .inl (cO, 10, .inr (.inr (.inr (.inr go_4)))))]) hP hD [0, 1] [] rfl rfl (by decide) (by decide) hk1 hFc hP1 hD1
  have hP : va_P (dC, dI) vwCl [(h0, .inr (1, [.int 4, .ref oa, .int 4])), (oa, .inl (cO, 10, .inr (.inr (.inr (.inr go_4)))))] H2 := hP
  have hD : va_D A [(h0, .inr (1, [.int 4, .ref oa, .int 4])), (oa, .inl (cO, 10, .inr (.inr (.inr (.inr go_4)))))] := hD
  refine lv_iconst (v := 1) hx hb dJx4a65c_add_9ea2d_23 (by decide) ?_
  refine W.widen (k := 0) (n := 0) (Nat.le_of_ble_eq_true rfl) (Nat.le_of_ble_eq_true rfl) ?_
  have hP9 := hP.sub (ws' := [(h0, .inr (1, [.int 4, .ref oa, .int 4])), (oa, .inl (cO, 10, .inr (.inr (.inr (.inr go_4)))))]) [0, 1] rfl
  have hD9 := hD.sub (ws' := [(h0, .inr (1, [.int 4, .ref oa, .int 4])), (oa, .inl (cO, 10, .inr (.inr (.inr (.inr go_4)))))]) [0, 1] (by decide) rfl
  have hK9 := hK.sub (tys' := [(cO, .object "java/lang/Object")]) [1] rfl
  exact W.zret hx hb hr (by decide) (fun t ht hW => ⟨⟨1, (), rfl, rfl, ⟨go_4, ⟨k4_0, k4_1, k4_2, k4_3⟩, by rw [ht]; exact hP9, hD9, va_K.moved hW.alike hK9⟩⟩, hS.F ht⟩) hS.2.2 dJx4a65c_add_9ea2d_24

set_option maxHeartbeats 4000000 in
set_option maxRecDepth 100000 in
theorem cz_QofThingNow_2_3 (l : Launch) (dC : Nat → ClassId) (dI : Nat → Nat → Nat) (ed sz : Nat) (mo : Nat) (mr : Nat) (x9 : Int32) (s9 : Int64) (ll : Nat) (lt : Nat) (lp : Nat) (ota : Nat) (cOt : ClassId) (fot : Nat → Option Nat) (ta2 : Nat) (cB2 : ClassId) (fb2 : Nat → Int32) (hot2 : fot 2 = some ta2) (hb2_3 : fb2 3 = 0) : Met l yX8_ofThingNow wsX8_ofThingNow ({ frames := 3, cells := 0, slots := 0, locals := 64 } : Jvm.Room) (va_Pc [.ref mo, .int 2, .int 3] (zB dC dI ed sz [(mo, .inr (10, [.int x9, .ref mr, .int 1, .long s9])), (mr, .inr (9, [.ref ll, .ref lt, .ref lp, .int 0, .int 0, .int 0, .int 0, .int 0, .int 0, .int 0, .int (-1), .int 0, .int 0, .int 0])), (lt, .inr (1, [.int 10, .ref ota, .int 10])), (ota, .inl (cOt, 10, .inr (.inr (.inr (.inr fot))))), (ta2, .inl (cB2, 5, .inl fb2))] [] [(cOt, .object "java/lang/Object"), (cB2, .int)])) (va_Qi (fun (r : Int32) (_ : Unit) => r = 0) (fun (_ : Unit) (_ : State) => True) (va_A [] sz)) 0 0 (va_A [] sz) := by
  refine Met.ofW (cc := cX8_ofThingNow) (maxL := 5) (ret := (some .int)) (by decide) rfl ?_
  intro p e s m args below meth c s₁ B hml hv
  obtain ⟨rfl, hsz, hR0, hP, hK, hD0, hN, hH, hX0⟩ := hv
  have hx := B.exec
  have hb := B.bytes
  have hr := B.returns
  have hts := atoms_spec (ws := wsX8_ofThingNow) B.pre
  have hown : s.vm.findClass RX8 = some m.cls := findClass_of_methodNamed B.named
  have hlocks := B.notSynchronized
  subst hsz
  have hD := hD0.self (sz := s.heap.size)
  have hAr := zx_A hX0 hR0
  generalize hAe : va_A [] s.heap.size = A at hD hAr hH ⊢
  have hA : ∀ q : Nat, s.heap.size ≤ q → A q := fun q h => by rw [← hAe]; exact Or.inr h
  have hS : va_S A s.heap s.heap [] := va_S.rf
  have hl := lv_entry ([.ref mo, .int 2, .int 3]) (n := 5) (Nat.le_of_ble_eq_true rfl)
  rw [lg_entry_eq]
  generalize (lg_sl ([.ref mo, .int 2, .int 3]) ++ List.replicate (5 - (lg_sl ([.ref mo, .int 2, .int 3])).length) Slot.unset).toArray = ls at hl ⊢
  have hl : lv_has ls 5 [(0, .ref mo), (1, .int 2), (2, .int 3)] := hl
  refine lv_iload_n hx hb dX8_ofThingNow_0 rfl (lv_at hl 2 rfl) ?_
  refine lv_iconst (v := 4) hx hb dX8_ofThingNow_1 (by decide) ?_
  refine lv_icmp_ge (tgt := 22) hx hb dX8_ofThingNow_2 (by decide) (fun h => absurd h (by decide)) (fun _ => ?_)
  refine lv_aload_n hx hb dX8_ofThingNow_5 rfl (lv_at hl 0 rfl) ?_
  refine va_get (D := (dC, dI)) (ci := 10) (v := .ref mr) (C := RX8) (T := TX8) (N := 4) hx hb hts zi_X8_ofThingNow_X8 hown hK hR0 0 rfl rfl 1 (by decide) (hts (.fieldLink RX8 10 "LockRoomsModel" "room" "LLockRoomsModel$Room;") (by decide +kernel)) (fun _ h9 => h9) rfl dX8_ofThingNow_6 ?_
  refine va_getN (D := (dC, dI)) (ci := 9) (v := .ref lt) (C := RX7) (T := TX7) (N := 14) hx hb hts zi_X8_ofThingNow_X7 hown hK hR0 1 rfl rfl 1 (by decide) (va_Nw.use rfl (hN.1 ("LockRoomsModel", 38, "LockRoomsModel$Room", "things", "Ljava/util/ArrayList;", "LockRoomsModel") (List.mem_of_getElem? (i := 2) rfl))) (fun _ h9 => h9) rfl dX8_ofThingNow_9 ?_
  refine lv_iload_n hx hb dX8_ofThingNow_12 rfl (lv_at hl 1 rfl) ?_
  have hPr := (hR0).sub (ws' := [(lt, .inr (1, [.int 10, .ref ota, .int 10])), (ota, .inl (cOt, 10, .inr (.inr (.inr (.inr fot)))))]) [2, 3] rfl
  have hPc := hP.sub (ws' := []) [] rfl
  have hDc := hD.sub (ws' := []) [] (by decide) rfl
  have hKc := hK.sub (tys' := [(cOt, .object "java/lang/Object")]) [0] rfl
  have hFc := va_free (wc := []) hD hS hA [] rfl
  refine va_callr (va_runV (As := [.int 2]) (rest := []) ⟨hx, hb, hml, hown, hts⟩ (cz_Qget_2_10 l dC dI ed s.heap.size lt 10 ota cOt fot ta2 hot2) (cwV 1 hts gX8_ofThingNow_Jx4a65c_get_915e3 rfl rfl rfl (by decide +kernel) ⟨Nat.le_of_ble_eq_true rfl, Nat.le_of_ble_eq_true rfl⟩) ⟨zb_blind, va_recv hK hR0 (ci := 1) (q0 := 2) rfl rfl, fun U hU hW => ⟨rfl, zb_mk hU hW hPr hPc hKc hDc hN hH hS hFc zx_e⟩⟩ rfl rfl hl.1 rfl (lv_room (Nat.le_of_ble_eq_true rfl)) dX8_ofThingNow_13 ⟨Nat.le_of_ble_eq_true rfl, Nat.le_of_ble_eq_true rfl⟩) hS (fun q _ h => hFc q h) hFc (fun u r2 t H1 locs ht hvm hw hB hz1 hk1 hS => ?_)
  obtain ⟨hq3_0, hP1, hD1, hK1⟩ := hB
  rw [ht] at hP1
  obtain ⟨hP, hD⟩ := va_join (wr := []) (w1 := []) hP hD [] [] rfl rfl (by decide) (by decide) hk1 hFc hP1 hD1
  have hP : va_P (dC, dI) vwCl [] H1 := hP
  have hD : va_D A [] := hD
  obtain rfl : ta2 = r2 := hq3_0.symm
  refine va_castA (nm := "[I") hx hb hown (hts (.classLink RX8 88 "[I") (by decide +kernel)) (zo_R hR0 hS hAr) 4 rfl (show s.vm.findClass "[I" = some cB2 from (hK.2 1 _ rfl).2) dX8_ofThingNow_16 ?_
  refine lv_iload_n hx hb dX8_ofThingNow_19 rfl (lv_at hl 2 rfl) ?_
  refine va_iald hx hb hK (zo_R hR0 hS hAr) 4 1 rfl rfl (by unfold vp_in; decide) dX8_ofThingNow_20 ?_
  refine zo_i (v := 0) (by rw [show Int32.toNatClampNeg 3 = 3 from by decide]; exact hb2_3) ?_
  refine W.widen (k := 0) (n := 0) (Nat.le_of_ble_eq_true rfl) (Nat.le_of_ble_eq_true rfl) ?_
  exact W.iret hx hb hr (fun t ht hW => ⟨⟨0, (), rfl, rfl, trivial⟩, hS.F ht⟩) hS.2.2 dX8_ofThingNow_21
set_option maxHeartbeats 4000000 in
set_option maxRecDepth 100000 in
theorem cz_QofThingNow_2_4 (l : Launch) (dC : Nat → ClassId) (dI : Nat → Nat → Nat) (ed sz : Nat) (mo : Nat) (mr : Nat) (x9 : Int32) (s9 : Int64) (ll : Nat) (lt : Nat) (lp : Nat) (ota : Nat) (cOt : ClassId) (fot : Nat → Option Nat) (ta2 : Nat) (cB2 : ClassId) (fb2 : Nat → Int32) (hot2 : fot 2 = some ta2) (hb2_0 : fb2 0 = (-1)) (hb2_3 : fb2 3 = 0) : Met l yX8_ofThingNow wsX8_ofThingNow ({ frames := 4, cells := 0, slots := 0, locals := 86 } : Jvm.Room) (va_Pc [.ref mo, .int 2, .int 4] (zB dC dI ed sz [(mo, .inr (10, [.int x9, .ref mr, .int 1, .long s9])), (mr, .inr (9, [.ref ll, .ref lt, .ref lp, .int 0, .int 0, .int 0, .int 0, .int 0, .int 0, .int 0, .int (-1), .int 0, .int 0, .int 0])), (lt, .inr (1, [.int 10, .ref ota, .int 10])), (ota, .inl (cOt, 10, .inr (.inr (.inr (.inr fot))))), (ta2, .inl (cB2, 5, .inl fb2))] [] [(cOt, .object "java/lang/Object"), (cB2, .int)])) (va_Qi (fun (r : Int32) (_ : Unit) => r = 1) (fun (_ : Unit) (_ : State) => True) (va_A [] sz)) 0 0 (va_A [] sz) := by
  refine Met.ofW (cc := cX8_ofThingNow) (maxL := 5) (ret := (some .int)) (by decide) rfl ?_
  intro p e s m args below meth c s₁ B hml hv
  obtain ⟨rfl, hsz, hR0, hP, hK, hD0, hN, hH, hX0⟩ := hv
  have hx := B.exec
  have hb := B.bytes
  have hr := B.returns
  have hts := atoms_spec (ws := wsX8_ofThingNow) B.pre
  have hown : s.vm.findClass RX8 = some m.cls := findClass_of_methodNamed B.named
  have hlocks := B.notSynchronized
  subst hsz
  have hD := hD0.self (sz := s.heap.size)
  have hAr := zx_A hX0 hR0
  generalize hAe : va_A [] s.heap.size = A at hD hAr hH ⊢
  have hA : ∀ q : Nat, s.heap.size ≤ q → A q := fun q h => by rw [← hAe]; exact Or.inr h
  have hS : va_S A s.heap s.heap [] := va_S.rf
  have hl := lv_entry ([.ref mo, .int 2, .int 4]) (n := 5) (Nat.le_of_ble_eq_true rfl)
  rw [lg_entry_eq]
  generalize (lg_sl ([.ref mo, .int 2, .int 4]) ++ List.replicate (5 - (lg_sl ([.ref mo, .int 2, .int 4])).length) Slot.unset).toArray = ls at hl ⊢
  have hl : lv_has ls 5 [(0, .ref mo), (1, .int 2), (2, .int 4)] := hl
  refine lv_iload_n hx hb dX8_ofThingNow_0 rfl (lv_at hl 2 rfl) ?_
  refine lv_iconst (v := 4) hx hb dX8_ofThingNow_1 (by decide) ?_
  refine lv_icmp_ge (tgt := 22) hx hb dX8_ofThingNow_2 (by decide) (fun _ => ?_) (fun h => absurd h (by decide))
  refine lv_iload_n hx hb dX8_ofThingNow_22 rfl (lv_at hl 2 rfl) ?_
  refine lv_iconst (v := 4) hx hb dX8_ofThingNow_23 (by decide) ?_
  refine lv_icmp_ne (tgt := 44) hx hb dX8_ofThingNow_24 (by decide) (fun h => absurd h (by decide)) (fun _ => ?_)
  refine lv_aload_n hx hb dX8_ofThingNow_27 rfl (lv_at hl 0 rfl) ?_
  refine va_get (D := (dC, dI)) (ci := 10) (v := .ref mr) (C := RX8) (T := TX8) (N := 4) hx hb hts zi_X8_ofThingNow_X8 hown hK hR0 0 rfl rfl 1 (by decide) (hts (.fieldLink RX8 10 "LockRoomsModel" "room" "LLockRoomsModel$Room;") (by decide +kernel)) (fun _ h9 => h9) rfl dX8_ofThingNow_28 ?_
  refine lv_iload_n hx hb dX8_ofThingNow_31 rfl (lv_at hl 1 rfl) ?_
  have hPr := (hR0).sub (ws' := [(mr, .inr (9, [.ref ll, .ref lt, .ref lp, .int 0, .int 0, .int 0, .int 0, .int 0, .int 0, .int 0, .int (-1), .int 0, .int 0, .int 0])), (lt, .inr (1, [.int 10, .ref ota, .int 10])), (ota, .inl (cOt, 10, .inr (.inr (.inr (.inr fot))))), (ta2, .inl (cB2, 5, .inl fb2))]) [1, 2, 3, 4] rfl
  have hPc := hP.sub (ws' := []) [] rfl
  have hDc := hD.sub (ws' := []) [] (by decide) rfl
  have hKc := hK.sub (tys' := [(cOt, .object "java/lang/Object"), (cB2, .int)]) [0, 1] rfl
  have hFc := va_free (wc := []) hD hS hA [] rfl
  refine va_calli (va_runV (As := [.int 2]) (rest := []) ⟨hx, hb, hml, hown, hts⟩ (cz_QisReached_2 l dC dI ed s.heap.size mr ll lt lp ota cOt fot ta2 cB2 fb2 hot2 hb2_0 hb2_3) (cwV 1 hts gX8_ofThingNow_X7_isReached rfl rfl rfl (by decide +kernel) ⟨Nat.le_of_ble_eq_true rfl, Nat.le_of_ble_eq_true rfl⟩) ⟨zb_blind, va_recv hK hR0 (ci := 9) (q0 := 1) rfl rfl, fun U hU hW => ⟨rfl, zb_mk hU hW hPr hPc hKc hDc hN hH hS hFc zx_e⟩⟩ rfl rfl hl.1 rfl (lv_room (Nat.le_of_ble_eq_true rfl)) dX8_ofThingNow_32 ⟨Nat.le_of_ble_eq_true rfl, Nat.le_of_ble_eq_true rfl⟩) hS (fun q _ h => hFc q h) hFc (fun r2 u t H1 locs ht hvm hw hB hz1 hk1 hS => ?_)
  obtain rfl : r2 = 1 := hw
  have hP := zo_K hP hk1
  refine lv_if_eq (tgt := 42) hx hb dX8_ofThingNow_35 (by decide) (fun h => absurd h (by decide)) (fun _ => ?_)
  refine lv_iconst (v := 1) hx hb dX8_ofThingNow_38 (by decide) ?_
  refine lv_goto (tgt := 43) hx hb dX8_ofThingNow_39 (by decide) ?_
  refine W.widen (k := 0) (n := 0) (Nat.le_of_ble_eq_true rfl) (Nat.le_of_ble_eq_true rfl) ?_
  exact W.iret hx hb hr (fun t ht hW => ⟨⟨1, (), rfl, rfl, trivial⟩, hS.F ht⟩) hS.2.2 dX8_ofThingNow_43
set_option maxHeartbeats 4000000 in
set_option maxRecDepth 100000 in
theorem cz_QofThingNow_2_5 (l : Launch) (dC : Nat → ClassId) (dI : Nat → Nat → Nat) (ed sz : Nat) (mo : Nat) (mr : Nat) (x9 : Int32) (s9 : Int64) (ll : Nat) (lt : Nat) (lp : Nat) (ola : Nat) (cOl : ClassId) (fol : Nat → Option Nat) (la0 : Nat) (la1 : Nat) (cA0 : ClassId) (fa0 : Nat → Int32) (cA1 : ClassId) (fa1 : Nat → Int32) (hol0 : fol 0 = some la0) (hol1 : fol 1 = some la1) (ha0_0 : fa0 0 = 0) (ha1_0 : fa1 0 = 0) : Met l yX8_ofThingNow wsX8_ofThingNow ({ frames := 3, cells := 0, slots := 0, locals := 64 } : Jvm.Room) (va_Pc [.ref mo, .int 2, .int 5] (zB dC dI ed sz [(mo, .inr (10, [.int x9, .ref mr, .int 1, .long s9])), (mr, .inr (9, [.ref ll, .ref lt, .ref lp, .int 0, .int 0, .int 0, .int 0, .int 0, .int 0, .int 0, .int (-1), .int 0, .int 0, .int 0])), (ll, .inr (1, [.int 2, .ref ola, .int 2])), (ola, .inl (cOl, 10, .inr (.inr (.inr (.inr fol))))), (la0, .inl (cA0, 10, .inl fa0)), (la1, .inl (cA1, 10, .inl fa1))] [] [(cOl, .object "java/lang/Object"), (cA0, .int), (cA1, .int)])) (va_Qi (fun (r : Int32) (_ : Unit) => r = 0) (fun (_ : Unit) (_ : State) => True) (va_A [] sz)) 0 0 (va_A [] sz) := by
  refine Met.ofW (cc := cX8_ofThingNow) (maxL := 5) (ret := (some .int)) (by decide) rfl ?_
  intro p e s m args below meth c s₁ B hml hv
  obtain ⟨rfl, hsz, hR0, hP, hK, hD0, hN, hH, hX0⟩ := hv
  have hx := B.exec
  have hb := B.bytes
  have hr := B.returns
  have hts := atoms_spec (ws := wsX8_ofThingNow) B.pre
  have hown : s.vm.findClass RX8 = some m.cls := findClass_of_methodNamed B.named
  have hlocks := B.notSynchronized
  subst hsz
  have hD := hD0.self (sz := s.heap.size)
  have hAr := zx_A hX0 hR0
  generalize hAe : va_A [] s.heap.size = A at hD hAr hH ⊢
  have hA : ∀ q : Nat, s.heap.size ≤ q → A q := fun q h => by rw [← hAe]; exact Or.inr h
  have hS : va_S A s.heap s.heap [] := va_S.rf
  have hl := lv_entry ([.ref mo, .int 2, .int 5]) (n := 5) (Nat.le_of_ble_eq_true rfl)
  rw [lg_entry_eq]
  generalize (lg_sl ([.ref mo, .int 2, .int 5]) ++ List.replicate (5 - (lg_sl ([.ref mo, .int 2, .int 5])).length) Slot.unset).toArray = ls at hl ⊢
  have hl : lv_has ls 5 [(0, .ref mo), (1, .int 2), (2, .int 5)] := hl
  refine lv_iload_n hx hb dX8_ofThingNow_0 rfl (lv_at hl 2 rfl) ?_
  refine lv_iconst (v := 4) hx hb dX8_ofThingNow_1 (by decide) ?_
  refine lv_icmp_ge (tgt := 22) hx hb dX8_ofThingNow_2 (by decide) (fun _ => ?_) (fun h => absurd h (by decide))
  refine lv_iload_n hx hb dX8_ofThingNow_22 rfl (lv_at hl 2 rfl) ?_
  refine lv_iconst (v := 4) hx hb dX8_ofThingNow_23 (by decide) ?_
  refine lv_icmp_ne (tgt := 44) hx hb dX8_ofThingNow_24 (by decide) (fun _ => ?_) (fun h => absurd h (by decide))
  refine lv_iconst (v := 0) hx hb dX8_ofThingNow_44 (by decide) ?_
  refine lv_istore_n (lv' := [(3, .int 0), (0, .ref mo), (1, .int 2), (2, .int 5)]) hx hb dX8_ofThingNow_45 rfl hl (by decide) rfl (fun ls hl => ?_)
  refine lv_iconst (v := 0) hx hb dX8_ofThingNow_46 (by decide) ?_
  refine lv_istore (lv' := [(4, .int 0), (3, .int 0), (0, .ref mo), (1, .int 2), (2, .int 5)]) hx hb dX8_ofThingNow_47 hl (by decide) rfl (fun ls hl => ?_)
  refine lv_iload hx hb dX8_ofThingNow_49 (lv_at hl 0 rfl) ?_
  refine lv_aload_n hx hb dX8_ofThingNow_51 rfl (lv_at hl 2 rfl) ?_
  refine va_get (D := (dC, dI)) (ci := 10) (v := .ref mr) (C := RX8) (T := TX8) (N := 4) hx hb hts zi_X8_ofThingNow_X8 hown hK hR0 0 rfl rfl 1 (by decide) (hts (.fieldLink RX8 10 "LockRoomsModel" "room" "LLockRoomsModel$Room;") (by decide +kernel)) (fun _ h9 => h9) rfl dX8_ofThingNow_52 ?_
  refine va_getN (D := (dC, dI)) (ci := 9) (v := .ref ll) (C := RX7) (T := TX7) (N := 14) hx hb hts zi_X8_ofThingNow_X7 hown hK hR0 1 rfl rfl 0 (by decide) (va_Nw.use rfl (hN.1 ("LockRoomsModel", 24, "LockRoomsModel$Room", "locks", "Ljava/util/ArrayList;", "LockRoomsModel") (List.mem_of_getElem? (i := 1) rfl))) (fun _ h9 => h9) rfl dX8_ofThingNow_55 ?_
  have hPr := (hR0).sub (ws' := [(ll, .inr (1, [.int 2, .ref ola, .int 2]))]) [2] rfl
  have hPc := hP.sub (ws' := []) [] rfl
  have hDc := hD.sub (ws' := []) [] (by decide) rfl
  have hKc := hK.sub (tys' := []) [] rfl
  have hFc := va_free (wc := []) hD hS hA [] rfl
  refine va_calli (va_runV (As := []) (rest := [.int 0]) ⟨hx, hb, hml, hown, hts⟩ (cz_Qsize l dC dI ed s.heap.size ll 2 ola 2) (cwV 0 hts gX8_ofThingNow_Jx4a65c_size_8abf5 rfl rfl rfl (by decide +kernel) ⟨Nat.le_of_ble_eq_true rfl, Nat.le_of_ble_eq_true rfl⟩) ⟨zb_blind, va_recv hK hR0 (ci := 1) (q0 := 2) rfl rfl, fun U hU hW => ⟨rfl, zb_mk hU hW hPr hPc hKc hDc hN hH hS hFc zx_e⟩⟩ rfl rfl hl.1 rfl (lv_room (Nat.le_of_ble_eq_true rfl)) dX8_ofThingNow_58 ⟨Nat.le_of_ble_eq_true rfl, Nat.le_of_ble_eq_true rfl⟩) hS (fun q _ h => hFc q h) hFc (fun r2 u t H1 locs ht hvm hw hB hz1 hk1 hS => ?_)
  obtain rfl : r2 = 2 := hw.trans (by decide +kernel)
  have hP := zo_K hP hk1
  refine lv_icmp_ge (tgt := 97) hx hb dX8_ofThingNow_61 (by decide) (fun h => absurd h (by decide)) (fun _ => ?_)
  refine lv_iload_n hx hb dX8_ofThingNow_64 rfl (lv_at hl 1 rfl) ?_
  refine lv_aload_n hx hb dX8_ofThingNow_65 rfl (lv_at hl 2 rfl) ?_
  refine va_get (D := (dC, dI)) (ci := 10) (v := .ref mr) (C := RX8) (T := TX8) (N := 4) hx hb hts zi_X8_ofThingNow_X8 hown hK (zo_R hR0 hS hAr) 0 rfl rfl 1 (by decide) (hts (.fieldLink RX8 10 "LockRoomsModel" "room" "LLockRoomsModel$Room;") (by decide +kernel)) (fun _ h9 => h9) rfl dX8_ofThingNow_66 ?_
  refine va_getN (D := (dC, dI)) (ci := 9) (v := .ref ll) (C := RX7) (T := TX7) (N := 14) hx hb hts zi_X8_ofThingNow_X7 hown hK (zo_R hR0 hS hAr) 1 rfl rfl 0 (by decide) (va_Nw.use rfl (hN.1 ("LockRoomsModel", 24, "LockRoomsModel$Room", "locks", "Ljava/util/ArrayList;", "LockRoomsModel") (List.mem_of_getElem? (i := 1) rfl))) (fun _ h9 => h9) rfl dX8_ofThingNow_69 ?_
  refine lv_iload hx hb dX8_ofThingNow_72 (lv_at hl 0 rfl) ?_
  have hPr := ((zo_R hR0 hS hAr)).sub (ws' := [(ll, .inr (1, [.int 2, .ref ola, .int 2])), (ola, .inl (cOl, 10, .inr (.inr (.inr (.inr fol)))))]) [2, 3] rfl
  have hPc := hP.sub (ws' := []) [] rfl
  have hDc := hD.sub (ws' := []) [] (by decide) rfl
  have hKc := hK.sub (tys' := [(cOl, .object "java/lang/Object")]) [0] rfl
  have hFc := va_free (wc := []) hD hS hA [] rfl
  refine va_callr (va_runV (As := [.int 0]) (rest := [.int 0]) ⟨hx, hb, hml, hown, hts⟩ (cz_Qget_0_2 l dC dI ed H1.size ll 2 ola cOl fol la0 hol0) (cwV 1 hts gX8_ofThingNow_Jx4a65c_get_915e3 rfl rfl rfl (by decide +kernel) ⟨Nat.le_of_ble_eq_true rfl, Nat.le_of_ble_eq_true rfl⟩) ⟨zb_blind, va_recv hK (zo_R hR0 hS hAr) (ci := 1) (q0 := 2) rfl rfl, fun U hU hW => ⟨rfl, zb_mk hU hW hPr hPc hKc hDc hN hH hS hFc zx_e⟩⟩ rfl rfl hl.1 rfl (lv_room (Nat.le_of_ble_eq_true rfl)) dX8_ofThingNow_74 ⟨Nat.le_of_ble_eq_true rfl, Nat.le_of_ble_eq_true rfl⟩) hS (fun q _ h => hFc q h) hFc (fun u r4 t H3 locs ht hvm hw hB hz1 hk1 hS => ?_)
  obtain ⟨hq5_0, hP1, hD1, hK1⟩ := hB
  rw [ht] at hP1
  obtain ⟨hP, hD⟩ := va_join (wr := []) (w1 := []) hP hD [] [] rfl rfl (by decide) (by decide) hk1 hFc hP1 hD1
  have hP : va_P (dC, dI) vwCl [] H3 := hP
  have hD : va_D A [] := hD
  obtain rfl : la0 = r4 := hq5_0.symm
  refine va_castA (nm := "[I") hx hb hown (hts (.classLink RX8 88 "[I") (by decide +kernel)) (zo_R hR0 hS hAr) 4 rfl (show s.vm.findClass "[I" = some cA0 from (hK.2 1 _ rfl).2) dX8_ofThingNow_77 ?_
  refine lv_iconst (v := 0) hx hb dX8_ofThingNow_80 (by decide) ?_
  refine va_iald hx hb hK (zo_R hR0 hS hAr) 4 1 rfl rfl (by unfold vp_in; decide) dX8_ofThingNow_81 ?_
  refine zo_i (v := 0) (by rw [show Int32.toNatClampNeg 0 = 0 from by decide]; exact ha0_0) ?_
  refine lv_iload_n hx hb dX8_ofThingNow_82 rfl (lv_at hl 3 rfl) ?_
  refine lv_ishr hx hb dX8_ofThingNow_83 ?_
  refine zo_i (v := 0) (by decide) ?_
  refine lv_iconst (v := 1) hx hb dX8_ofThingNow_84 (by decide) ?_
  refine lv_iand hx hb dX8_ofThingNow_85 ?_
  refine zo_i (v := 0) q_0and ?_
  refine lv_iload hx hb dX8_ofThingNow_86 (lv_at hl 0 rfl) ?_
  refine lv_ishl hx hb dX8_ofThingNow_88 ?_
  refine zo_i (v := 0) (by decide) ?_
  refine lv_ior hx hb dX8_ofThingNow_89 ?_
  refine zo_i (v := 0) (by decide) ?_
  refine lv_istore_n (lv' := [(3, .int 0), (4, .int 0), (0, .ref mo), (1, .int 2), (2, .int 5)]) hx hb dX8_ofThingNow_90 rfl hl (by decide) rfl (fun ls hl => ?_)
  refine lv_iinc (v := 1) (lv' := [(4, .int 1), (3, .int 0), (0, .ref mo), (1, .int 2), (2, .int 5)]) hx hb dX8_ofThingNow_91 hl (k := 1) rfl (by decide) (by decide) rfl (fun ls hl => ?_)
  refine lv_goto (tgt := 49) hx hb dX8_ofThingNow_94 (by decide) ?_
  refine lv_iload hx hb dX8_ofThingNow_49 (lv_at hl 0 rfl) ?_
  refine lv_aload_n hx hb dX8_ofThingNow_51 rfl (lv_at hl 2 rfl) ?_
  refine va_get (D := (dC, dI)) (ci := 10) (v := .ref mr) (C := RX8) (T := TX8) (N := 4) hx hb hts zi_X8_ofThingNow_X8 hown hK (zo_R hR0 hS hAr) 0 rfl rfl 1 (by decide) (hts (.fieldLink RX8 10 "LockRoomsModel" "room" "LLockRoomsModel$Room;") (by decide +kernel)) (fun _ h9 => h9) rfl dX8_ofThingNow_52 ?_
  refine va_getN (D := (dC, dI)) (ci := 9) (v := .ref ll) (C := RX7) (T := TX7) (N := 14) hx hb hts zi_X8_ofThingNow_X7 hown hK (zo_R hR0 hS hAr) 1 rfl rfl 0 (by decide) (va_Nw.use rfl (hN.1 ("LockRoomsModel", 24, "LockRoomsModel$Room", "locks", "Ljava/util/ArrayList;", "LockRoomsModel") (List.mem_of_getElem? (i := 1) rfl))) (fun _ h9 => h9) rfl dX8_ofThingNow_55 ?_
  have hPr := ((zo_R hR0 hS hAr)).sub (ws' := [(ll, .inr (1, [.int 2, .ref ola, .int 2]))]) [2] rfl
  have hPc := hP.sub (ws' := []) [] rfl
  have hDc := hD.sub (ws' := []) [] (by decide) rfl
  have hKc := hK.sub (tys' := []) [] rfl
  have hFc := va_free (wc := []) hD hS hA [] rfl
  refine va_calli (va_runV (As := []) (rest := [.int 1]) ⟨hx, hb, hml, hown, hts⟩ (cz_Qsize l dC dI ed H3.size ll 2 ola 2) (cwV 0 hts gX8_ofThingNow_Jx4a65c_size_8abf5 rfl rfl rfl (by decide +kernel) ⟨Nat.le_of_ble_eq_true rfl, Nat.le_of_ble_eq_true rfl⟩) ⟨zb_blind, va_recv hK (zo_R hR0 hS hAr) (ci := 1) (q0 := 2) rfl rfl, fun U hU hW => ⟨rfl, zb_mk hU hW hPr hPc hKc hDc hN hH hS hFc zx_e⟩⟩ rfl rfl hl.1 rfl (lv_room (Nat.le_of_ble_eq_true rfl)) dX8_ofThingNow_58 ⟨Nat.le_of_ble_eq_true rfl, Nat.le_of_ble_eq_true rfl⟩) hS (fun q _ h => hFc q h) hFc (fun r7 u t H6 locs ht hvm hw hB hz1 hk1 hS => ?_)
  obtain rfl : r7 = 2 := hw.trans (by decide +kernel)
  have hP := zo_K hP hk1
  refine lv_icmp_ge (tgt := 97) hx hb dX8_ofThingNow_61 (by decide) (fun h => absurd h (by decide)) (fun _ => ?_)
  refine lv_iload_n hx hb dX8_ofThingNow_64 rfl (lv_at hl 1 rfl) ?_
  refine lv_aload_n hx hb dX8_ofThingNow_65 rfl (lv_at hl 2 rfl) ?_
  refine va_get (D := (dC, dI)) (ci := 10) (v := .ref mr) (C := RX8) (T := TX8) (N := 4) hx hb hts zi_X8_ofThingNow_X8 hown hK (zo_R hR0 hS hAr) 0 rfl rfl 1 (by decide) (hts (.fieldLink RX8 10 "LockRoomsModel" "room" "LLockRoomsModel$Room;") (by decide +kernel)) (fun _ h9 => h9) rfl dX8_ofThingNow_66 ?_
  refine va_getN (D := (dC, dI)) (ci := 9) (v := .ref ll) (C := RX7) (T := TX7) (N := 14) hx hb hts zi_X8_ofThingNow_X7 hown hK (zo_R hR0 hS hAr) 1 rfl rfl 0 (by decide) (va_Nw.use rfl (hN.1 ("LockRoomsModel", 24, "LockRoomsModel$Room", "locks", "Ljava/util/ArrayList;", "LockRoomsModel") (List.mem_of_getElem? (i := 1) rfl))) (fun _ h9 => h9) rfl dX8_ofThingNow_69 ?_
  refine lv_iload hx hb dX8_ofThingNow_72 (lv_at hl 0 rfl) ?_
  have hPr := ((zo_R hR0 hS hAr)).sub (ws' := [(ll, .inr (1, [.int 2, .ref ola, .int 2])), (ola, .inl (cOl, 10, .inr (.inr (.inr (.inr fol)))))]) [2, 3] rfl
  have hPc := hP.sub (ws' := []) [] rfl
  have hDc := hD.sub (ws' := []) [] (by decide) rfl
  have hKc := hK.sub (tys' := [(cOl, .object "java/lang/Object")]) [0] rfl
  have hFc := va_free (wc := []) hD hS hA [] rfl
  refine va_callr (va_runV (As := [.int 1]) (rest := [.int 0]) ⟨hx, hb, hml, hown, hts⟩ (cz_Qget_1_2 l dC dI ed H6.size ll 2 ola cOl fol la1 hol1) (cwV 1 hts gX8_ofThingNow_Jx4a65c_get_915e3 rfl rfl rfl (by decide +kernel) ⟨Nat.le_of_ble_eq_true rfl, Nat.le_of_ble_eq_true rfl⟩) ⟨zb_blind, va_recv hK (zo_R hR0 hS hAr) (ci := 1) (q0 := 2) rfl rfl, fun U hU hW => ⟨rfl, zb_mk hU hW hPr hPc hKc hDc hN hH hS hFc zx_e⟩⟩ rfl rfl hl.1 rfl (lv_room (Nat.le_of_ble_eq_true rfl)) dX8_ofThingNow_74 ⟨Nat.le_of_ble_eq_true rfl, Nat.le_of_ble_eq_true rfl⟩) hS (fun q _ h => hFc q h) hFc (fun u r9 t H8 locs ht hvm hw hB hz1 hk1 hS => ?_)
  obtain ⟨hq10_0, hP1, hD1, hK1⟩ := hB
  rw [ht] at hP1
  obtain ⟨hP, hD⟩ := va_join (wr := []) (w1 := []) hP hD [] [] rfl rfl (by decide) (by decide) hk1 hFc hP1 hD1
  have hP : va_P (dC, dI) vwCl [] H8 := hP
  have hD : va_D A [] := hD
  obtain rfl : la1 = r9 := hq10_0.symm
  refine va_castA (nm := "[I") hx hb hown (hts (.classLink RX8 88 "[I") (by decide +kernel)) (zo_R hR0 hS hAr) 5 rfl (show s.vm.findClass "[I" = some cA1 from (hK.2 2 _ rfl).2) dX8_ofThingNow_77 ?_
  refine lv_iconst (v := 0) hx hb dX8_ofThingNow_80 (by decide) ?_
  refine va_iald hx hb hK (zo_R hR0 hS hAr) 5 2 rfl rfl (by unfold vp_in; decide) dX8_ofThingNow_81 ?_
  refine zo_i (v := 0) (by rw [show Int32.toNatClampNeg 0 = 0 from by decide]; exact ha1_0) ?_
  refine lv_iload_n hx hb dX8_ofThingNow_82 rfl (lv_at hl 3 rfl) ?_
  refine lv_ishr hx hb dX8_ofThingNow_83 ?_
  refine zo_i (v := 0) (by decide) ?_
  refine lv_iconst (v := 1) hx hb dX8_ofThingNow_84 (by decide) ?_
  refine lv_iand hx hb dX8_ofThingNow_85 ?_
  refine zo_i (v := 0) q_0and ?_
  refine lv_iload hx hb dX8_ofThingNow_86 (lv_at hl 0 rfl) ?_
  refine lv_ishl hx hb dX8_ofThingNow_88 ?_
  refine zo_i (v := 0) (by decide) ?_
  refine lv_ior hx hb dX8_ofThingNow_89 ?_
  refine zo_i (v := 0) (by decide) ?_
  refine lv_istore_n (lv' := [(3, .int 0), (4, .int 1), (0, .ref mo), (1, .int 2), (2, .int 5)]) hx hb dX8_ofThingNow_90 rfl hl (by decide) rfl (fun ls hl => ?_)
  refine lv_iinc (v := 2) (lv' := [(4, .int 2), (3, .int 0), (0, .ref mo), (1, .int 2), (2, .int 5)]) hx hb dX8_ofThingNow_91 hl (k := 1) rfl (by decide) (by decide) rfl (fun ls hl => ?_)
  refine lv_goto (tgt := 49) hx hb dX8_ofThingNow_94 (by decide) ?_
  refine lv_iload hx hb dX8_ofThingNow_49 (lv_at hl 0 rfl) ?_
  refine lv_aload_n hx hb dX8_ofThingNow_51 rfl (lv_at hl 2 rfl) ?_
  refine va_get (D := (dC, dI)) (ci := 10) (v := .ref mr) (C := RX8) (T := TX8) (N := 4) hx hb hts zi_X8_ofThingNow_X8 hown hK (zo_R hR0 hS hAr) 0 rfl rfl 1 (by decide) (hts (.fieldLink RX8 10 "LockRoomsModel" "room" "LLockRoomsModel$Room;") (by decide +kernel)) (fun _ h9 => h9) rfl dX8_ofThingNow_52 ?_
  refine va_getN (D := (dC, dI)) (ci := 9) (v := .ref ll) (C := RX7) (T := TX7) (N := 14) hx hb hts zi_X8_ofThingNow_X7 hown hK (zo_R hR0 hS hAr) 1 rfl rfl 0 (by decide) (va_Nw.use rfl (hN.1 ("LockRoomsModel", 24, "LockRoomsModel$Room", "locks", "Ljava/util/ArrayList;", "LockRoomsModel") (List.mem_of_getElem? (i := 1) rfl))) (fun _ h9 => h9) rfl dX8_ofThingNow_55 ?_
  have hPr := ((zo_R hR0 hS hAr)).sub (ws' := [(ll, .inr (1, [.int 2, .ref ola, .int 2]))]) [2] rfl
  have hPc := hP.sub (ws' := []) [] rfl
  have hDc := hD.sub (ws' := []) [] (by decide) rfl
  have hKc := hK.sub (tys' := []) [] rfl
  have hFc := va_free (wc := []) hD hS hA [] rfl
  refine va_calli (va_runV (As := []) (rest := [.int 2]) ⟨hx, hb, hml, hown, hts⟩ (cz_Qsize l dC dI ed H8.size ll 2 ola 2) (cwV 0 hts gX8_ofThingNow_Jx4a65c_size_8abf5 rfl rfl rfl (by decide +kernel) ⟨Nat.le_of_ble_eq_true rfl, Nat.le_of_ble_eq_true rfl⟩) ⟨zb_blind, va_recv hK (zo_R hR0 hS hAr) (ci := 1) (q0 := 2) rfl rfl, fun U hU hW => ⟨rfl, zb_mk hU hW hPr hPc hKc hDc hN hH hS hFc zx_e⟩⟩ rfl rfl hl.1 rfl (lv_room (Nat.le_of_ble_eq_true rfl)) dX8_ofThingNow_58 ⟨Nat.le_of_ble_eq_true rfl, Nat.le_of_ble_eq_true rfl⟩) hS (fun q _ h => hFc q h) hFc (fun r12 u t H11 locs ht hvm hw hB hz1 hk1 hS => ?_)
  obtain rfl : r12 = 2 := hw.trans (by decide +kernel)
  have hP := zo_K hP hk1
  refine lv_icmp_ge (tgt := 97) hx hb dX8_ofThingNow_61 (by decide) (fun _ => ?_) (fun h => absurd h (by decide))
  refine lv_iload_n hx hb dX8_ofThingNow_97 rfl (lv_at hl 1 rfl) ?_
  refine W.widen (k := 0) (n := 0) (Nat.le_of_ble_eq_true rfl) (Nat.le_of_ble_eq_true rfl) ?_
  exact W.iret hx hb hr (fun t ht hW => ⟨⟨0, (), rfl, rfl, trivial⟩, hS.F ht⟩) hS.2.2 dX8_ofThingNow_98
set_option maxHeartbeats 4000000 in
set_option maxRecDepth 100000 in
theorem cz_QofThingNow_3_0 (l : Launch) (dC : Nat → ClassId) (dI : Nat → Nat → Nat) (ed sz : Nat) (mo : Nat) (mr : Nat) (x9 : Int32) (s9 : Int64) (ll : Nat) (lt : Nat) (lp : Nat) (ota : Nat) (cOt : ClassId) (fot : Nat → Option Nat) (ta3 : Nat) (cB3 : ClassId) (fb3 : Nat → Int32) (hot3 : fot 3 = some ta3) (hb3_0 : fb3 0 = (-1)) : Met l yX8_ofThingNow wsX8_ofThingNow ({ frames := 3, cells := 0, slots := 0, locals := 64 } : Jvm.Room) (va_Pc [.ref mo, .int 3, .int 0] (zB dC dI ed sz [(mo, .inr (10, [.int x9, .ref mr, .int 1, .long s9])), (mr, .inr (9, [.ref ll, .ref lt, .ref lp, .int 0, .int 0, .int 0, .int 0, .int 0, .int 0, .int 0, .int (-1), .int 0, .int 0, .int 0])), (lt, .inr (1, [.int 10, .ref ota, .int 10])), (ota, .inl (cOt, 10, .inr (.inr (.inr (.inr fot))))), (ta3, .inl (cB3, 5, .inl fb3))] [] [(cOt, .object "java/lang/Object"), (cB3, .int)])) (va_Qi (fun (r : Int32) (_ : Unit) => r = (-1)) (fun (_ : Unit) (_ : State) => True) (va_A [] sz)) 0 0 (va_A [] sz) := by
  refine Met.ofW (cc := cX8_ofThingNow) (maxL := 5) (ret := (some .int)) (by decide) rfl ?_
  intro p e s m args below meth c s₁ B hml hv
  obtain ⟨rfl, hsz, hR0, hP, hK, hD0, hN, hH, hX0⟩ := hv
  have hx := B.exec
  have hb := B.bytes
  have hr := B.returns
  have hts := atoms_spec (ws := wsX8_ofThingNow) B.pre
  have hown : s.vm.findClass RX8 = some m.cls := findClass_of_methodNamed B.named
  have hlocks := B.notSynchronized
  subst hsz
  have hD := hD0.self (sz := s.heap.size)
  have hAr := zx_A hX0 hR0
  generalize hAe : va_A [] s.heap.size = A at hD hAr hH ⊢
  have hA : ∀ q : Nat, s.heap.size ≤ q → A q := fun q h => by rw [← hAe]; exact Or.inr h
  have hS : va_S A s.heap s.heap [] := va_S.rf
  have hl := lv_entry ([.ref mo, .int 3, .int 0]) (n := 5) (Nat.le_of_ble_eq_true rfl)
  rw [lg_entry_eq]
  generalize (lg_sl ([.ref mo, .int 3, .int 0]) ++ List.replicate (5 - (lg_sl ([.ref mo, .int 3, .int 0])).length) Slot.unset).toArray = ls at hl ⊢
  have hl : lv_has ls 5 [(0, .ref mo), (1, .int 3), (2, .int 0)] := hl
  refine lv_iload_n hx hb dX8_ofThingNow_0 rfl (lv_at hl 2 rfl) ?_
  refine lv_iconst (v := 4) hx hb dX8_ofThingNow_1 (by decide) ?_
  refine lv_icmp_ge (tgt := 22) hx hb dX8_ofThingNow_2 (by decide) (fun h => absurd h (by decide)) (fun _ => ?_)
  refine lv_aload_n hx hb dX8_ofThingNow_5 rfl (lv_at hl 0 rfl) ?_
  refine va_get (D := (dC, dI)) (ci := 10) (v := .ref mr) (C := RX8) (T := TX8) (N := 4) hx hb hts zi_X8_ofThingNow_X8 hown hK hR0 0 rfl rfl 1 (by decide) (hts (.fieldLink RX8 10 "LockRoomsModel" "room" "LLockRoomsModel$Room;") (by decide +kernel)) (fun _ h9 => h9) rfl dX8_ofThingNow_6 ?_
  refine va_getN (D := (dC, dI)) (ci := 9) (v := .ref lt) (C := RX7) (T := TX7) (N := 14) hx hb hts zi_X8_ofThingNow_X7 hown hK hR0 1 rfl rfl 1 (by decide) (va_Nw.use rfl (hN.1 ("LockRoomsModel", 38, "LockRoomsModel$Room", "things", "Ljava/util/ArrayList;", "LockRoomsModel") (List.mem_of_getElem? (i := 2) rfl))) (fun _ h9 => h9) rfl dX8_ofThingNow_9 ?_
  refine lv_iload_n hx hb dX8_ofThingNow_12 rfl (lv_at hl 1 rfl) ?_
  have hPr := (hR0).sub (ws' := [(lt, .inr (1, [.int 10, .ref ota, .int 10])), (ota, .inl (cOt, 10, .inr (.inr (.inr (.inr fot)))))]) [2, 3] rfl
  have hPc := hP.sub (ws' := []) [] rfl
  have hDc := hD.sub (ws' := []) [] (by decide) rfl
  have hKc := hK.sub (tys' := [(cOt, .object "java/lang/Object")]) [0] rfl
  have hFc := va_free (wc := []) hD hS hA [] rfl
  refine va_callr (va_runV (As := [.int 3]) (rest := []) ⟨hx, hb, hml, hown, hts⟩ (cz_Qget_3_10 l dC dI ed s.heap.size lt 10 ota cOt fot ta3 hot3) (cwV 1 hts gX8_ofThingNow_Jx4a65c_get_915e3 rfl rfl rfl (by decide +kernel) ⟨Nat.le_of_ble_eq_true rfl, Nat.le_of_ble_eq_true rfl⟩) ⟨zb_blind, va_recv hK hR0 (ci := 1) (q0 := 2) rfl rfl, fun U hU hW => ⟨rfl, zb_mk hU hW hPr hPc hKc hDc hN hH hS hFc zx_e⟩⟩ rfl rfl hl.1 rfl (lv_room (Nat.le_of_ble_eq_true rfl)) dX8_ofThingNow_13 ⟨Nat.le_of_ble_eq_true rfl, Nat.le_of_ble_eq_true rfl⟩) hS (fun q _ h => hFc q h) hFc (fun u r2 t H1 locs ht hvm hw hB hz1 hk1 hS => ?_)
  obtain ⟨hq3_0, hP1, hD1, hK1⟩ := hB
  rw [ht] at hP1
  obtain ⟨hP, hD⟩ := va_join (wr := []) (w1 := []) hP hD [] [] rfl rfl (by decide) (by decide) hk1 hFc hP1 hD1
  have hP : va_P (dC, dI) vwCl [] H1 := hP
  have hD : va_D A [] := hD
  obtain rfl : ta3 = r2 := hq3_0.symm
  refine va_castA (nm := "[I") hx hb hown (hts (.classLink RX8 88 "[I") (by decide +kernel)) (zo_R hR0 hS hAr) 4 rfl (show s.vm.findClass "[I" = some cB3 from (hK.2 1 _ rfl).2) dX8_ofThingNow_16 ?_
  refine lv_iload_n hx hb dX8_ofThingNow_19 rfl (lv_at hl 2 rfl) ?_
  refine va_iald hx hb hK (zo_R hR0 hS hAr) 4 1 rfl rfl (by unfold vp_in; decide) dX8_ofThingNow_20 ?_
  refine zo_i (v := (-1)) (by rw [show Int32.toNatClampNeg 0 = 0 from by decide]; exact hb3_0) ?_
  refine W.widen (k := 0) (n := 0) (Nat.le_of_ble_eq_true rfl) (Nat.le_of_ble_eq_true rfl) ?_
  exact W.iret hx hb hr (fun t ht hW => ⟨⟨(-1), (), rfl, rfl, trivial⟩, hS.F ht⟩) hS.2.2 dX8_ofThingNow_21
set_option maxHeartbeats 4000000 in
set_option maxRecDepth 100000 in
theorem cz_QofThingNow_3_1 (l : Launch) (dC : Nat → ClassId) (dI : Nat → Nat → Nat) (ed sz : Nat) (mo : Nat) (mr : Nat) (x9 : Int32) (s9 : Int64) (ll : Nat) (lt : Nat) (lp : Nat) (ota : Nat) (cOt : ClassId) (fot : Nat → Option Nat) (ta3 : Nat) (cB3 : ClassId) (fb3 : Nat → Int32) (hot3 : fot 3 = some ta3) (hb3_1 : fb3 1 = 0) : Met l yX8_ofThingNow wsX8_ofThingNow ({ frames := 3, cells := 0, slots := 0, locals := 64 } : Jvm.Room) (va_Pc [.ref mo, .int 3, .int 1] (zB dC dI ed sz [(mo, .inr (10, [.int x9, .ref mr, .int 1, .long s9])), (mr, .inr (9, [.ref ll, .ref lt, .ref lp, .int 0, .int 0, .int 0, .int 0, .int 0, .int 0, .int 0, .int (-1), .int 0, .int 0, .int 0])), (lt, .inr (1, [.int 10, .ref ota, .int 10])), (ota, .inl (cOt, 10, .inr (.inr (.inr (.inr fot))))), (ta3, .inl (cB3, 5, .inl fb3))] [] [(cOt, .object "java/lang/Object"), (cB3, .int)])) (va_Qi (fun (r : Int32) (_ : Unit) => r = 0) (fun (_ : Unit) (_ : State) => True) (va_A [] sz)) 0 0 (va_A [] sz) := by
  refine Met.ofW (cc := cX8_ofThingNow) (maxL := 5) (ret := (some .int)) (by decide) rfl ?_
  intro p e s m args below meth c s₁ B hml hv
  obtain ⟨rfl, hsz, hR0, hP, hK, hD0, hN, hH, hX0⟩ := hv
  have hx := B.exec
  have hb := B.bytes
  have hr := B.returns
  have hts := atoms_spec (ws := wsX8_ofThingNow) B.pre
  have hown : s.vm.findClass RX8 = some m.cls := findClass_of_methodNamed B.named
  have hlocks := B.notSynchronized
  subst hsz
  have hD := hD0.self (sz := s.heap.size)
  have hAr := zx_A hX0 hR0
  generalize hAe : va_A [] s.heap.size = A at hD hAr hH ⊢
  have hA : ∀ q : Nat, s.heap.size ≤ q → A q := fun q h => by rw [← hAe]; exact Or.inr h
  have hS : va_S A s.heap s.heap [] := va_S.rf
  have hl := lv_entry ([.ref mo, .int 3, .int 1]) (n := 5) (Nat.le_of_ble_eq_true rfl)
  rw [lg_entry_eq]
  generalize (lg_sl ([.ref mo, .int 3, .int 1]) ++ List.replicate (5 - (lg_sl ([.ref mo, .int 3, .int 1])).length) Slot.unset).toArray = ls at hl ⊢
  have hl : lv_has ls 5 [(0, .ref mo), (1, .int 3), (2, .int 1)] := hl
  refine lv_iload_n hx hb dX8_ofThingNow_0 rfl (lv_at hl 2 rfl) ?_
  refine lv_iconst (v := 4) hx hb dX8_ofThingNow_1 (by decide) ?_
  refine lv_icmp_ge (tgt := 22) hx hb dX8_ofThingNow_2 (by decide) (fun h => absurd h (by decide)) (fun _ => ?_)
  refine lv_aload_n hx hb dX8_ofThingNow_5 rfl (lv_at hl 0 rfl) ?_
  refine va_get (D := (dC, dI)) (ci := 10) (v := .ref mr) (C := RX8) (T := TX8) (N := 4) hx hb hts zi_X8_ofThingNow_X8 hown hK hR0 0 rfl rfl 1 (by decide) (hts (.fieldLink RX8 10 "LockRoomsModel" "room" "LLockRoomsModel$Room;") (by decide +kernel)) (fun _ h9 => h9) rfl dX8_ofThingNow_6 ?_
  refine va_getN (D := (dC, dI)) (ci := 9) (v := .ref lt) (C := RX7) (T := TX7) (N := 14) hx hb hts zi_X8_ofThingNow_X7 hown hK hR0 1 rfl rfl 1 (by decide) (va_Nw.use rfl (hN.1 ("LockRoomsModel", 38, "LockRoomsModel$Room", "things", "Ljava/util/ArrayList;", "LockRoomsModel") (List.mem_of_getElem? (i := 2) rfl))) (fun _ h9 => h9) rfl dX8_ofThingNow_9 ?_
  refine lv_iload_n hx hb dX8_ofThingNow_12 rfl (lv_at hl 1 rfl) ?_
  have hPr := (hR0).sub (ws' := [(lt, .inr (1, [.int 10, .ref ota, .int 10])), (ota, .inl (cOt, 10, .inr (.inr (.inr (.inr fot)))))]) [2, 3] rfl
  have hPc := hP.sub (ws' := []) [] rfl
  have hDc := hD.sub (ws' := []) [] (by decide) rfl
  have hKc := hK.sub (tys' := [(cOt, .object "java/lang/Object")]) [0] rfl
  have hFc := va_free (wc := []) hD hS hA [] rfl
  refine va_callr (va_runV (As := [.int 3]) (rest := []) ⟨hx, hb, hml, hown, hts⟩ (cz_Qget_3_10 l dC dI ed s.heap.size lt 10 ota cOt fot ta3 hot3) (cwV 1 hts gX8_ofThingNow_Jx4a65c_get_915e3 rfl rfl rfl (by decide +kernel) ⟨Nat.le_of_ble_eq_true rfl, Nat.le_of_ble_eq_true rfl⟩) ⟨zb_blind, va_recv hK hR0 (ci := 1) (q0 := 2) rfl rfl, fun U hU hW => ⟨rfl, zb_mk hU hW hPr hPc hKc hDc hN hH hS hFc zx_e⟩⟩ rfl rfl hl.1 rfl (lv_room (Nat.le_of_ble_eq_true rfl)) dX8_ofThingNow_13 ⟨Nat.le_of_ble_eq_true rfl, Nat.le_of_ble_eq_true rfl⟩) hS (fun q _ h => hFc q h) hFc (fun u r2 t H1 locs ht hvm hw hB hz1 hk1 hS => ?_)
  obtain ⟨hq3_0, hP1, hD1, hK1⟩ := hB
  rw [ht] at hP1
  obtain ⟨hP, hD⟩ := va_join (wr := []) (w1 := []) hP hD [] [] rfl rfl (by decide) (by decide) hk1 hFc hP1 hD1
  have hP : va_P (dC, dI) vwCl [] H1 := hP
  have hD : va_D A [] := hD
  obtain rfl : ta3 = r2 := hq3_0.symm
  refine va_castA (nm := "[I") hx hb hown (hts (.classLink RX8 88 "[I") (by decide +kernel)) (zo_R hR0 hS hAr) 4 rfl (show s.vm.findClass "[I" = some cB3 from (hK.2 1 _ rfl).2) dX8_ofThingNow_16 ?_
  refine lv_iload_n hx hb dX8_ofThingNow_19 rfl (lv_at hl 2 rfl) ?_
  refine va_iald hx hb hK (zo_R hR0 hS hAr) 4 1 rfl rfl (by unfold vp_in; decide) dX8_ofThingNow_20 ?_
  refine zo_i (v := 0) (by rw [show Int32.toNatClampNeg 1 = 1 from by decide]; exact hb3_1) ?_
  refine W.widen (k := 0) (n := 0) (Nat.le_of_ble_eq_true rfl) (Nat.le_of_ble_eq_true rfl) ?_
  exact W.iret hx hb hr (fun t ht hW => ⟨⟨0, (), rfl, rfl, trivial⟩, hS.F ht⟩) hS.2.2 dX8_ofThingNow_21
set_option maxHeartbeats 4000000 in
set_option maxRecDepth 100000 in
theorem cz_QofThingNow_3_2 (l : Launch) (dC : Nat → ClassId) (dI : Nat → Nat → Nat) (ed sz : Nat) (mo : Nat) (mr : Nat) (x9 : Int32) (s9 : Int64) (ll : Nat) (lt : Nat) (lp : Nat) (ota : Nat) (cOt : ClassId) (fot : Nat → Option Nat) (ta3 : Nat) (cB3 : ClassId) (fb3 : Nat → Int32) (hot3 : fot 3 = some ta3) (hb3_2 : fb3 2 = 0) : Met l yX8_ofThingNow wsX8_ofThingNow ({ frames := 3, cells := 0, slots := 0, locals := 64 } : Jvm.Room) (va_Pc [.ref mo, .int 3, .int 2] (zB dC dI ed sz [(mo, .inr (10, [.int x9, .ref mr, .int 1, .long s9])), (mr, .inr (9, [.ref ll, .ref lt, .ref lp, .int 0, .int 0, .int 0, .int 0, .int 0, .int 0, .int 0, .int (-1), .int 0, .int 0, .int 0])), (lt, .inr (1, [.int 10, .ref ota, .int 10])), (ota, .inl (cOt, 10, .inr (.inr (.inr (.inr fot))))), (ta3, .inl (cB3, 5, .inl fb3))] [] [(cOt, .object "java/lang/Object"), (cB3, .int)])) (va_Qi (fun (r : Int32) (_ : Unit) => r = 0) (fun (_ : Unit) (_ : State) => True) (va_A [] sz)) 0 0 (va_A [] sz) := by
  refine Met.ofW (cc := cX8_ofThingNow) (maxL := 5) (ret := (some .int)) (by decide) rfl ?_
  intro p e s m args below meth c s₁ B hml hv
  obtain ⟨rfl, hsz, hR0, hP, hK, hD0, hN, hH, hX0⟩ := hv
  have hx := B.exec
  have hb := B.bytes
  have hr := B.returns
  have hts := atoms_spec (ws := wsX8_ofThingNow) B.pre
  have hown : s.vm.findClass RX8 = some m.cls := findClass_of_methodNamed B.named
  have hlocks := B.notSynchronized
  subst hsz
  have hD := hD0.self (sz := s.heap.size)
  have hAr := zx_A hX0 hR0
  generalize hAe : va_A [] s.heap.size = A at hD hAr hH ⊢
  have hA : ∀ q : Nat, s.heap.size ≤ q → A q := fun q h => by rw [← hAe]; exact Or.inr h
  have hS : va_S A s.heap s.heap [] := va_S.rf
  have hl := lv_entry ([.ref mo, .int 3, .int 2]) (n := 5) (Nat.le_of_ble_eq_true rfl)
  rw [lg_entry_eq]
  generalize (lg_sl ([.ref mo, .int 3, .int 2]) ++ List.replicate (5 - (lg_sl ([.ref mo, .int 3, .int 2])).length) Slot.unset).toArray = ls at hl ⊢
  have hl : lv_has ls 5 [(0, .ref mo), (1, .int 3), (2, .int 2)] := hl
  refine lv_iload_n hx hb dX8_ofThingNow_0 rfl (lv_at hl 2 rfl) ?_
  refine lv_iconst (v := 4) hx hb dX8_ofThingNow_1 (by decide) ?_
  refine lv_icmp_ge (tgt := 22) hx hb dX8_ofThingNow_2 (by decide) (fun h => absurd h (by decide)) (fun _ => ?_)
  refine lv_aload_n hx hb dX8_ofThingNow_5 rfl (lv_at hl 0 rfl) ?_
  refine va_get (D := (dC, dI)) (ci := 10) (v := .ref mr) (C := RX8) (T := TX8) (N := 4) hx hb hts zi_X8_ofThingNow_X8 hown hK hR0 0 rfl rfl 1 (by decide) (hts (.fieldLink RX8 10 "LockRoomsModel" "room" "LLockRoomsModel$Room;") (by decide +kernel)) (fun _ h9 => h9) rfl dX8_ofThingNow_6 ?_
  refine va_getN (D := (dC, dI)) (ci := 9) (v := .ref lt) (C := RX7) (T := TX7) (N := 14) hx hb hts zi_X8_ofThingNow_X7 hown hK hR0 1 rfl rfl 1 (by decide) (va_Nw.use rfl (hN.1 ("LockRoomsModel", 38, "LockRoomsModel$Room", "things", "Ljava/util/ArrayList;", "LockRoomsModel") (List.mem_of_getElem? (i := 2) rfl))) (fun _ h9 => h9) rfl dX8_ofThingNow_9 ?_
  refine lv_iload_n hx hb dX8_ofThingNow_12 rfl (lv_at hl 1 rfl) ?_
  have hPr := (hR0).sub (ws' := [(lt, .inr (1, [.int 10, .ref ota, .int 10])), (ota, .inl (cOt, 10, .inr (.inr (.inr (.inr fot)))))]) [2, 3] rfl
  have hPc := hP.sub (ws' := []) [] rfl
  have hDc := hD.sub (ws' := []) [] (by decide) rfl
  have hKc := hK.sub (tys' := [(cOt, .object "java/lang/Object")]) [0] rfl
  have hFc := va_free (wc := []) hD hS hA [] rfl
  refine va_callr (va_runV (As := [.int 3]) (rest := []) ⟨hx, hb, hml, hown, hts⟩ (cz_Qget_3_10 l dC dI ed s.heap.size lt 10 ota cOt fot ta3 hot3) (cwV 1 hts gX8_ofThingNow_Jx4a65c_get_915e3 rfl rfl rfl (by decide +kernel) ⟨Nat.le_of_ble_eq_true rfl, Nat.le_of_ble_eq_true rfl⟩) ⟨zb_blind, va_recv hK hR0 (ci := 1) (q0 := 2) rfl rfl, fun U hU hW => ⟨rfl, zb_mk hU hW hPr hPc hKc hDc hN hH hS hFc zx_e⟩⟩ rfl rfl hl.1 rfl (lv_room (Nat.le_of_ble_eq_true rfl)) dX8_ofThingNow_13 ⟨Nat.le_of_ble_eq_true rfl, Nat.le_of_ble_eq_true rfl⟩) hS (fun q _ h => hFc q h) hFc (fun u r2 t H1 locs ht hvm hw hB hz1 hk1 hS => ?_)
  obtain ⟨hq3_0, hP1, hD1, hK1⟩ := hB
  rw [ht] at hP1
  obtain ⟨hP, hD⟩ := va_join (wr := []) (w1 := []) hP hD [] [] rfl rfl (by decide) (by decide) hk1 hFc hP1 hD1
  have hP : va_P (dC, dI) vwCl [] H1 := hP
  have hD : va_D A [] := hD
  obtain rfl : ta3 = r2 := hq3_0.symm
  refine va_castA (nm := "[I") hx hb hown (hts (.classLink RX8 88 "[I") (by decide +kernel)) (zo_R hR0 hS hAr) 4 rfl (show s.vm.findClass "[I" = some cB3 from (hK.2 1 _ rfl).2) dX8_ofThingNow_16 ?_
  refine lv_iload_n hx hb dX8_ofThingNow_19 rfl (lv_at hl 2 rfl) ?_
  refine va_iald hx hb hK (zo_R hR0 hS hAr) 4 1 rfl rfl (by unfold vp_in; decide) dX8_ofThingNow_20 ?_
  refine zo_i (v := 0) (by rw [show Int32.toNatClampNeg 2 = 2 from by decide]; exact hb3_2) ?_
  refine W.widen (k := 0) (n := 0) (Nat.le_of_ble_eq_true rfl) (Nat.le_of_ble_eq_true rfl) ?_
  exact W.iret hx hb hr (fun t ht hW => ⟨⟨0, (), rfl, rfl, trivial⟩, hS.F ht⟩) hS.2.2 dX8_ofThingNow_21
set_option maxHeartbeats 4000000 in
set_option maxRecDepth 100000 in
theorem cz_QofThingNow_3_3 (l : Launch) (dC : Nat → ClassId) (dI : Nat → Nat → Nat) (ed sz : Nat) (mo : Nat) (mr : Nat) (x9 : Int32) (s9 : Int64) (ll : Nat) (lt : Nat) (lp : Nat) (ota : Nat) (cOt : ClassId) (fot : Nat → Option Nat) (ta3 : Nat) (cB3 : ClassId) (fb3 : Nat → Int32) (hot3 : fot 3 = some ta3) (hb3_3 : fb3 3 = 0) : Met l yX8_ofThingNow wsX8_ofThingNow ({ frames := 3, cells := 0, slots := 0, locals := 64 } : Jvm.Room) (va_Pc [.ref mo, .int 3, .int 3] (zB dC dI ed sz [(mo, .inr (10, [.int x9, .ref mr, .int 1, .long s9])), (mr, .inr (9, [.ref ll, .ref lt, .ref lp, .int 0, .int 0, .int 0, .int 0, .int 0, .int 0, .int 0, .int (-1), .int 0, .int 0, .int 0])), (lt, .inr (1, [.int 10, .ref ota, .int 10])), (ota, .inl (cOt, 10, .inr (.inr (.inr (.inr fot))))), (ta3, .inl (cB3, 5, .inl fb3))] [] [(cOt, .object "java/lang/Object"), (cB3, .int)])) (va_Qi (fun (r : Int32) (_ : Unit) => r = 0) (fun (_ : Unit) (_ : State) => True) (va_A [] sz)) 0 0 (va_A [] sz) := by
  refine Met.ofW (cc := cX8_ofThingNow) (maxL := 5) (ret := (some .int)) (by decide) rfl ?_
  intro p e s m args below meth c s₁ B hml hv
  obtain ⟨rfl, hsz, hR0, hP, hK, hD0, hN, hH, hX0⟩ := hv
  have hx := B.exec
  have hb := B.bytes
  have hr := B.returns
  have hts := atoms_spec (ws := wsX8_ofThingNow) B.pre
  have hown : s.vm.findClass RX8 = some m.cls := findClass_of_methodNamed B.named
  have hlocks := B.notSynchronized
  subst hsz
  have hD := hD0.self (sz := s.heap.size)
  have hAr := zx_A hX0 hR0
  generalize hAe : va_A [] s.heap.size = A at hD hAr hH ⊢
  have hA : ∀ q : Nat, s.heap.size ≤ q → A q := fun q h => by rw [← hAe]; exact Or.inr h
  have hS : va_S A s.heap s.heap [] := va_S.rf
  have hl := lv_entry ([.ref mo, .int 3, .int 3]) (n := 5) (Nat.le_of_ble_eq_true rfl)
  rw [lg_entry_eq]
  generalize (lg_sl ([.ref mo, .int 3, .int 3]) ++ List.replicate (5 - (lg_sl ([.ref mo, .int 3, .int 3])).length) Slot.unset).toArray = ls at hl ⊢
  have hl : lv_has ls 5 [(0, .ref mo), (1, .int 3), (2, .int 3)] := hl
  refine lv_iload_n hx hb dX8_ofThingNow_0 rfl (lv_at hl 2 rfl) ?_
  refine lv_iconst (v := 4) hx hb dX8_ofThingNow_1 (by decide) ?_
  refine lv_icmp_ge (tgt := 22) hx hb dX8_ofThingNow_2 (by decide) (fun h => absurd h (by decide)) (fun _ => ?_)
  refine lv_aload_n hx hb dX8_ofThingNow_5 rfl (lv_at hl 0 rfl) ?_
  refine va_get (D := (dC, dI)) (ci := 10) (v := .ref mr) (C := RX8) (T := TX8) (N := 4) hx hb hts zi_X8_ofThingNow_X8 hown hK hR0 0 rfl rfl 1 (by decide) (hts (.fieldLink RX8 10 "LockRoomsModel" "room" "LLockRoomsModel$Room;") (by decide +kernel)) (fun _ h9 => h9) rfl dX8_ofThingNow_6 ?_
  refine va_getN (D := (dC, dI)) (ci := 9) (v := .ref lt) (C := RX7) (T := TX7) (N := 14) hx hb hts zi_X8_ofThingNow_X7 hown hK hR0 1 rfl rfl 1 (by decide) (va_Nw.use rfl (hN.1 ("LockRoomsModel", 38, "LockRoomsModel$Room", "things", "Ljava/util/ArrayList;", "LockRoomsModel") (List.mem_of_getElem? (i := 2) rfl))) (fun _ h9 => h9) rfl dX8_ofThingNow_9 ?_
  refine lv_iload_n hx hb dX8_ofThingNow_12 rfl (lv_at hl 1 rfl) ?_
  have hPr := (hR0).sub (ws' := [(lt, .inr (1, [.int 10, .ref ota, .int 10])), (ota, .inl (cOt, 10, .inr (.inr (.inr (.inr fot)))))]) [2, 3] rfl
  have hPc := hP.sub (ws' := []) [] rfl
  have hDc := hD.sub (ws' := []) [] (by decide) rfl
  have hKc := hK.sub (tys' := [(cOt, .object "java/lang/Object")]) [0] rfl
  have hFc := va_free (wc := []) hD hS hA [] rfl
  refine va_callr (va_runV (As := [.int 3]) (rest := []) ⟨hx, hb, hml, hown, hts⟩ (cz_Qget_3_10 l dC dI ed s.heap.size lt 10 ota cOt fot ta3 hot3) (cwV 1 hts gX8_ofThingNow_Jx4a65c_get_915e3 rfl rfl rfl (by decide +kernel) ⟨Nat.le_of_ble_eq_true rfl, Nat.le_of_ble_eq_true rfl⟩) ⟨zb_blind, va_recv hK hR0 (ci := 1) (q0 := 2) rfl rfl, fun U hU hW => ⟨rfl, zb_mk hU hW hPr hPc hKc hDc hN hH hS hFc zx_e⟩⟩ rfl rfl hl.1 rfl (lv_room (Nat.le_of_ble_eq_true rfl)) dX8_ofThingNow_13 ⟨Nat.le_of_ble_eq_true rfl, Nat.le_of_ble_eq_true rfl⟩) hS (fun q _ h => hFc q h) hFc (fun u r2 t H1 locs ht hvm hw hB hz1 hk1 hS => ?_)
  obtain ⟨hq3_0, hP1, hD1, hK1⟩ := hB
  rw [ht] at hP1
  obtain ⟨hP, hD⟩ := va_join (wr := []) (w1 := []) hP hD [] [] rfl rfl (by decide) (by decide) hk1 hFc hP1 hD1
  have hP : va_P (dC, dI) vwCl [] H1 := hP
  have hD : va_D A [] := hD
  obtain rfl : ta3 = r2 := hq3_0.symm
  refine va_castA (nm := "[I") hx hb hown (hts (.classLink RX8 88 "[I") (by decide +kernel)) (zo_R hR0 hS hAr) 4 rfl (show s.vm.findClass "[I" = some cB3 from (hK.2 1 _ rfl).2) dX8_ofThingNow_16 ?_
  refine lv_iload_n hx hb dX8_ofThingNow_19 rfl (lv_at hl 2 rfl) ?_
  refine va_iald hx hb hK (zo_R hR0 hS hAr) 4 1 rfl rfl (by unfold vp_in; decide) dX8_ofThingNow_20 ?_
  refine zo_i (v := 0) (by rw [show Int32.toNatClampNeg 3 = 3 from by decide]; exact hb3_3) ?_
  refine W.widen (k := 0) (n := 0) (Nat.le_of_ble_eq_true rfl) (Nat.le_of_ble_eq_true rfl) ?_
  exact W.iret hx hb hr (fun t ht hW => ⟨⟨0, (), rfl, rfl, trivial⟩, hS.F ht⟩) hS.2.2 dX8_ofThingNow_21
set_option maxHeartbeats 4000000 in
set_option maxRecDepth 100000 in
theorem cz_QofThingNow_3_4 (l : Launch) (dC : Nat → ClassId) (dI : Nat → Nat → Nat) (ed sz : Nat) (mo : Nat) (mr : Nat) (x9 : Int32) (s9 : Int64) (ll : Nat) (lt : Nat) (lp : Nat) (ota : Nat) (cOt : ClassId) (fot : Nat → Option Nat) (ta3 : Nat) (cB3 : ClassId) (fb3 : Nat → Int32) (hot3 : fot 3 = some ta3) (hb3_0 : fb3 0 = (-1)) (hb3_3 : fb3 3 = 0) : Met l yX8_ofThingNow wsX8_ofThingNow ({ frames := 4, cells := 0, slots := 0, locals := 86 } : Jvm.Room) (va_Pc [.ref mo, .int 3, .int 4] (zB dC dI ed sz [(mo, .inr (10, [.int x9, .ref mr, .int 1, .long s9])), (mr, .inr (9, [.ref ll, .ref lt, .ref lp, .int 0, .int 0, .int 0, .int 0, .int 0, .int 0, .int 0, .int (-1), .int 0, .int 0, .int 0])), (lt, .inr (1, [.int 10, .ref ota, .int 10])), (ota, .inl (cOt, 10, .inr (.inr (.inr (.inr fot))))), (ta3, .inl (cB3, 5, .inl fb3))] [] [(cOt, .object "java/lang/Object"), (cB3, .int)])) (va_Qi (fun (r : Int32) (_ : Unit) => r = 1) (fun (_ : Unit) (_ : State) => True) (va_A [] sz)) 0 0 (va_A [] sz) := by
  refine Met.ofW (cc := cX8_ofThingNow) (maxL := 5) (ret := (some .int)) (by decide) rfl ?_
  intro p e s m args below meth c s₁ B hml hv
  obtain ⟨rfl, hsz, hR0, hP, hK, hD0, hN, hH, hX0⟩ := hv
  have hx := B.exec
  have hb := B.bytes
  have hr := B.returns
  have hts := atoms_spec (ws := wsX8_ofThingNow) B.pre
  have hown : s.vm.findClass RX8 = some m.cls := findClass_of_methodNamed B.named
  have hlocks := B.notSynchronized
  subst hsz
  have hD := hD0.self (sz := s.heap.size)
  have hAr := zx_A hX0 hR0
  generalize hAe : va_A [] s.heap.size = A at hD hAr hH ⊢
  have hA : ∀ q : Nat, s.heap.size ≤ q → A q := fun q h => by rw [← hAe]; exact Or.inr h
  have hS : va_S A s.heap s.heap [] := va_S.rf
  have hl := lv_entry ([.ref mo, .int 3, .int 4]) (n := 5) (Nat.le_of_ble_eq_true rfl)
  rw [lg_entry_eq]
  generalize (lg_sl ([.ref mo, .int 3, .int 4]) ++ List.replicate (5 - (lg_sl ([.ref mo, .int 3, .int 4])).length) Slot.unset).toArray = ls at hl ⊢
  have hl : lv_has ls 5 [(0, .ref mo), (1, .int 3), (2, .int 4)] := hl
  refine lv_iload_n hx hb dX8_ofThingNow_0 rfl (lv_at hl 2 rfl) ?_
  refine lv_iconst (v := 4) hx hb dX8_ofThingNow_1 (by decide) ?_
  refine lv_icmp_ge (tgt := 22) hx hb dX8_ofThingNow_2 (by decide) (fun _ => ?_) (fun h => absurd h (by decide))
  refine lv_iload_n hx hb dX8_ofThingNow_22 rfl (lv_at hl 2 rfl) ?_
  refine lv_iconst (v := 4) hx hb dX8_ofThingNow_23 (by decide) ?_
  refine lv_icmp_ne (tgt := 44) hx hb dX8_ofThingNow_24 (by decide) (fun h => absurd h (by decide)) (fun _ => ?_)
  refine lv_aload_n hx hb dX8_ofThingNow_27 rfl (lv_at hl 0 rfl) ?_
  refine va_get (D := (dC, dI)) (ci := 10) (v := .ref mr) (C := RX8) (T := TX8) (N := 4) hx hb hts zi_X8_ofThingNow_X8 hown hK hR0 0 rfl rfl 1 (by decide) (hts (.fieldLink RX8 10 "LockRoomsModel" "room" "LLockRoomsModel$Room;") (by decide +kernel)) (fun _ h9 => h9) rfl dX8_ofThingNow_28 ?_
  refine lv_iload_n hx hb dX8_ofThingNow_31 rfl (lv_at hl 1 rfl) ?_
  have hPr := (hR0).sub (ws' := [(mr, .inr (9, [.ref ll, .ref lt, .ref lp, .int 0, .int 0, .int 0, .int 0, .int 0, .int 0, .int 0, .int (-1), .int 0, .int 0, .int 0])), (lt, .inr (1, [.int 10, .ref ota, .int 10])), (ota, .inl (cOt, 10, .inr (.inr (.inr (.inr fot))))), (ta3, .inl (cB3, 5, .inl fb3))]) [1, 2, 3, 4] rfl
  have hPc := hP.sub (ws' := []) [] rfl
  have hDc := hD.sub (ws' := []) [] (by decide) rfl
  have hKc := hK.sub (tys' := [(cOt, .object "java/lang/Object"), (cB3, .int)]) [0, 1] rfl
  have hFc := va_free (wc := []) hD hS hA [] rfl
  refine va_calli (va_runV (As := [.int 3]) (rest := []) ⟨hx, hb, hml, hown, hts⟩ (cz_QisReached_3 l dC dI ed s.heap.size mr ll lt lp ota cOt fot ta3 cB3 fb3 hot3 hb3_0 hb3_3) (cwV 1 hts gX8_ofThingNow_X7_isReached rfl rfl rfl (by decide +kernel) ⟨Nat.le_of_ble_eq_true rfl, Nat.le_of_ble_eq_true rfl⟩) ⟨zb_blind, va_recv hK hR0 (ci := 9) (q0 := 1) rfl rfl, fun U hU hW => ⟨rfl, zb_mk hU hW hPr hPc hKc hDc hN hH hS hFc zx_e⟩⟩ rfl rfl hl.1 rfl (lv_room (Nat.le_of_ble_eq_true rfl)) dX8_ofThingNow_32 ⟨Nat.le_of_ble_eq_true rfl, Nat.le_of_ble_eq_true rfl⟩) hS (fun q _ h => hFc q h) hFc (fun r2 u t H1 locs ht hvm hw hB hz1 hk1 hS => ?_)
  obtain rfl : r2 = 1 := hw
  have hP := zo_K hP hk1
  refine lv_if_eq (tgt := 42) hx hb dX8_ofThingNow_35 (by decide) (fun h => absurd h (by decide)) (fun _ => ?_)
  refine lv_iconst (v := 1) hx hb dX8_ofThingNow_38 (by decide) ?_
  refine lv_goto (tgt := 43) hx hb dX8_ofThingNow_39 (by decide) ?_
  refine W.widen (k := 0) (n := 0) (Nat.le_of_ble_eq_true rfl) (Nat.le_of_ble_eq_true rfl) ?_
  exact W.iret hx hb hr (fun t ht hW => ⟨⟨1, (), rfl, rfl, trivial⟩, hS.F ht⟩) hS.2.2 dX8_ofThingNow_43
set_option maxHeartbeats 4000000 in
set_option maxRecDepth 100000 in
theorem cz_QofThingNow_3_5 (l : Launch) (dC : Nat → ClassId) (dI : Nat → Nat → Nat) (ed sz : Nat) (mo : Nat) (mr : Nat) (x9 : Int32) (s9 : Int64) (ll : Nat) (lt : Nat) (lp : Nat) (ola : Nat) (cOl : ClassId) (fol : Nat → Option Nat) (la0 : Nat) (la1 : Nat) (cA0 : ClassId) (fa0 : Nat → Int32) (cA1 : ClassId) (fa1 : Nat → Int32) (hol0 : fol 0 = some la0) (hol1 : fol 1 = some la1) (ha0_0 : fa0 0 = 0) (ha1_0 : fa1 0 = 0) : Met l yX8_ofThingNow wsX8_ofThingNow ({ frames := 3, cells := 0, slots := 0, locals := 64 } : Jvm.Room) (va_Pc [.ref mo, .int 3, .int 5] (zB dC dI ed sz [(mo, .inr (10, [.int x9, .ref mr, .int 1, .long s9])), (mr, .inr (9, [.ref ll, .ref lt, .ref lp, .int 0, .int 0, .int 0, .int 0, .int 0, .int 0, .int 0, .int (-1), .int 0, .int 0, .int 0])), (ll, .inr (1, [.int 2, .ref ola, .int 2])), (ola, .inl (cOl, 10, .inr (.inr (.inr (.inr fol))))), (la0, .inl (cA0, 10, .inl fa0)), (la1, .inl (cA1, 10, .inl fa1))] [] [(cOl, .object "java/lang/Object"), (cA0, .int), (cA1, .int)])) (va_Qi (fun (r : Int32) (_ : Unit) => r = 0) (fun (_ : Unit) (_ : State) => True) (va_A [] sz)) 0 0 (va_A [] sz) := by
  refine Met.ofW (cc := cX8_ofThingNow) (maxL := 5) (ret := (some .int)) (by decide) rfl ?_
  intro p e s m args below meth c s₁ B hml hv
  obtain ⟨rfl, hsz, hR0, hP, hK, hD0, hN, hH, hX0⟩ := hv
  have hx := B.exec
  have hb := B.bytes
  have hr := B.returns
  have hts := atoms_spec (ws := wsX8_ofThingNow) B.pre
  have hown : s.vm.findClass RX8 = some m.cls := findClass_of_methodNamed B.named
  have hlocks := B.notSynchronized
  subst hsz
  have hD := hD0.self (sz := s.heap.size)
  have hAr := zx_A hX0 hR0
  generalize hAe : va_A [] s.heap.size = A at hD hAr hH ⊢
  have hA : ∀ q : Nat, s.heap.size ≤ q → A q := fun q h => by rw [← hAe]; exact Or.inr h
  have hS : va_S A s.heap s.heap [] := va_S.rf
  have hl := lv_entry ([.ref mo, .int 3, .int 5]) (n := 5) (Nat.le_of_ble_eq_true rfl)
  rw [lg_entry_eq]
  generalize (lg_sl ([.ref mo, .int 3, .int 5]) ++ List.replicate (5 - (lg_sl ([.ref mo, .int 3, .int 5])).length) Slot.unset).toArray = ls at hl ⊢
  have hl : lv_has ls 5 [(0, .ref mo), (1, .int 3), (2, .int 5)] := hl
  refine lv_iload_n hx hb dX8_ofThingNow_0 rfl (lv_at hl 2 rfl) ?_
  refine lv_iconst (v := 4) hx hb dX8_ofThingNow_1 (by decide) ?_
  refine lv_icmp_ge (tgt := 22) hx hb dX8_ofThingNow_2 (by decide) (fun _ => ?_) (fun h => absurd h (by decide))
  refine lv_iload_n hx hb dX8_ofThingNow_22 rfl (lv_at hl 2 rfl) ?_
  refine lv_iconst (v := 4) hx hb dX8_ofThingNow_23 (by decide) ?_
  refine lv_icmp_ne (tgt := 44) hx hb dX8_ofThingNow_24 (by decide) (fun _ => ?_) (fun h => absurd h (by decide))
  refine lv_iconst (v := 0) hx hb dX8_ofThingNow_44 (by decide) ?_
  refine lv_istore_n (lv' := [(3, .int 0), (0, .ref mo), (1, .int 3), (2, .int 5)]) hx hb dX8_ofThingNow_45 rfl hl (by decide) rfl (fun ls hl => ?_)
  refine lv_iconst (v := 0) hx hb dX8_ofThingNow_46 (by decide) ?_
  refine lv_istore (lv' := [(4, .int 0), (3, .int 0), (0, .ref mo), (1, .int 3), (2, .int 5)]) hx hb dX8_ofThingNow_47 hl (by decide) rfl (fun ls hl => ?_)
  refine lv_iload hx hb dX8_ofThingNow_49 (lv_at hl 0 rfl) ?_
  refine lv_aload_n hx hb dX8_ofThingNow_51 rfl (lv_at hl 2 rfl) ?_
  refine va_get (D := (dC, dI)) (ci := 10) (v := .ref mr) (C := RX8) (T := TX8) (N := 4) hx hb hts zi_X8_ofThingNow_X8 hown hK hR0 0 rfl rfl 1 (by decide) (hts (.fieldLink RX8 10 "LockRoomsModel" "room" "LLockRoomsModel$Room;") (by decide +kernel)) (fun _ h9 => h9) rfl dX8_ofThingNow_52 ?_
  refine va_getN (D := (dC, dI)) (ci := 9) (v := .ref ll) (C := RX7) (T := TX7) (N := 14) hx hb hts zi_X8_ofThingNow_X7 hown hK hR0 1 rfl rfl 0 (by decide) (va_Nw.use rfl (hN.1 ("LockRoomsModel", 24, "LockRoomsModel$Room", "locks", "Ljava/util/ArrayList;", "LockRoomsModel") (List.mem_of_getElem? (i := 1) rfl))) (fun _ h9 => h9) rfl dX8_ofThingNow_55 ?_
  have hPr := (hR0).sub (ws' := [(ll, .inr (1, [.int 2, .ref ola, .int 2]))]) [2] rfl
  have hPc := hP.sub (ws' := []) [] rfl
  have hDc := hD.sub (ws' := []) [] (by decide) rfl
  have hKc := hK.sub (tys' := []) [] rfl
  have hFc := va_free (wc := []) hD hS hA [] rfl
  refine va_calli (va_runV (As := []) (rest := [.int 0]) ⟨hx, hb, hml, hown, hts⟩ (cz_Qsize l dC dI ed s.heap.size ll 2 ola 2) (cwV 0 hts gX8_ofThingNow_Jx4a65c_size_8abf5 rfl rfl rfl (by decide +kernel) ⟨Nat.le_of_ble_eq_true rfl, Nat.le_of_ble_eq_true rfl⟩) ⟨zb_blind, va_recv hK hR0 (ci := 1) (q0 := 2) rfl rfl, fun U hU hW => ⟨rfl, zb_mk hU hW hPr hPc hKc hDc hN hH hS hFc zx_e⟩⟩ rfl rfl hl.1 rfl (lv_room (Nat.le_of_ble_eq_true rfl)) dX8_ofThingNow_58 ⟨Nat.le_of_ble_eq_true rfl, Nat.le_of_ble_eq_true rfl⟩) hS (fun q _ h => hFc q h) hFc (fun r2 u t H1 locs ht hvm hw hB hz1 hk1 hS => ?_)
  obtain rfl : r2 = 2 := hw.trans (by decide +kernel)
  have hP := zo_K hP hk1
  refine lv_icmp_ge (tgt := 97) hx hb dX8_ofThingNow_61 (by decide) (fun h => absurd h (by decide)) (fun _ => ?_)
  refine lv_iload_n hx hb dX8_ofThingNow_64 rfl (lv_at hl 1 rfl) ?_
  refine lv_aload_n hx hb dX8_ofThingNow_65 rfl (lv_at hl 2 rfl) ?_
  refine va_get (D := (dC, dI)) (ci := 10) (v := .ref mr) (C := RX8) (T := TX8) (N := 4) hx hb hts zi_X8_ofThingNow_X8 hown hK (zo_R hR0 hS hAr) 0 rfl rfl 1 (by decide) (hts (.fieldLink RX8 10 "LockRoomsModel" "room" "LLockRoomsModel$Room;") (by decide +kernel)) (fun _ h9 => h9) rfl dX8_ofThingNow_66 ?_
  refine va_getN (D := (dC, dI)) (ci := 9) (v := .ref ll) (C := RX7) (T := TX7) (N := 14) hx hb hts zi_X8_ofThingNow_X7 hown hK (zo_R hR0 hS hAr) 1 rfl rfl 0 (by decide) (va_Nw.use rfl (hN.1 ("LockRoomsModel", 24, "LockRoomsModel$Room", "locks", "Ljava/util/ArrayList;", "LockRoomsModel") (List.mem_of_getElem? (i := 1) rfl))) (fun _ h9 => h9) rfl dX8_ofThingNow_69 ?_
  refine lv_iload hx hb dX8_ofThingNow_72 (lv_at hl 0 rfl) ?_
  have hPr := ((zo_R hR0 hS hAr)).sub (ws' := [(ll, .inr (1, [.int 2, .ref ola, .int 2])), (ola, .inl (cOl, 10, .inr (.inr (.inr (.inr fol)))))]) [2, 3] rfl
  have hPc := hP.sub (ws' := []) [] rfl
  have hDc := hD.sub (ws' := []) [] (by decide) rfl
  have hKc := hK.sub (tys' := [(cOl, .object "java/lang/Object")]) [0] rfl
  have hFc := va_free (wc := []) hD hS hA [] rfl
  refine va_callr (va_runV (As := [.int 0]) (rest := [.int 0]) ⟨hx, hb, hml, hown, hts⟩ (cz_Qget_0_2 l dC dI ed H1.size ll 2 ola cOl fol la0 hol0) (cwV 1 hts gX8_ofThingNow_Jx4a65c_get_915e3 rfl rfl rfl (by decide +kernel) ⟨Nat.le_of_ble_eq_true rfl, Nat.le_of_ble_eq_true rfl⟩) ⟨zb_blind, va_recv hK (zo_R hR0 hS hAr) (ci := 1) (q0 := 2) rfl rfl, fun U hU hW => ⟨rfl, zb_mk hU hW hPr hPc hKc hDc hN hH hS hFc zx_e⟩⟩ rfl rfl hl.1 rfl (lv_room (Nat.le_of_ble_eq_true rfl)) dX8_ofThingNow_74 ⟨Nat.le_of_ble_eq_true rfl, Nat.le_of_ble_eq_true rfl⟩) hS (fun q _ h => hFc q h) hFc (fun u r4 t H3 locs ht hvm hw hB hz1 hk1 hS => ?_)
  obtain ⟨hq5_0, hP1, hD1, hK1⟩ := hB
  rw [ht] at hP1
  obtain ⟨hP, hD⟩ := va_join (wr := []) (w1 := []) hP hD [] [] rfl rfl (by decide) (by decide) hk1 hFc hP1 hD1
  have hP : va_P (dC, dI) vwCl [] H3 := hP
  have hD : va_D A [] := hD
  obtain rfl : la0 = r4 := hq5_0.symm
  refine va_castA (nm := "[I") hx hb hown (hts (.classLink RX8 88 "[I") (by decide +kernel)) (zo_R hR0 hS hAr) 4 rfl (show s.vm.findClass "[I" = some cA0 from (hK.2 1 _ rfl).2) dX8_ofThingNow_77 ?_
  refine lv_iconst (v := 0) hx hb dX8_ofThingNow_80 (by decide) ?_
  refine va_iald hx hb hK (zo_R hR0 hS hAr) 4 1 rfl rfl (by unfold vp_in; decide) dX8_ofThingNow_81 ?_
  refine zo_i (v := 0) (by rw [show Int32.toNatClampNeg 0 = 0 from by decide]; exact ha0_0) ?_
  refine lv_iload_n hx hb dX8_ofThingNow_82 rfl (lv_at hl 3 rfl) ?_
  refine lv_ishr hx hb dX8_ofThingNow_83 ?_
  refine zo_i (v := 0) (by decide) ?_
  refine lv_iconst (v := 1) hx hb dX8_ofThingNow_84 (by decide) ?_
  refine lv_iand hx hb dX8_ofThingNow_85 ?_
  refine zo_i (v := 0) q_0and ?_
  refine lv_iload hx hb dX8_ofThingNow_86 (lv_at hl 0 rfl) ?_
  refine lv_ishl hx hb dX8_ofThingNow_88 ?_
  refine zo_i (v := 0) (by decide) ?_
  refine lv_ior hx hb dX8_ofThingNow_89 ?_
  refine zo_i (v := 0) (by decide) ?_
  refine lv_istore_n (lv' := [(3, .int 0), (4, .int 0), (0, .ref mo), (1, .int 3), (2, .int 5)]) hx hb dX8_ofThingNow_90 rfl hl (by decide) rfl (fun ls hl => ?_)
  refine lv_iinc (v := 1) (lv' := [(4, .int 1), (3, .int 0), (0, .ref mo), (1, .int 3), (2, .int 5)]) hx hb dX8_ofThingNow_91 hl (k := 1) rfl (by decide) (by decide) rfl (fun ls hl => ?_)
  refine lv_goto (tgt := 49) hx hb dX8_ofThingNow_94 (by decide) ?_
  refine lv_iload hx hb dX8_ofThingNow_49 (lv_at hl 0 rfl) ?_
  refine lv_aload_n hx hb dX8_ofThingNow_51 rfl (lv_at hl 2 rfl) ?_
  refine va_get (D := (dC, dI)) (ci := 10) (v := .ref mr) (C := RX8) (T := TX8) (N := 4) hx hb hts zi_X8_ofThingNow_X8 hown hK (zo_R hR0 hS hAr) 0 rfl rfl 1 (by decide) (hts (.fieldLink RX8 10 "LockRoomsModel" "room" "LLockRoomsModel$Room;") (by decide +kernel)) (fun _ h9 => h9) rfl dX8_ofThingNow_52 ?_
  refine va_getN (D := (dC, dI)) (ci := 9) (v := .ref ll) (C := RX7) (T := TX7) (N := 14) hx hb hts zi_X8_ofThingNow_X7 hown hK (zo_R hR0 hS hAr) 1 rfl rfl 0 (by decide) (va_Nw.use rfl (hN.1 ("LockRoomsModel", 24, "LockRoomsModel$Room", "locks", "Ljava/util/ArrayList;", "LockRoomsModel") (List.mem_of_getElem? (i := 1) rfl))) (fun _ h9 => h9) rfl dX8_ofThingNow_55 ?_
  have hPr := ((zo_R hR0 hS hAr)).sub (ws' := [(ll, .inr (1, [.int 2, .ref ola, .int 2]))]) [2] rfl
  have hPc := hP.sub (ws' := []) [] rfl
  have hDc := hD.sub (ws' := []) [] (by decide) rfl
  have hKc := hK.sub (tys' := []) [] rfl
  have hFc := va_free (wc := []) hD hS hA [] rfl
  refine va_calli (va_runV (As := []) (rest := [.int 1]) ⟨hx, hb, hml, hown, hts⟩ (cz_Qsize l dC dI ed H3.size ll 2 ola 2) (cwV 0 hts gX8_ofThingNow_Jx4a65c_size_8abf5 rfl rfl rfl (by decide +kernel) ⟨Nat.le_of_ble_eq_true rfl, Nat.le_of_ble_eq_true rfl⟩) ⟨zb_blind, va_recv hK (zo_R hR0 hS hAr) (ci := 1) (q0 := 2) rfl rfl, fun U hU hW => ⟨rfl, zb_mk hU hW hPr hPc hKc hDc hN hH hS hFc zx_e⟩⟩ rfl rfl hl.1 rfl (lv_room (Nat.le_of_ble_eq_true rfl)) dX8_ofThingNow_58 ⟨Nat.le_of_ble_eq_true rfl, Nat.le_of_ble_eq_true rfl⟩) hS (fun q _ h => hFc q h) hFc (fun r7 u t H6 locs ht hvm hw hB hz1 hk1 hS => ?_)
  obtain rfl : r7 = 2 := hw.trans (by decide +kernel)
  have hP := zo_K hP hk1
  refine lv_icmp_ge (tgt := 97) hx hb dX8_ofThingNow_61 (by decide) (fun h => absurd h (by decide)) (fun _ => ?_)
  refine lv_iload_n hx hb dX8_ofThingNow_64 rfl (lv_at hl 1 rfl) ?_
  refine lv_aload_n hx hb dX8_ofThingNow_65 rfl (lv_at hl 2 rfl) ?_
  refine va_get (D := (dC, dI)) (ci := 10) (v := .ref mr) (C := RX8) (T := TX8) (N := 4) hx hb hts zi_X8_ofThingNow_X8 hown hK (zo_R hR0 hS hAr) 0 rfl rfl 1 (by decide) (hts (.fieldLink RX8 10 "LockRoomsModel" "room" "LLockRoomsModel$Room;") (by decide +kernel)) (fun _ h9 => h9) rfl dX8_ofThingNow_66 ?_
  refine va_getN (D := (dC, dI)) (ci := 9) (v := .ref ll) (C := RX7) (T := TX7) (N := 14) hx hb hts zi_X8_ofThingNow_X7 hown hK (zo_R hR0 hS hAr) 1 rfl rfl 0 (by decide) (va_Nw.use rfl (hN.1 ("LockRoomsModel", 24, "LockRoomsModel$Room", "locks", "Ljava/util/ArrayList;", "LockRoomsModel") (List.mem_of_getElem? (i := 1) rfl))) (fun _ h9 => h9) rfl dX8_ofThingNow_69 ?_
  refine lv_iload hx hb dX8_ofThingNow_72 (lv_at hl 0 rfl) ?_
  have hPr := ((zo_R hR0 hS hAr)).sub (ws' := [(ll, .inr (1, [.int 2, .ref ola, .int 2])), (ola, .inl (cOl, 10, .inr (.inr (.inr (.inr fol)))))]) [2, 3] rfl
  have hPc := hP.sub (ws' := []) [] rfl
  have hDc := hD.sub (ws' := []) [] (by decide) rfl
  have hKc := hK.sub (tys' := [(cOl, .object "java/lang/Object")]) [0] rfl
  have hFc := va_free (wc := []) hD hS hA [] rfl
  refine va_callr (va_runV (As := [.int 1]) (rest := [.int 0]) ⟨hx, hb, hml, hown, hts⟩ (cz_Qget_1_2 l dC dI ed H6.size ll 2 ola cOl fol la1 hol1) (cwV 1 hts gX8_ofThingNow_Jx4a65c_get_915e3 rfl rfl rfl (by decide +kernel) ⟨Nat.le_of_ble_eq_true rfl, Nat.le_of_ble_eq_true rfl⟩) ⟨zb_blind, va_recv hK (zo_R hR0 hS hAr) (ci := 1) (q0 := 2) rfl rfl, fun U hU hW => ⟨rfl, zb_mk hU hW hPr hPc hKc hDc hN hH hS hFc zx_e⟩⟩ rfl rfl hl.1 rfl (lv_room (Nat.le_of_ble_eq_true rfl)) dX8_ofThingNow_74 ⟨Nat.le_of_ble_eq_true rfl, Nat.le_of_ble_eq_true rfl⟩) hS (fun q _ h => hFc q h) hFc (fun u r9 t H8 locs ht hvm hw hB hz1 hk1 hS => ?_)
  obtain ⟨hq10_0, hP1, hD1, hK1⟩ := hB
  rw [ht] at hP1
  obtain ⟨hP, hD⟩ := va_join (wr := []) (w1 := []) hP hD [] [] rfl rfl (by decide) (by decide) hk1 hFc hP1 hD1
  have hP : va_P (dC, dI) vwCl [] H8 := hP
  have hD : va_D A [] := hD
  obtain rfl : la1 = r9 := hq10_0.symm
  refine va_castA (nm := "[I") hx hb hown (hts (.classLink RX8 88 "[I") (by decide +kernel)) (zo_R hR0 hS hAr) 5 rfl (show s.vm.findClass "[I" = some cA1 from (hK.2 2 _ rfl).2) dX8_ofThingNow_77 ?_
  refine lv_iconst (v := 0) hx hb dX8_ofThingNow_80 (by decide) ?_
  refine va_iald hx hb hK (zo_R hR0 hS hAr) 5 2 rfl rfl (by unfold vp_in; decide) dX8_ofThingNow_81 ?_
  refine zo_i (v := 0) (by rw [show Int32.toNatClampNeg 0 = 0 from by decide]; exact ha1_0) ?_
  refine lv_iload_n hx hb dX8_ofThingNow_82 rfl (lv_at hl 3 rfl) ?_
  refine lv_ishr hx hb dX8_ofThingNow_83 ?_
  refine zo_i (v := 0) (by decide) ?_
  refine lv_iconst (v := 1) hx hb dX8_ofThingNow_84 (by decide) ?_
  refine lv_iand hx hb dX8_ofThingNow_85 ?_
  refine zo_i (v := 0) q_0and ?_
  refine lv_iload hx hb dX8_ofThingNow_86 (lv_at hl 0 rfl) ?_
  refine lv_ishl hx hb dX8_ofThingNow_88 ?_
  refine zo_i (v := 0) (by decide) ?_
  refine lv_ior hx hb dX8_ofThingNow_89 ?_
  refine zo_i (v := 0) (by decide) ?_
  refine lv_istore_n (lv' := [(3, .int 0), (4, .int 1), (0, .ref mo), (1, .int 3), (2, .int 5)]) hx hb dX8_ofThingNow_90 rfl hl (by decide) rfl (fun ls hl => ?_)
  refine lv_iinc (v := 2) (lv' := [(4, .int 2), (3, .int 0), (0, .ref mo), (1, .int 3), (2, .int 5)]) hx hb dX8_ofThingNow_91 hl (k := 1) rfl (by decide) (by decide) rfl (fun ls hl => ?_)
  refine lv_goto (tgt := 49) hx hb dX8_ofThingNow_94 (by decide) ?_
  refine lv_iload hx hb dX8_ofThingNow_49 (lv_at hl 0 rfl) ?_
  refine lv_aload_n hx hb dX8_ofThingNow_51 rfl (lv_at hl 2 rfl) ?_
  refine va_get (D := (dC, dI)) (ci := 10) (v := .ref mr) (C := RX8) (T := TX8) (N := 4) hx hb hts zi_X8_ofThingNow_X8 hown hK (zo_R hR0 hS hAr) 0 rfl rfl 1 (by decide) (hts (.fieldLink RX8 10 "LockRoomsModel" "room" "LLockRoomsModel$Room;") (by decide +kernel)) (fun _ h9 => h9) rfl dX8_ofThingNow_52 ?_
  refine va_getN (D := (dC, dI)) (ci := 9) (v := .ref ll) (C := RX7) (T := TX7) (N := 14) hx hb hts zi_X8_ofThingNow_X7 hown hK (zo_R hR0 hS hAr) 1 rfl rfl 0 (by decide) (va_Nw.use rfl (hN.1 ("LockRoomsModel", 24, "LockRoomsModel$Room", "locks", "Ljava/util/ArrayList;", "LockRoomsModel") (List.mem_of_getElem? (i := 1) rfl))) (fun _ h9 => h9) rfl dX8_ofThingNow_55 ?_
  have hPr := ((zo_R hR0 hS hAr)).sub (ws' := [(ll, .inr (1, [.int 2, .ref ola, .int 2]))]) [2] rfl
  have hPc := hP.sub (ws' := []) [] rfl
  have hDc := hD.sub (ws' := []) [] (by decide) rfl
  have hKc := hK.sub (tys' := []) [] rfl
  have hFc := va_free (wc := []) hD hS hA [] rfl
  refine va_calli (va_runV (As := []) (rest := [.int 2]) ⟨hx, hb, hml, hown, hts⟩ (cz_Qsize l dC dI ed H8.size ll 2 ola 2) (cwV 0 hts gX8_ofThingNow_Jx4a65c_size_8abf5 rfl rfl rfl (by decide +kernel) ⟨Nat.le_of_ble_eq_true rfl, Nat.le_of_ble_eq_true rfl⟩) ⟨zb_blind, va_recv hK (zo_R hR0 hS hAr) (ci := 1) (q0 := 2) rfl rfl, fun U hU hW => ⟨rfl, zb_mk hU hW hPr hPc hKc hDc hN hH hS hFc zx_e⟩⟩ rfl rfl hl.1 rfl (lv_room (Nat.le_of_ble_eq_true rfl)) dX8_ofThingNow_58 ⟨Nat.le_of_ble_eq_true rfl, Nat.le_of_ble_eq_true rfl⟩) hS (fun q _ h => hFc q h) hFc (fun r12 u t H11 locs ht hvm hw hB hz1 hk1 hS => ?_)
  obtain rfl : r12 = 2 := hw.trans (by decide +kernel)
  have hP := zo_K hP hk1
  refine lv_icmp_ge (tgt := 97) hx hb dX8_ofThingNow_61 (by decide) (fun _ => ?_) (fun h => absurd h (by decide))
  refine lv_iload_n hx hb dX8_ofThingNow_97 rfl (lv_at hl 1 rfl) ?_
  refine W.widen (k := 0) (n := 0) (Nat.le_of_ble_eq_true rfl) (Nat.le_of_ble_eq_true rfl) ?_
  exact W.iret hx hb hr (fun t ht hW => ⟨⟨0, (), rfl, rfl, trivial⟩, hS.F ht⟩) hS.2.2 dX8_ofThingNow_98
set_option maxHeartbeats 4000000 in
set_option maxRecDepth 100000 in
theorem cz_QofThingNow_4_0 (l : Launch) (dC : Nat → ClassId) (dI : Nat → Nat → Nat) (ed sz : Nat) (mo : Nat) (mr : Nat) (x9 : Int32) (s9 : Int64) (ll : Nat) (lt : Nat) (lp : Nat) (ota : Nat) (cOt : ClassId) (fot : Nat → Option Nat) (ta4 : Nat) (cB4 : ClassId) (fb4 : Nat → Int32) (hot4 : fot 4 = some ta4) (hb4_0 : fb4 0 = (-1)) : Met l yX8_ofThingNow wsX8_ofThingNow ({ frames := 3, cells := 0, slots := 0, locals := 64 } : Jvm.Room) (va_Pc [.ref mo, .int 4, .int 0] (zB dC dI ed sz [(mo, .inr (10, [.int x9, .ref mr, .int 1, .long s9])), (mr, .inr (9, [.ref ll, .ref lt, .ref lp, .int 0, .int 0, .int 0, .int 0, .int 0, .int 0, .int 0, .int (-1), .int 0, .int 0, .int 0])), (lt, .inr (1, [.int 10, .ref ota, .int 10])), (ota, .inl (cOt, 10, .inr (.inr (.inr (.inr fot))))), (ta4, .inl (cB4, 5, .inl fb4))] [] [(cOt, .object "java/lang/Object"), (cB4, .int)])) (va_Qi (fun (r : Int32) (_ : Unit) => r = (-1)) (fun (_ : Unit) (_ : State) => True) (va_A [] sz)) 0 0 (va_A [] sz) := by
  refine Met.ofW (cc := cX8_ofThingNow) (maxL := 5) (ret := (some .int)) (by decide) rfl ?_
  intro p e s m args below meth c s₁ B hml hv
  obtain ⟨rfl, hsz, hR0, hP, hK, hD0, hN, hH, hX0⟩ := hv
  have hx := B.exec
  have hb := B.bytes
  have hr := B.returns
  have hts := atoms_spec (ws := wsX8_ofThingNow) B.pre
  have hown : s.vm.findClass RX8 = some m.cls := findClass_of_methodNamed B.named
  have hlocks := B.notSynchronized
  subst hsz
  have hD := hD0.self (sz := s.heap.size)
  have hAr := zx_A hX0 hR0
  generalize hAe : va_A [] s.heap.size = A at hD hAr hH ⊢
  have hA : ∀ q : Nat, s.heap.size ≤ q → A q := fun q h => by rw [← hAe]; exact Or.inr h
  have hS : va_S A s.heap s.heap [] := va_S.rf
  have hl := lv_entry ([.ref mo, .int 4, .int 0]) (n := 5) (Nat.le_of_ble_eq_true rfl)
  rw [lg_entry_eq]
  generalize (lg_sl ([.ref mo, .int 4, .int 0]) ++ List.replicate (5 - (lg_sl ([.ref mo, .int 4, .int 0])).length) Slot.unset).toArray = ls at hl ⊢
  have hl : lv_has ls 5 [(0, .ref mo), (1, .int 4), (2, .int 0)] := hl
  refine lv_iload_n hx hb dX8_ofThingNow_0 rfl (lv_at hl 2 rfl) ?_
  refine lv_iconst (v := 4) hx hb dX8_ofThingNow_1 (by decide) ?_
  refine lv_icmp_ge (tgt := 22) hx hb dX8_ofThingNow_2 (by decide) (fun h => absurd h (by decide)) (fun _ => ?_)
  refine lv_aload_n hx hb dX8_ofThingNow_5 rfl (lv_at hl 0 rfl) ?_
  refine va_get (D := (dC, dI)) (ci := 10) (v := .ref mr) (C := RX8) (T := TX8) (N := 4) hx hb hts zi_X8_ofThingNow_X8 hown hK hR0 0 rfl rfl 1 (by decide) (hts (.fieldLink RX8 10 "LockRoomsModel" "room" "LLockRoomsModel$Room;") (by decide +kernel)) (fun _ h9 => h9) rfl dX8_ofThingNow_6 ?_
  refine va_getN (D := (dC, dI)) (ci := 9) (v := .ref lt) (C := RX7) (T := TX7) (N := 14) hx hb hts zi_X8_ofThingNow_X7 hown hK hR0 1 rfl rfl 1 (by decide) (va_Nw.use rfl (hN.1 ("LockRoomsModel", 38, "LockRoomsModel$Room", "things", "Ljava/util/ArrayList;", "LockRoomsModel") (List.mem_of_getElem? (i := 2) rfl))) (fun _ h9 => h9) rfl dX8_ofThingNow_9 ?_
  refine lv_iload_n hx hb dX8_ofThingNow_12 rfl (lv_at hl 1 rfl) ?_
  have hPr := (hR0).sub (ws' := [(lt, .inr (1, [.int 10, .ref ota, .int 10])), (ota, .inl (cOt, 10, .inr (.inr (.inr (.inr fot)))))]) [2, 3] rfl
  have hPc := hP.sub (ws' := []) [] rfl
  have hDc := hD.sub (ws' := []) [] (by decide) rfl
  have hKc := hK.sub (tys' := [(cOt, .object "java/lang/Object")]) [0] rfl
  have hFc := va_free (wc := []) hD hS hA [] rfl
  refine va_callr (va_runV (As := [.int 4]) (rest := []) ⟨hx, hb, hml, hown, hts⟩ (cz_Qget_4_10 l dC dI ed s.heap.size lt 10 ota cOt fot ta4 hot4) (cwV 1 hts gX8_ofThingNow_Jx4a65c_get_915e3 rfl rfl rfl (by decide +kernel) ⟨Nat.le_of_ble_eq_true rfl, Nat.le_of_ble_eq_true rfl⟩) ⟨zb_blind, va_recv hK hR0 (ci := 1) (q0 := 2) rfl rfl, fun U hU hW => ⟨rfl, zb_mk hU hW hPr hPc hKc hDc hN hH hS hFc zx_e⟩⟩ rfl rfl hl.1 rfl (lv_room (Nat.le_of_ble_eq_true rfl)) dX8_ofThingNow_13 ⟨Nat.le_of_ble_eq_true rfl, Nat.le_of_ble_eq_true rfl⟩) hS (fun q _ h => hFc q h) hFc (fun u r2 t H1 locs ht hvm hw hB hz1 hk1 hS => ?_)
  obtain ⟨hq3_0, hP1, hD1, hK1⟩ := hB
  rw [ht] at hP1
  obtain ⟨hP, hD⟩ := va_join (wr := []) (w1 := []) hP hD [] [] rfl rfl (by decide) (by decide) hk1 hFc hP1 hD1
  have hP : va_P (dC, dI) vwCl [] H1 := hP
  have hD : va_D A [] := hD
  obtain rfl : ta4 = r2 := hq3_0.symm
  refine va_castA (nm := "[I") hx hb hown (hts (.classLink RX8 88 "[I") (by decide +kernel)) (zo_R hR0 hS hAr) 4 rfl (show s.vm.findClass "[I" = some cB4 from (hK.2 1 _ rfl).2) dX8_ofThingNow_16 ?_
  refine lv_iload_n hx hb dX8_ofThingNow_19 rfl (lv_at hl 2 rfl) ?_
  refine va_iald hx hb hK (zo_R hR0 hS hAr) 4 1 rfl rfl (by unfold vp_in; decide) dX8_ofThingNow_20 ?_
  refine zo_i (v := (-1)) (by rw [show Int32.toNatClampNeg 0 = 0 from by decide]; exact hb4_0) ?_
  refine W.widen (k := 0) (n := 0) (Nat.le_of_ble_eq_true rfl) (Nat.le_of_ble_eq_true rfl) ?_
  exact W.iret hx hb hr (fun t ht hW => ⟨⟨(-1), (), rfl, rfl, trivial⟩, hS.F ht⟩) hS.2.2 dX8_ofThingNow_21
set_option maxHeartbeats 4000000 in
set_option maxRecDepth 100000 in
theorem cz_QofThingNow_4_1 (l : Launch) (dC : Nat → ClassId) (dI : Nat → Nat → Nat) (ed sz : Nat) (mo : Nat) (mr : Nat) (x9 : Int32) (s9 : Int64) (ll : Nat) (lt : Nat) (lp : Nat) (ota : Nat) (cOt : ClassId) (fot : Nat → Option Nat) (ta4 : Nat) (cB4 : ClassId) (fb4 : Nat → Int32) (hot4 : fot 4 = some ta4) (hb4_1 : fb4 1 = 0) : Met l yX8_ofThingNow wsX8_ofThingNow ({ frames := 3, cells := 0, slots := 0, locals := 64 } : Jvm.Room) (va_Pc [.ref mo, .int 4, .int 1] (zB dC dI ed sz [(mo, .inr (10, [.int x9, .ref mr, .int 1, .long s9])), (mr, .inr (9, [.ref ll, .ref lt, .ref lp, .int 0, .int 0, .int 0, .int 0, .int 0, .int 0, .int 0, .int (-1), .int 0, .int 0, .int 0])), (lt, .inr (1, [.int 10, .ref ota, .int 10])), (ota, .inl (cOt, 10, .inr (.inr (.inr (.inr fot))))), (ta4, .inl (cB4, 5, .inl fb4))] [] [(cOt, .object "java/lang/Object"), (cB4, .int)])) (va_Qi (fun (r : Int32) (_ : Unit) => r = 0) (fun (_ : Unit) (_ : State) => True) (va_A [] sz)) 0 0 (va_A [] sz) := by
  refine Met.ofW (cc := cX8_ofThingNow) (maxL := 5) (ret := (some .int)) (by decide) rfl ?_
  intro p e s m args below meth c s₁ B hml hv
  obtain ⟨rfl, hsz, hR0, hP, hK, hD0, hN, hH, hX0⟩ := hv
  have hx := B.exec
  have hb := B.bytes
  have hr := B.returns
  have hts := atoms_spec (ws := wsX8_ofThingNow) B.pre
  have hown : s.vm.findClass RX8 = some m.cls := findClass_of_methodNamed B.named
  have hlocks := B.notSynchronized
  subst hsz
  have hD := hD0.self (sz := s.heap.size)
  have hAr := zx_A hX0 hR0
  generalize hAe : va_A [] s.heap.size = A at hD hAr hH ⊢
  have hA : ∀ q : Nat, s.heap.size ≤ q → A q := fun q h => by rw [← hAe]; exact Or.inr h
  have hS : va_S A s.heap s.heap [] := va_S.rf
  have hl := lv_entry ([.ref mo, .int 4, .int 1]) (n := 5) (Nat.le_of_ble_eq_true rfl)
  rw [lg_entry_eq]
  generalize (lg_sl ([.ref mo, .int 4, .int 1]) ++ List.replicate (5 - (lg_sl ([.ref mo, .int 4, .int 1])).length) Slot.unset).toArray = ls at hl ⊢
  have hl : lv_has ls 5 [(0, .ref mo), (1, .int 4), (2, .int 1)] := hl
  refine lv_iload_n hx hb dX8_ofThingNow_0 rfl (lv_at hl 2 rfl) ?_
  refine lv_iconst (v := 4) hx hb dX8_ofThingNow_1 (by decide) ?_
  refine lv_icmp_ge (tgt := 22) hx hb dX8_ofThingNow_2 (by decide) (fun h => absurd h (by decide)) (fun _ => ?_)
  refine lv_aload_n hx hb dX8_ofThingNow_5 rfl (lv_at hl 0 rfl) ?_
  refine va_get (D := (dC, dI)) (ci := 10) (v := .ref mr) (C := RX8) (T := TX8) (N := 4) hx hb hts zi_X8_ofThingNow_X8 hown hK hR0 0 rfl rfl 1 (by decide) (hts (.fieldLink RX8 10 "LockRoomsModel" "room" "LLockRoomsModel$Room;") (by decide +kernel)) (fun _ h9 => h9) rfl dX8_ofThingNow_6 ?_
  refine va_getN (D := (dC, dI)) (ci := 9) (v := .ref lt) (C := RX7) (T := TX7) (N := 14) hx hb hts zi_X8_ofThingNow_X7 hown hK hR0 1 rfl rfl 1 (by decide) (va_Nw.use rfl (hN.1 ("LockRoomsModel", 38, "LockRoomsModel$Room", "things", "Ljava/util/ArrayList;", "LockRoomsModel") (List.mem_of_getElem? (i := 2) rfl))) (fun _ h9 => h9) rfl dX8_ofThingNow_9 ?_
  refine lv_iload_n hx hb dX8_ofThingNow_12 rfl (lv_at hl 1 rfl) ?_
  have hPr := (hR0).sub (ws' := [(lt, .inr (1, [.int 10, .ref ota, .int 10])), (ota, .inl (cOt, 10, .inr (.inr (.inr (.inr fot)))))]) [2, 3] rfl
  have hPc := hP.sub (ws' := []) [] rfl
  have hDc := hD.sub (ws' := []) [] (by decide) rfl
  have hKc := hK.sub (tys' := [(cOt, .object "java/lang/Object")]) [0] rfl
  have hFc := va_free (wc := []) hD hS hA [] rfl
  refine va_callr (va_runV (As := [.int 4]) (rest := []) ⟨hx, hb, hml, hown, hts⟩ (cz_Qget_4_10 l dC dI ed s.heap.size lt 10 ota cOt fot ta4 hot4) (cwV 1 hts gX8_ofThingNow_Jx4a65c_get_915e3 rfl rfl rfl (by decide +kernel) ⟨Nat.le_of_ble_eq_true rfl, Nat.le_of_ble_eq_true rfl⟩) ⟨zb_blind, va_recv hK hR0 (ci := 1) (q0 := 2) rfl rfl, fun U hU hW => ⟨rfl, zb_mk hU hW hPr hPc hKc hDc hN hH hS hFc zx_e⟩⟩ rfl rfl hl.1 rfl (lv_room (Nat.le_of_ble_eq_true rfl)) dX8_ofThingNow_13 ⟨Nat.le_of_ble_eq_true rfl, Nat.le_of_ble_eq_true rfl⟩) hS (fun q _ h => hFc q h) hFc (fun u r2 t H1 locs ht hvm hw hB hz1 hk1 hS => ?_)
  obtain ⟨hq3_0, hP1, hD1, hK1⟩ := hB
  rw [ht] at hP1
  obtain ⟨hP, hD⟩ := va_join (wr := []) (w1 := []) hP hD [] [] rfl rfl (by decide) (by decide) hk1 hFc hP1 hD1
  have hP : va_P (dC, dI) vwCl [] H1 := hP
  have hD : va_D A [] := hD
  obtain rfl : ta4 = r2 := hq3_0.symm
  refine va_castA (nm := "[I") hx hb hown (hts (.classLink RX8 88 "[I") (by decide +kernel)) (zo_R hR0 hS hAr) 4 rfl (show s.vm.findClass "[I" = some cB4 from (hK.2 1 _ rfl).2) dX8_ofThingNow_16 ?_
  refine lv_iload_n hx hb dX8_ofThingNow_19 rfl (lv_at hl 2 rfl) ?_
  refine va_iald hx hb hK (zo_R hR0 hS hAr) 4 1 rfl rfl (by unfold vp_in; decide) dX8_ofThingNow_20 ?_
  refine zo_i (v := 0) (by rw [show Int32.toNatClampNeg 1 = 1 from by decide]; exact hb4_1) ?_
  refine W.widen (k := 0) (n := 0) (Nat.le_of_ble_eq_true rfl) (Nat.le_of_ble_eq_true rfl) ?_
  exact W.iret hx hb hr (fun t ht hW => ⟨⟨0, (), rfl, rfl, trivial⟩, hS.F ht⟩) hS.2.2 dX8_ofThingNow_21
set_option maxHeartbeats 4000000 in
set_option maxRecDepth 100000 in
theorem cz_QofThingNow_4_2 (l : Launch) (dC : Nat → ClassId) (dI : Nat → Nat → Nat) (ed sz : Nat) (mo : Nat) (mr : Nat) (x9 : Int32) (s9 : Int64) (ll : Nat) (lt : Nat) (lp : Nat) (ota : Nat) (cOt : ClassId) (fot : Nat → Option Nat) (ta4 : Nat) (cB4 : ClassId) (fb4 : Nat → Int32) (hot4 : fot 4 = some ta4) (hb4_2 : fb4 2 = 0) : Met l yX8_ofThingNow wsX8_ofThingNow ({ frames := 3, cells := 0, slots := 0, locals := 64 } : Jvm.Room) (va_Pc [.ref mo, .int 4, .int 2] (zB dC dI ed sz [(mo, .inr (10, [.int x9, .ref mr, .int 1, .long s9])), (mr, .inr (9, [.ref ll, .ref lt, .ref lp, .int 0, .int 0, .int 0, .int 0, .int 0, .int 0, .int 0, .int (-1), .int 0, .int 0, .int 0])), (lt, .inr (1, [.int 10, .ref ota, .int 10])), (ota, .inl (cOt, 10, .inr (.inr (.inr (.inr fot))))), (ta4, .inl (cB4, 5, .inl fb4))] [] [(cOt, .object "java/lang/Object"), (cB4, .int)])) (va_Qi (fun (r : Int32) (_ : Unit) => r = 0) (fun (_ : Unit) (_ : State) => True) (va_A [] sz)) 0 0 (va_A [] sz) := by
  refine Met.ofW (cc := cX8_ofThingNow) (maxL := 5) (ret := (some .int)) (by decide) rfl ?_
  intro p e s m args below meth c s₁ B hml hv
  obtain ⟨rfl, hsz, hR0, hP, hK, hD0, hN, hH, hX0⟩ := hv
  have hx := B.exec
  have hb := B.bytes
  have hr := B.returns
  have hts := atoms_spec (ws := wsX8_ofThingNow) B.pre
  have hown : s.vm.findClass RX8 = some m.cls := findClass_of_methodNamed B.named
  have hlocks := B.notSynchronized
  subst hsz
  have hD := hD0.self (sz := s.heap.size)
  have hAr := zx_A hX0 hR0
  generalize hAe : va_A [] s.heap.size = A at hD hAr hH ⊢
  have hA : ∀ q : Nat, s.heap.size ≤ q → A q := fun q h => by rw [← hAe]; exact Or.inr h
  have hS : va_S A s.heap s.heap [] := va_S.rf
  have hl := lv_entry ([.ref mo, .int 4, .int 2]) (n := 5) (Nat.le_of_ble_eq_true rfl)
  rw [lg_entry_eq]
  generalize (lg_sl ([.ref mo, .int 4, .int 2]) ++ List.replicate (5 - (lg_sl ([.ref mo, .int 4, .int 2])).length) Slot.unset).toArray = ls at hl ⊢
  have hl : lv_has ls 5 [(0, .ref mo), (1, .int 4), (2, .int 2)] := hl
  refine lv_iload_n hx hb dX8_ofThingNow_0 rfl (lv_at hl 2 rfl) ?_
  refine lv_iconst (v := 4) hx hb dX8_ofThingNow_1 (by decide) ?_
  refine lv_icmp_ge (tgt := 22) hx hb dX8_ofThingNow_2 (by decide) (fun h => absurd h (by decide)) (fun _ => ?_)
  refine lv_aload_n hx hb dX8_ofThingNow_5 rfl (lv_at hl 0 rfl) ?_
  refine va_get (D := (dC, dI)) (ci := 10) (v := .ref mr) (C := RX8) (T := TX8) (N := 4) hx hb hts zi_X8_ofThingNow_X8 hown hK hR0 0 rfl rfl 1 (by decide) (hts (.fieldLink RX8 10 "LockRoomsModel" "room" "LLockRoomsModel$Room;") (by decide +kernel)) (fun _ h9 => h9) rfl dX8_ofThingNow_6 ?_
  refine va_getN (D := (dC, dI)) (ci := 9) (v := .ref lt) (C := RX7) (T := TX7) (N := 14) hx hb hts zi_X8_ofThingNow_X7 hown hK hR0 1 rfl rfl 1 (by decide) (va_Nw.use rfl (hN.1 ("LockRoomsModel", 38, "LockRoomsModel$Room", "things", "Ljava/util/ArrayList;", "LockRoomsModel") (List.mem_of_getElem? (i := 2) rfl))) (fun _ h9 => h9) rfl dX8_ofThingNow_9 ?_
  refine lv_iload_n hx hb dX8_ofThingNow_12 rfl (lv_at hl 1 rfl) ?_
  have hPr := (hR0).sub (ws' := [(lt, .inr (1, [.int 10, .ref ota, .int 10])), (ota, .inl (cOt, 10, .inr (.inr (.inr (.inr fot)))))]) [2, 3] rfl
  have hPc := hP.sub (ws' := []) [] rfl
  have hDc := hD.sub (ws' := []) [] (by decide) rfl
  have hKc := hK.sub (tys' := [(cOt, .object "java/lang/Object")]) [0] rfl
  have hFc := va_free (wc := []) hD hS hA [] rfl
  refine va_callr (va_runV (As := [.int 4]) (rest := []) ⟨hx, hb, hml, hown, hts⟩ (cz_Qget_4_10 l dC dI ed s.heap.size lt 10 ota cOt fot ta4 hot4) (cwV 1 hts gX8_ofThingNow_Jx4a65c_get_915e3 rfl rfl rfl (by decide +kernel) ⟨Nat.le_of_ble_eq_true rfl, Nat.le_of_ble_eq_true rfl⟩) ⟨zb_blind, va_recv hK hR0 (ci := 1) (q0 := 2) rfl rfl, fun U hU hW => ⟨rfl, zb_mk hU hW hPr hPc hKc hDc hN hH hS hFc zx_e⟩⟩ rfl rfl hl.1 rfl (lv_room (Nat.le_of_ble_eq_true rfl)) dX8_ofThingNow_13 ⟨Nat.le_of_ble_eq_true rfl, Nat.le_of_ble_eq_true rfl⟩) hS (fun q _ h => hFc q h) hFc (fun u r2 t H1 locs ht hvm hw hB hz1 hk1 hS => ?_)
  obtain ⟨hq3_0, hP1, hD1, hK1⟩ := hB
  rw [ht] at hP1
  obtain ⟨hP, hD⟩ := va_join (wr := []) (w1 := []) hP hD [] [] rfl rfl (by decide) (by decide) hk1 hFc hP1 hD1
  have hP : va_P (dC, dI) vwCl [] H1 := hP
  have hD : va_D A [] := hD
  obtain rfl : ta4 = r2 := hq3_0.symm
  refine va_castA (nm := "[I") hx hb hown (hts (.classLink RX8 88 "[I") (by decide +kernel)) (zo_R hR0 hS hAr) 4 rfl (show s.vm.findClass "[I" = some cB4 from (hK.2 1 _ rfl).2) dX8_ofThingNow_16 ?_
  refine lv_iload_n hx hb dX8_ofThingNow_19 rfl (lv_at hl 2 rfl) ?_
  refine va_iald hx hb hK (zo_R hR0 hS hAr) 4 1 rfl rfl (by unfold vp_in; decide) dX8_ofThingNow_20 ?_
  refine zo_i (v := 0) (by rw [show Int32.toNatClampNeg 2 = 2 from by decide]; exact hb4_2) ?_
  refine W.widen (k := 0) (n := 0) (Nat.le_of_ble_eq_true rfl) (Nat.le_of_ble_eq_true rfl) ?_
  exact W.iret hx hb hr (fun t ht hW => ⟨⟨0, (), rfl, rfl, trivial⟩, hS.F ht⟩) hS.2.2 dX8_ofThingNow_21
set_option maxHeartbeats 4000000 in
set_option maxRecDepth 100000 in
theorem cz_QofThingNow_4_3 (l : Launch) (dC : Nat → ClassId) (dI : Nat → Nat → Nat) (ed sz : Nat) (mo : Nat) (mr : Nat) (x9 : Int32) (s9 : Int64) (ll : Nat) (lt : Nat) (lp : Nat) (ota : Nat) (cOt : ClassId) (fot : Nat → Option Nat) (ta4 : Nat) (cB4 : ClassId) (fb4 : Nat → Int32) (hot4 : fot 4 = some ta4) (hb4_3 : fb4 3 = 0) : Met l yX8_ofThingNow wsX8_ofThingNow ({ frames := 3, cells := 0, slots := 0, locals := 64 } : Jvm.Room) (va_Pc [.ref mo, .int 4, .int 3] (zB dC dI ed sz [(mo, .inr (10, [.int x9, .ref mr, .int 1, .long s9])), (mr, .inr (9, [.ref ll, .ref lt, .ref lp, .int 0, .int 0, .int 0, .int 0, .int 0, .int 0, .int 0, .int (-1), .int 0, .int 0, .int 0])), (lt, .inr (1, [.int 10, .ref ota, .int 10])), (ota, .inl (cOt, 10, .inr (.inr (.inr (.inr fot))))), (ta4, .inl (cB4, 5, .inl fb4))] [] [(cOt, .object "java/lang/Object"), (cB4, .int)])) (va_Qi (fun (r : Int32) (_ : Unit) => r = 0) (fun (_ : Unit) (_ : State) => True) (va_A [] sz)) 0 0 (va_A [] sz) := by
  refine Met.ofW (cc := cX8_ofThingNow) (maxL := 5) (ret := (some .int)) (by decide) rfl ?_
  intro p e s m args below meth c s₁ B hml hv
  obtain ⟨rfl, hsz, hR0, hP, hK, hD0, hN, hH, hX0⟩ := hv
  have hx := B.exec
  have hb := B.bytes
  have hr := B.returns
  have hts := atoms_spec (ws := wsX8_ofThingNow) B.pre
  have hown : s.vm.findClass RX8 = some m.cls := findClass_of_methodNamed B.named
  have hlocks := B.notSynchronized
  subst hsz
  have hD := hD0.self (sz := s.heap.size)
  have hAr := zx_A hX0 hR0
  generalize hAe : va_A [] s.heap.size = A at hD hAr hH ⊢
  have hA : ∀ q : Nat, s.heap.size ≤ q → A q := fun q h => by rw [← hAe]; exact Or.inr h
  have hS : va_S A s.heap s.heap [] := va_S.rf
  have hl := lv_entry ([.ref mo, .int 4, .int 3]) (n := 5) (Nat.le_of_ble_eq_true rfl)
  rw [lg_entry_eq]
  generalize (lg_sl ([.ref mo, .int 4, .int 3]) ++ List.replicate (5 - (lg_sl ([.ref mo, .int 4, .int 3])).length) Slot.unset).toArray = ls at hl ⊢
  have hl : lv_has ls 5 [(0, .ref mo), (1, .int 4), (2, .int 3)] := hl
  refine lv_iload_n hx hb dX8_ofThingNow_0 rfl (lv_at hl 2 rfl) ?_
  refine lv_iconst (v := 4) hx hb dX8_ofThingNow_1 (by decide) ?_
  refine lv_icmp_ge (tgt := 22) hx hb dX8_ofThingNow_2 (by decide) (fun h => absurd h (by decide)) (fun _ => ?_)
  refine lv_aload_n hx hb dX8_ofThingNow_5 rfl (lv_at hl 0 rfl) ?_
  refine va_get (D := (dC, dI)) (ci := 10) (v := .ref mr) (C := RX8) (T := TX8) (N := 4) hx hb hts zi_X8_ofThingNow_X8 hown hK hR0 0 rfl rfl 1 (by decide) (hts (.fieldLink RX8 10 "LockRoomsModel" "room" "LLockRoomsModel$Room;") (by decide +kernel)) (fun _ h9 => h9) rfl dX8_ofThingNow_6 ?_
  refine va_getN (D := (dC, dI)) (ci := 9) (v := .ref lt) (C := RX7) (T := TX7) (N := 14) hx hb hts zi_X8_ofThingNow_X7 hown hK hR0 1 rfl rfl 1 (by decide) (va_Nw.use rfl (hN.1 ("LockRoomsModel", 38, "LockRoomsModel$Room", "things", "Ljava/util/ArrayList;", "LockRoomsModel") (List.mem_of_getElem? (i := 2) rfl))) (fun _ h9 => h9) rfl dX8_ofThingNow_9 ?_
  refine lv_iload_n hx hb dX8_ofThingNow_12 rfl (lv_at hl 1 rfl) ?_
  have hPr := (hR0).sub (ws' := [(lt, .inr (1, [.int 10, .ref ota, .int 10])), (ota, .inl (cOt, 10, .inr (.inr (.inr (.inr fot)))))]) [2, 3] rfl
  have hPc := hP.sub (ws' := []) [] rfl
  have hDc := hD.sub (ws' := []) [] (by decide) rfl
  have hKc := hK.sub (tys' := [(cOt, .object "java/lang/Object")]) [0] rfl
  have hFc := va_free (wc := []) hD hS hA [] rfl
  refine va_callr (va_runV (As := [.int 4]) (rest := []) ⟨hx, hb, hml, hown, hts⟩ (cz_Qget_4_10 l dC dI ed s.heap.size lt 10 ota cOt fot ta4 hot4) (cwV 1 hts gX8_ofThingNow_Jx4a65c_get_915e3 rfl rfl rfl (by decide +kernel) ⟨Nat.le_of_ble_eq_true rfl, Nat.le_of_ble_eq_true rfl⟩) ⟨zb_blind, va_recv hK hR0 (ci := 1) (q0 := 2) rfl rfl, fun U hU hW => ⟨rfl, zb_mk hU hW hPr hPc hKc hDc hN hH hS hFc zx_e⟩⟩ rfl rfl hl.1 rfl (lv_room (Nat.le_of_ble_eq_true rfl)) dX8_ofThingNow_13 ⟨Nat.le_of_ble_eq_true rfl, Nat.le_of_ble_eq_true rfl⟩) hS (fun q _ h => hFc q h) hFc (fun u r2 t H1 locs ht hvm hw hB hz1 hk1 hS => ?_)
  obtain ⟨hq3_0, hP1, hD1, hK1⟩ := hB
  rw [ht] at hP1
  obtain ⟨hP, hD⟩ := va_join (wr := []) (w1 := []) hP hD [] [] rfl rfl (by decide) (by decide) hk1 hFc hP1 hD1
  have hP : va_P (dC, dI) vwCl [] H1 := hP
  have hD : va_D A [] := hD
  obtain rfl : ta4 = r2 := hq3_0.symm
  refine va_castA (nm := "[I") hx hb hown (hts (.classLink RX8 88 "[I") (by decide +kernel)) (zo_R hR0 hS hAr) 4 rfl (show s.vm.findClass "[I" = some cB4 from (hK.2 1 _ rfl).2) dX8_ofThingNow_16 ?_
  refine lv_iload_n hx hb dX8_ofThingNow_19 rfl (lv_at hl 2 rfl) ?_
  refine va_iald hx hb hK (zo_R hR0 hS hAr) 4 1 rfl rfl (by unfold vp_in; decide) dX8_ofThingNow_20 ?_
  refine zo_i (v := 0) (by rw [show Int32.toNatClampNeg 3 = 3 from by decide]; exact hb4_3) ?_
  refine W.widen (k := 0) (n := 0) (Nat.le_of_ble_eq_true rfl) (Nat.le_of_ble_eq_true rfl) ?_
  exact W.iret hx hb hr (fun t ht hW => ⟨⟨0, (), rfl, rfl, trivial⟩, hS.F ht⟩) hS.2.2 dX8_ofThingNow_21
set_option maxHeartbeats 4000000 in
set_option maxRecDepth 100000 in
theorem cz_QofThingNow_4_4 (l : Launch) (dC : Nat → ClassId) (dI : Nat → Nat → Nat) (ed sz : Nat) (mo : Nat) (mr : Nat) (x9 : Int32) (s9 : Int64) (ll : Nat) (lt : Nat) (lp : Nat) (ota : Nat) (cOt : ClassId) (fot : Nat → Option Nat) (ta4 : Nat) (cB4 : ClassId) (fb4 : Nat → Int32) (hot4 : fot 4 = some ta4) (hb4_0 : fb4 0 = (-1)) (hb4_3 : fb4 3 = 0) : Met l yX8_ofThingNow wsX8_ofThingNow ({ frames := 4, cells := 0, slots := 0, locals := 86 } : Jvm.Room) (va_Pc [.ref mo, .int 4, .int 4] (zB dC dI ed sz [(mo, .inr (10, [.int x9, .ref mr, .int 1, .long s9])), (mr, .inr (9, [.ref ll, .ref lt, .ref lp, .int 0, .int 0, .int 0, .int 0, .int 0, .int 0, .int 0, .int (-1), .int 0, .int 0, .int 0])), (lt, .inr (1, [.int 10, .ref ota, .int 10])), (ota, .inl (cOt, 10, .inr (.inr (.inr (.inr fot))))), (ta4, .inl (cB4, 5, .inl fb4))] [] [(cOt, .object "java/lang/Object"), (cB4, .int)])) (va_Qi (fun (r : Int32) (_ : Unit) => r = 1) (fun (_ : Unit) (_ : State) => True) (va_A [] sz)) 0 0 (va_A [] sz) := by
  refine Met.ofW (cc := cX8_ofThingNow) (maxL := 5) (ret := (some .int)) (by decide) rfl ?_
  intro p e s m args below meth c s₁ B hml hv
  obtain ⟨rfl, hsz, hR0, hP, hK, hD0, hN, hH, hX0⟩ := hv
  have hx := B.exec
  have hb := B.bytes
  have hr := B.returns
  have hts := atoms_spec (ws := wsX8_ofThingNow) B.pre
  have hown : s.vm.findClass RX8 = some m.cls := findClass_of_methodNamed B.named
  have hlocks := B.notSynchronized
  subst hsz
  have hD := hD0.self (sz := s.heap.size)
  have hAr := zx_A hX0 hR0
  generalize hAe : va_A [] s.heap.size = A at hD hAr hH ⊢
  have hA : ∀ q : Nat, s.heap.size ≤ q → A q := fun q h => by rw [← hAe]; exact Or.inr h
  have hS : va_S A s.heap s.heap [] := va_S.rf
  have hl := lv_entry ([.ref mo, .int 4, .int 4]) (n := 5) (Nat.le_of_ble_eq_true rfl)
  rw [lg_entry_eq]
  generalize (lg_sl ([.ref mo, .int 4, .int 4]) ++ List.replicate (5 - (lg_sl ([.ref mo, .int 4, .int 4])).length) Slot.unset).toArray = ls at hl ⊢
  have hl : lv_has ls 5 [(0, .ref mo), (1, .int 4), (2, .int 4)] := hl
  refine lv_iload_n hx hb dX8_ofThingNow_0 rfl (lv_at hl 2 rfl) ?_
  refine lv_iconst (v := 4) hx hb dX8_ofThingNow_1 (by decide) ?_
  refine lv_icmp_ge (tgt := 22) hx hb dX8_ofThingNow_2 (by decide) (fun _ => ?_) (fun h => absurd h (by decide))
  refine lv_iload_n hx hb dX8_ofThingNow_22 rfl (lv_at hl 2 rfl) ?_
  refine lv_iconst (v := 4) hx hb dX8_ofThingNow_23 (by decide) ?_
  refine lv_icmp_ne (tgt := 44) hx hb dX8_ofThingNow_24 (by decide) (fun h => absurd h (by decide)) (fun _ => ?_)
  refine lv_aload_n hx hb dX8_ofThingNow_27 rfl (lv_at hl 0 rfl) ?_
  refine va_get (D := (dC, dI)) (ci := 10) (v := .ref mr) (C := RX8) (T := TX8) (N := 4) hx hb hts zi_X8_ofThingNow_X8 hown hK hR0 0 rfl rfl 1 (by decide) (hts (.fieldLink RX8 10 "LockRoomsModel" "room" "LLockRoomsModel$Room;") (by decide +kernel)) (fun _ h9 => h9) rfl dX8_ofThingNow_28 ?_
  refine lv_iload_n hx hb dX8_ofThingNow_31 rfl (lv_at hl 1 rfl) ?_
  have hPr := (hR0).sub (ws' := [(mr, .inr (9, [.ref ll, .ref lt, .ref lp, .int 0, .int 0, .int 0, .int 0, .int 0, .int 0, .int 0, .int (-1), .int 0, .int 0, .int 0])), (lt, .inr (1, [.int 10, .ref ota, .int 10])), (ota, .inl (cOt, 10, .inr (.inr (.inr (.inr fot))))), (ta4, .inl (cB4, 5, .inl fb4))]) [1, 2, 3, 4] rfl
  have hPc := hP.sub (ws' := []) [] rfl
  have hDc := hD.sub (ws' := []) [] (by decide) rfl
  have hKc := hK.sub (tys' := [(cOt, .object "java/lang/Object"), (cB4, .int)]) [0, 1] rfl
  have hFc := va_free (wc := []) hD hS hA [] rfl
  refine va_calli (va_runV (As := [.int 4]) (rest := []) ⟨hx, hb, hml, hown, hts⟩ (cz_QisReached_4 l dC dI ed s.heap.size mr ll lt lp ota cOt fot ta4 cB4 fb4 hot4 hb4_0 hb4_3) (cwV 1 hts gX8_ofThingNow_X7_isReached rfl rfl rfl (by decide +kernel) ⟨Nat.le_of_ble_eq_true rfl, Nat.le_of_ble_eq_true rfl⟩) ⟨zb_blind, va_recv hK hR0 (ci := 9) (q0 := 1) rfl rfl, fun U hU hW => ⟨rfl, zb_mk hU hW hPr hPc hKc hDc hN hH hS hFc zx_e⟩⟩ rfl rfl hl.1 rfl (lv_room (Nat.le_of_ble_eq_true rfl)) dX8_ofThingNow_32 ⟨Nat.le_of_ble_eq_true rfl, Nat.le_of_ble_eq_true rfl⟩) hS (fun q _ h => hFc q h) hFc (fun r2 u t H1 locs ht hvm hw hB hz1 hk1 hS => ?_)
  obtain rfl : r2 = 1 := hw
  have hP := zo_K hP hk1
  refine lv_if_eq (tgt := 42) hx hb dX8_ofThingNow_35 (by decide) (fun h => absurd h (by decide)) (fun _ => ?_)
  refine lv_iconst (v := 1) hx hb dX8_ofThingNow_38 (by decide) ?_
  refine lv_goto (tgt := 43) hx hb dX8_ofThingNow_39 (by decide) ?_
  refine W.widen (k := 0) (n := 0) (Nat.le_of_ble_eq_true rfl) (Nat.le_of_ble_eq_true rfl) ?_
  exact W.iret hx hb hr (fun t ht hW => ⟨⟨1, (), rfl, rfl, trivial⟩, hS.F ht⟩) hS.2.2 dX8_ofThingNow_43
set_option maxHeartbeats 4000000 in
set_option maxRecDepth 100000 in
theorem cz_QofThingNow_4_5 (l : Launch) (dC : Nat → ClassId) (dI : Nat → Nat → Nat) (ed sz : Nat) (mo : Nat) (mr : Nat) (x9 : Int32) (s9 : Int64) (ll : Nat) (lt : Nat) (lp : Nat) (ola : Nat) (cOl : ClassId) (fol : Nat → Option Nat) (la0 : Nat) (la1 : Nat) (cA0 : ClassId) (fa0 : Nat → Int32) (cA1 : ClassId) (fa1 : Nat → Int32) (hol0 : fol 0 = some la0) (hol1 : fol 1 = some la1) (ha0_0 : fa0 0 = 0) (ha1_0 : fa1 0 = 0) : Met l yX8_ofThingNow wsX8_ofThingNow ({ frames := 3, cells := 0, slots := 0, locals := 64 } : Jvm.Room) (va_Pc [.ref mo, .int 4, .int 5] (zB dC dI ed sz [(mo, .inr (10, [.int x9, .ref mr, .int 1, .long s9])), (mr, .inr (9, [.ref ll, .ref lt, .ref lp, .int 0, .int 0, .int 0, .int 0, .int 0, .int 0, .int 0, .int (-1), .int 0, .int 0, .int 0])), (ll, .inr (1, [.int 2, .ref ola, .int 2])), (ola, .inl (cOl, 10, .inr (.inr (.inr (.inr fol))))), (la0, .inl (cA0, 10, .inl fa0)), (la1, .inl (cA1, 10, .inl fa1))] [] [(cOl, .object "java/lang/Object"), (cA0, .int), (cA1, .int)])) (va_Qi (fun (r : Int32) (_ : Unit) => r = 0) (fun (_ : Unit) (_ : State) => True) (va_A [] sz)) 0 0 (va_A [] sz) := by
  refine Met.ofW (cc := cX8_ofThingNow) (maxL := 5) (ret := (some .int)) (by decide) rfl ?_
  intro p e s m args below meth c s₁ B hml hv
  obtain ⟨rfl, hsz, hR0, hP, hK, hD0, hN, hH, hX0⟩ := hv
  have hx := B.exec
  have hb := B.bytes
  have hr := B.returns
  have hts := atoms_spec (ws := wsX8_ofThingNow) B.pre
  have hown : s.vm.findClass RX8 = some m.cls := findClass_of_methodNamed B.named
  have hlocks := B.notSynchronized
  subst hsz
  have hD := hD0.self (sz := s.heap.size)
  have hAr := zx_A hX0 hR0
  generalize hAe : va_A [] s.heap.size = A at hD hAr hH ⊢
  have hA : ∀ q : Nat, s.heap.size ≤ q → A q := fun q h => by rw [← hAe]; exact Or.inr h
  have hS : va_S A s.heap s.heap [] := va_S.rf
  have hl := lv_entry ([.ref mo, .int 4, .int 5]) (n := 5) (Nat.le_of_ble_eq_true rfl)
  rw [lg_entry_eq]
  generalize (lg_sl ([.ref mo, .int 4, .int 5]) ++ List.replicate (5 - (lg_sl ([.ref mo, .int 4, .int 5])).length) Slot.unset).toArray = ls at hl ⊢
  have hl : lv_has ls 5 [(0, .ref mo), (1, .int 4), (2, .int 5)] := hl
  refine lv_iload_n hx hb dX8_ofThingNow_0 rfl (lv_at hl 2 rfl) ?_
  refine lv_iconst (v := 4) hx hb dX8_ofThingNow_1 (by decide) ?_
  refine lv_icmp_ge (tgt := 22) hx hb dX8_ofThingNow_2 (by decide) (fun _ => ?_) (fun h => absurd h (by decide))
  refine lv_iload_n hx hb dX8_ofThingNow_22 rfl (lv_at hl 2 rfl) ?_
  refine lv_iconst (v := 4) hx hb dX8_ofThingNow_23 (by decide) ?_
  refine lv_icmp_ne (tgt := 44) hx hb dX8_ofThingNow_24 (by decide) (fun _ => ?_) (fun h => absurd h (by decide))
  refine lv_iconst (v := 0) hx hb dX8_ofThingNow_44 (by decide) ?_
  refine lv_istore_n (lv' := [(3, .int 0), (0, .ref mo), (1, .int 4), (2, .int 5)]) hx hb dX8_ofThingNow_45 rfl hl (by decide) rfl (fun ls hl => ?_)
  refine lv_iconst (v := 0) hx hb dX8_ofThingNow_46 (by decide) ?_
  refine lv_istore (lv' := [(4, .int 0), (3, .int 0), (0, .ref mo), (1, .int 4), (2, .int 5)]) hx hb dX8_ofThingNow_47 hl (by decide) rfl (fun ls hl => ?_)
  refine lv_iload hx hb dX8_ofThingNow_49 (lv_at hl 0 rfl) ?_
  refine lv_aload_n hx hb dX8_ofThingNow_51 rfl (lv_at hl 2 rfl) ?_
  refine va_get (D := (dC, dI)) (ci := 10) (v := .ref mr) (C := RX8) (T := TX8) (N := 4) hx hb hts zi_X8_ofThingNow_X8 hown hK hR0 0 rfl rfl 1 (by decide) (hts (.fieldLink RX8 10 "LockRoomsModel" "room" "LLockRoomsModel$Room;") (by decide +kernel)) (fun _ h9 => h9) rfl dX8_ofThingNow_52 ?_
  refine va_getN (D := (dC, dI)) (ci := 9) (v := .ref ll) (C := RX7) (T := TX7) (N := 14) hx hb hts zi_X8_ofThingNow_X7 hown hK hR0 1 rfl rfl 0 (by decide) (va_Nw.use rfl (hN.1 ("LockRoomsModel", 24, "LockRoomsModel$Room", "locks", "Ljava/util/ArrayList;", "LockRoomsModel") (List.mem_of_getElem? (i := 1) rfl))) (fun _ h9 => h9) rfl dX8_ofThingNow_55 ?_
  have hPr := (hR0).sub (ws' := [(ll, .inr (1, [.int 2, .ref ola, .int 2]))]) [2] rfl
  have hPc := hP.sub (ws' := []) [] rfl
  have hDc := hD.sub (ws' := []) [] (by decide) rfl
  have hKc := hK.sub (tys' := []) [] rfl
  have hFc := va_free (wc := []) hD hS hA [] rfl
  refine va_calli (va_runV (As := []) (rest := [.int 0]) ⟨hx, hb, hml, hown, hts⟩ (cz_Qsize l dC dI ed s.heap.size ll 2 ola 2) (cwV 0 hts gX8_ofThingNow_Jx4a65c_size_8abf5 rfl rfl rfl (by decide +kernel) ⟨Nat.le_of_ble_eq_true rfl, Nat.le_of_ble_eq_true rfl⟩) ⟨zb_blind, va_recv hK hR0 (ci := 1) (q0 := 2) rfl rfl, fun U hU hW => ⟨rfl, zb_mk hU hW hPr hPc hKc hDc hN hH hS hFc zx_e⟩⟩ rfl rfl hl.1 rfl (lv_room (Nat.le_of_ble_eq_true rfl)) dX8_ofThingNow_58 ⟨Nat.le_of_ble_eq_true rfl, Nat.le_of_ble_eq_true rfl⟩) hS (fun q _ h => hFc q h) hFc (fun r2 u t H1 locs ht hvm hw hB hz1 hk1 hS => ?_)
  obtain rfl : r2 = 2 := hw.trans (by decide +kernel)
  have hP := zo_K hP hk1
  refine lv_icmp_ge (tgt := 97) hx hb dX8_ofThingNow_61 (by decide) (fun h => absurd h (by decide)) (fun _ => ?_)
  refine lv_iload_n hx hb dX8_ofThingNow_64 rfl (lv_at hl 1 rfl) ?_
  refine lv_aload_n hx hb dX8_ofThingNow_65 rfl (lv_at hl 2 rfl) ?_
  refine va_get (D := (dC, dI)) (ci := 10) (v := .ref mr) (C := RX8) (T := TX8) (N := 4) hx hb hts zi_X8_ofThingNow_X8 hown hK (zo_R hR0 hS hAr) 0 rfl rfl 1 (by decide) (hts (.fieldLink RX8 10 "LockRoomsModel" "room" "LLockRoomsModel$Room;") (by decide +kernel)) (fun _ h9 => h9) rfl dX8_ofThingNow_66 ?_
  refine va_getN (D := (dC, dI)) (ci := 9) (v := .ref ll) (C := RX7) (T := TX7) (N := 14) hx hb hts zi_X8_ofThingNow_X7 hown hK (zo_R hR0 hS hAr) 1 rfl rfl 0 (by decide) (va_Nw.use rfl (hN.1 ("LockRoomsModel", 24, "LockRoomsModel$Room", "locks", "Ljava/util/ArrayList;", "LockRoomsModel") (List.mem_of_getElem? (i := 1) rfl))) (fun _ h9 => h9) rfl dX8_ofThingNow_69 ?_
  refine lv_iload hx hb dX8_ofThingNow_72 (lv_at hl 0 rfl) ?_
  have hPr := ((zo_R hR0 hS hAr)).sub (ws' := [(ll, .inr (1, [.int 2, .ref ola, .int 2])), (ola, .inl (cOl, 10, .inr (.inr (.inr (.inr fol)))))]) [2, 3] rfl
  have hPc := hP.sub (ws' := []) [] rfl
  have hDc := hD.sub (ws' := []) [] (by decide) rfl
  have hKc := hK.sub (tys' := [(cOl, .object "java/lang/Object")]) [0] rfl
  have hFc := va_free (wc := []) hD hS hA [] rfl
  refine va_callr (va_runV (As := [.int 0]) (rest := [.int 0]) ⟨hx, hb, hml, hown, hts⟩ (cz_Qget_0_2 l dC dI ed H1.size ll 2 ola cOl fol la0 hol0) (cwV 1 hts gX8_ofThingNow_Jx4a65c_get_915e3 rfl rfl rfl (by decide +kernel) ⟨Nat.le_of_ble_eq_true rfl, Nat.le_of_ble_eq_true rfl⟩) ⟨zb_blind, va_recv hK (zo_R hR0 hS hAr) (ci := 1) (q0 := 2) rfl rfl, fun U hU hW => ⟨rfl, zb_mk hU hW hPr hPc hKc hDc hN hH hS hFc zx_e⟩⟩ rfl rfl hl.1 rfl (lv_room (Nat.le_of_ble_eq_true rfl)) dX8_ofThingNow_74 ⟨Nat.le_of_ble_eq_true rfl, Nat.le_of_ble_eq_true rfl⟩) hS (fun q _ h => hFc q h) hFc (fun u r4 t H3 locs ht hvm hw hB hz1 hk1 hS => ?_)
  obtain ⟨hq5_0, hP1, hD1, hK1⟩ := hB
  rw [ht] at hP1
  obtain ⟨hP, hD⟩ := va_join (wr := []) (w1 := []) hP hD [] [] rfl rfl (by decide) (by decide) hk1 hFc hP1 hD1
  have hP : va_P (dC, dI) vwCl [] H3 := hP
  have hD : va_D A [] := hD
  obtain rfl : la0 = r4 := hq5_0.symm
  refine va_castA (nm := "[I") hx hb hown (hts (.classLink RX8 88 "[I") (by decide +kernel)) (zo_R hR0 hS hAr) 4 rfl (show s.vm.findClass "[I" = some cA0 from (hK.2 1 _ rfl).2) dX8_ofThingNow_77 ?_
  refine lv_iconst (v := 0) hx hb dX8_ofThingNow_80 (by decide) ?_
  refine va_iald hx hb hK (zo_R hR0 hS hAr) 4 1 rfl rfl (by unfold vp_in; decide) dX8_ofThingNow_81 ?_
  refine zo_i (v := 0) (by rw [show Int32.toNatClampNeg 0 = 0 from by decide]; exact ha0_0) ?_
  refine lv_iload_n hx hb dX8_ofThingNow_82 rfl (lv_at hl 3 rfl) ?_
  refine lv_ishr hx hb dX8_ofThingNow_83 ?_
  refine zo_i (v := 0) (by decide) ?_
  refine lv_iconst (v := 1) hx hb dX8_ofThingNow_84 (by decide) ?_
  refine lv_iand hx hb dX8_ofThingNow_85 ?_
  refine zo_i (v := 0) q_0and ?_
  refine lv_iload hx hb dX8_ofThingNow_86 (lv_at hl 0 rfl) ?_
  refine lv_ishl hx hb dX8_ofThingNow_88 ?_
  refine zo_i (v := 0) (by decide) ?_
  refine lv_ior hx hb dX8_ofThingNow_89 ?_
  refine zo_i (v := 0) (by decide) ?_
  refine lv_istore_n (lv' := [(3, .int 0), (4, .int 0), (0, .ref mo), (1, .int 4), (2, .int 5)]) hx hb dX8_ofThingNow_90 rfl hl (by decide) rfl (fun ls hl => ?_)
  refine lv_iinc (v := 1) (lv' := [(4, .int 1), (3, .int 0), (0, .ref mo), (1, .int 4), (2, .int 5)]) hx hb dX8_ofThingNow_91 hl (k := 1) rfl (by decide) (by decide) rfl (fun ls hl => ?_)
  refine lv_goto (tgt := 49) hx hb dX8_ofThingNow_94 (by decide) ?_
  refine lv_iload hx hb dX8_ofThingNow_49 (lv_at hl 0 rfl) ?_
  refine lv_aload_n hx hb dX8_ofThingNow_51 rfl (lv_at hl 2 rfl) ?_
  refine va_get (D := (dC, dI)) (ci := 10) (v := .ref mr) (C := RX8) (T := TX8) (N := 4) hx hb hts zi_X8_ofThingNow_X8 hown hK (zo_R hR0 hS hAr) 0 rfl rfl 1 (by decide) (hts (.fieldLink RX8 10 "LockRoomsModel" "room" "LLockRoomsModel$Room;") (by decide +kernel)) (fun _ h9 => h9) rfl dX8_ofThingNow_52 ?_
  refine va_getN (D := (dC, dI)) (ci := 9) (v := .ref ll) (C := RX7) (T := TX7) (N := 14) hx hb hts zi_X8_ofThingNow_X7 hown hK (zo_R hR0 hS hAr) 1 rfl rfl 0 (by decide) (va_Nw.use rfl (hN.1 ("LockRoomsModel", 24, "LockRoomsModel$Room", "locks", "Ljava/util/ArrayList;", "LockRoomsModel") (List.mem_of_getElem? (i := 1) rfl))) (fun _ h9 => h9) rfl dX8_ofThingNow_55 ?_
  have hPr := ((zo_R hR0 hS hAr)).sub (ws' := [(ll, .inr (1, [.int 2, .ref ola, .int 2]))]) [2] rfl
  have hPc := hP.sub (ws' := []) [] rfl
  have hDc := hD.sub (ws' := []) [] (by decide) rfl
  have hKc := hK.sub (tys' := []) [] rfl
  have hFc := va_free (wc := []) hD hS hA [] rfl
  refine va_calli (va_runV (As := []) (rest := [.int 1]) ⟨hx, hb, hml, hown, hts⟩ (cz_Qsize l dC dI ed H3.size ll 2 ola 2) (cwV 0 hts gX8_ofThingNow_Jx4a65c_size_8abf5 rfl rfl rfl (by decide +kernel) ⟨Nat.le_of_ble_eq_true rfl, Nat.le_of_ble_eq_true rfl⟩) ⟨zb_blind, va_recv hK (zo_R hR0 hS hAr) (ci := 1) (q0 := 2) rfl rfl, fun U hU hW => ⟨rfl, zb_mk hU hW hPr hPc hKc hDc hN hH hS hFc zx_e⟩⟩ rfl rfl hl.1 rfl (lv_room (Nat.le_of_ble_eq_true rfl)) dX8_ofThingNow_58 ⟨Nat.le_of_ble_eq_true rfl, Nat.le_of_ble_eq_true rfl⟩) hS (fun q _ h => hFc q h) hFc (fun r7 u t H6 locs ht hvm hw hB hz1 hk1 hS => ?_)
  obtain rfl : r7 = 2 := hw.trans (by decide +kernel)
  have hP := zo_K hP hk1
  refine lv_icmp_ge (tgt := 97) hx hb dX8_ofThingNow_61 (by decide) (fun h => absurd h (by decide)) (fun _ => ?_)
  refine lv_iload_n hx hb dX8_ofThingNow_64 rfl (lv_at hl 1 rfl) ?_
  refine lv_aload_n hx hb dX8_ofThingNow_65 rfl (lv_at hl 2 rfl) ?_
  refine va_get (D := (dC, dI)) (ci := 10) (v := .ref mr) (C := RX8) (T := TX8) (N := 4) hx hb hts zi_X8_ofThingNow_X8 hown hK (zo_R hR0 hS hAr) 0 rfl rfl 1 (by decide) (hts (.fieldLink RX8 10 "LockRoomsModel" "room" "LLockRoomsModel$Room;") (by decide +kernel)) (fun _ h9 => h9) rfl dX8_ofThingNow_66 ?_
  refine va_getN (D := (dC, dI)) (ci := 9) (v := .ref ll) (C := RX7) (T := TX7) (N := 14) hx hb hts zi_X8_ofThingNow_X7 hown hK (zo_R hR0 hS hAr) 1 rfl rfl 0 (by decide) (va_Nw.use rfl (hN.1 ("LockRoomsModel", 24, "LockRoomsModel$Room", "locks", "Ljava/util/ArrayList;", "LockRoomsModel") (List.mem_of_getElem? (i := 1) rfl))) (fun _ h9 => h9) rfl dX8_ofThingNow_69 ?_
  refine lv_iload hx hb dX8_ofThingNow_72 (lv_at hl 0 rfl) ?_
  have hPr := ((zo_R hR0 hS hAr)).sub (ws' := [(ll, .inr (1, [.int 2, .ref ola, .int 2])), (ola, .inl (cOl, 10, .inr (.inr (.inr (.inr fol)))))]) [2, 3] rfl
  have hPc := hP.sub (ws' := []) [] rfl
  have hDc := hD.sub (ws' := []) [] (by decide) rfl
  have hKc := hK.sub (tys' := [(cOl, .object "java/lang/Object")]) [0] rfl
  have hFc := va_free (wc := []) hD hS hA [] rfl
  refine va_callr (va_runV (As := [.int 1]) (rest := [.int 0]) ⟨hx, hb, hml, hown, hts⟩ (cz_Qget_1_2 l dC dI ed H6.size ll 2 ola cOl fol la1 hol1) (cwV 1 hts gX8_ofThingNow_Jx4a65c_get_915e3 rfl rfl rfl (by decide +kernel) ⟨Nat.le_of_ble_eq_true rfl, Nat.le_of_ble_eq_true rfl⟩) ⟨zb_blind, va_recv hK (zo_R hR0 hS hAr) (ci := 1) (q0 := 2) rfl rfl, fun U hU hW => ⟨rfl, zb_mk hU hW hPr hPc hKc hDc hN hH hS hFc zx_e⟩⟩ rfl rfl hl.1 rfl (lv_room (Nat.le_of_ble_eq_true rfl)) dX8_ofThingNow_74 ⟨Nat.le_of_ble_eq_true rfl, Nat.le_of_ble_eq_true rfl⟩) hS (fun q _ h => hFc q h) hFc (fun u r9 t H8 locs ht hvm hw hB hz1 hk1 hS => ?_)
  obtain ⟨hq10_0, hP1, hD1, hK1⟩ := hB
  rw [ht] at hP1
  obtain ⟨hP, hD⟩ := va_join (wr := []) (w1 := []) hP hD [] [] rfl rfl (by decide) (by decide) hk1 hFc hP1 hD1
  have hP : va_P (dC, dI) vwCl [] H8 := hP
  have hD : va_D A [] := hD
  obtain rfl : la1 = r9 := hq10_0.symm
  refine va_castA (nm := "[I") hx hb hown (hts (.classLink RX8 88 "[I") (by decide +kernel)) (zo_R hR0 hS hAr) 5 rfl (show s.vm.findClass "[I" = some cA1 from (hK.2 2 _ rfl).2) dX8_ofThingNow_77 ?_
  refine lv_iconst (v := 0) hx hb dX8_ofThingNow_80 (by decide) ?_
  refine va_iald hx hb hK (zo_R hR0 hS hAr) 5 2 rfl rfl (by unfold vp_in; decide) dX8_ofThingNow_81 ?_
  refine zo_i (v := 0) (by rw [show Int32.toNatClampNeg 0 = 0 from by decide]; exact ha1_0) ?_
  refine lv_iload_n hx hb dX8_ofThingNow_82 rfl (lv_at hl 3 rfl) ?_
  refine lv_ishr hx hb dX8_ofThingNow_83 ?_
  refine zo_i (v := 0) (by decide) ?_
  refine lv_iconst (v := 1) hx hb dX8_ofThingNow_84 (by decide) ?_
  refine lv_iand hx hb dX8_ofThingNow_85 ?_
  refine zo_i (v := 0) q_0and ?_
  refine lv_iload hx hb dX8_ofThingNow_86 (lv_at hl 0 rfl) ?_
  refine lv_ishl hx hb dX8_ofThingNow_88 ?_
  refine zo_i (v := 0) (by decide) ?_
  refine lv_ior hx hb dX8_ofThingNow_89 ?_
  refine zo_i (v := 0) (by decide) ?_
  refine lv_istore_n (lv' := [(3, .int 0), (4, .int 1), (0, .ref mo), (1, .int 4), (2, .int 5)]) hx hb dX8_ofThingNow_90 rfl hl (by decide) rfl (fun ls hl => ?_)
  refine lv_iinc (v := 2) (lv' := [(4, .int 2), (3, .int 0), (0, .ref mo), (1, .int 4), (2, .int 5)]) hx hb dX8_ofThingNow_91 hl (k := 1) rfl (by decide) (by decide) rfl (fun ls hl => ?_)
  refine lv_goto (tgt := 49) hx hb dX8_ofThingNow_94 (by decide) ?_
  refine lv_iload hx hb dX8_ofThingNow_49 (lv_at hl 0 rfl) ?_
  refine lv_aload_n hx hb dX8_ofThingNow_51 rfl (lv_at hl 2 rfl) ?_
  refine va_get (D := (dC, dI)) (ci := 10) (v := .ref mr) (C := RX8) (T := TX8) (N := 4) hx hb hts zi_X8_ofThingNow_X8 hown hK (zo_R hR0 hS hAr) 0 rfl rfl 1 (by decide) (hts (.fieldLink RX8 10 "LockRoomsModel" "room" "LLockRoomsModel$Room;") (by decide +kernel)) (fun _ h9 => h9) rfl dX8_ofThingNow_52 ?_
  refine va_getN (D := (dC, dI)) (ci := 9) (v := .ref ll) (C := RX7) (T := TX7) (N := 14) hx hb hts zi_X8_ofThingNow_X7 hown hK (zo_R hR0 hS hAr) 1 rfl rfl 0 (by decide) (va_Nw.use rfl (hN.1 ("LockRoomsModel", 24, "LockRoomsModel$Room", "locks", "Ljava/util/ArrayList;", "LockRoomsModel") (List.mem_of_getElem? (i := 1) rfl))) (fun _ h9 => h9) rfl dX8_ofThingNow_55 ?_
  have hPr := ((zo_R hR0 hS hAr)).sub (ws' := [(ll, .inr (1, [.int 2, .ref ola, .int 2]))]) [2] rfl
  have hPc := hP.sub (ws' := []) [] rfl
  have hDc := hD.sub (ws' := []) [] (by decide) rfl
  have hKc := hK.sub (tys' := []) [] rfl
  have hFc := va_free (wc := []) hD hS hA [] rfl
  refine va_calli (va_runV (As := []) (rest := [.int 2]) ⟨hx, hb, hml, hown, hts⟩ (cz_Qsize l dC dI ed H8.size ll 2 ola 2) (cwV 0 hts gX8_ofThingNow_Jx4a65c_size_8abf5 rfl rfl rfl (by decide +kernel) ⟨Nat.le_of_ble_eq_true rfl, Nat.le_of_ble_eq_true rfl⟩) ⟨zb_blind, va_recv hK (zo_R hR0 hS hAr) (ci := 1) (q0 := 2) rfl rfl, fun U hU hW => ⟨rfl, zb_mk hU hW hPr hPc hKc hDc hN hH hS hFc zx_e⟩⟩ rfl rfl hl.1 rfl (lv_room (Nat.le_of_ble_eq_true rfl)) dX8_ofThingNow_58 ⟨Nat.le_of_ble_eq_true rfl, Nat.le_of_ble_eq_true rfl⟩) hS (fun q _ h => hFc q h) hFc (fun r12 u t H11 locs ht hvm hw hB hz1 hk1 hS => ?_)
  obtain rfl : r12 = 2 := hw.trans (by decide +kernel)
  have hP := zo_K hP hk1
  refine lv_icmp_ge (tgt := 97) hx hb dX8_ofThingNow_61 (by decide) (fun _ => ?_) (fun h => absurd h (by decide))
  refine lv_iload_n hx hb dX8_ofThingNow_97 rfl (lv_at hl 1 rfl) ?_
  refine W.widen (k := 0) (n := 0) (Nat.le_of_ble_eq_true rfl) (Nat.le_of_ble_eq_true rfl) ?_
  exact W.iret hx hb hr (fun t ht hW => ⟨⟨0, (), rfl, rfl, trivial⟩, hS.F ht⟩) hS.2.2 dX8_ofThingNow_98

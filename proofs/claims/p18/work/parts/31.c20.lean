set_option maxHeartbeats 4000000 in
set_option maxRecDepth 100000 in
theorem cz_Qready (l : Launch) (dC : Nat → ClassId) (dI : Nat → Nat → Nat) (ed sz : Nat) (mr : Nat) (ll : Nat) (lt : Nat) (lp : Nat) (ola : Nat) (cOl : ClassId) (fol : Nat → Option Nat) (la0 : Nat) (la1 : Nat) (cA0 : ClassId) (fa0 : Nat → Int32) (cA1 : ClassId) (fa1 : Nat → Int32) (ota : Nat) (cOt : ClassId) (fot : Nat → Option Nat) (ta0 : Nat) (ta1 : Nat) (ta2 : Nat) (ta3 : Nat) (ta4 : Nat) (ta5 : Nat) (ta6 : Nat) (ta7 : Nat) (ta8 : Nat) (ta9 : Nat) (cB0 : ClassId) (fb0 : Nat → Int32) (cB1 : ClassId) (fb1 : Nat → Int32) (cB2 : ClassId) (fb2 : Nat → Int32) (cB3 : ClassId) (fb3 : Nat → Int32) (cB4 : ClassId) (fb4 : Nat → Int32) (cB5 : ClassId) (fb5 : Nat → Int32) (cB6 : ClassId) (fb6 : Nat → Int32) (cB7 : ClassId) (fb7 : Nat → Int32) (cB8 : ClassId) (fb8 : Nat → Int32) (cB9 : ClassId) (fb9 : Nat → Int32) (hol0 : fol 0 = some la0) (hol1 : fol 1 = some la1) (ha0_0 : fa0 0 = 0) (ha0_4 : fa0 4 = 0) (ha0_8 : fa0 8 = 0) (ha1_0 : fa1 0 = 0) (ha1_4 : fa1 4 = 0) (ha1_8 : fa1 8 = 0) (hot0 : fot 0 = some ta0) (hot1 : fot 1 = some ta1) (hot2 : fot 2 = some ta2) (hot3 : fot 3 = some ta3) (hot4 : fot 4 = some ta4) (hot5 : fot 5 = some ta5) (hot6 : fot 6 = some ta6) (hot7 : fot 7 = some ta7) (hot8 : fot 8 = some ta8) (hot9 : fot 9 = some ta9) (hb0_3 : fb0 3 = 0) (hb1_3 : fb1 3 = 0) (hb2_3 : fb2 3 = 0) (hb3_3 : fb3 3 = 0) (hb4_3 : fb4 3 = 0) (hb5_3 : fb5 3 = 0) (hb6_3 : fb6 3 = 0) (hb7_3 : fb7 3 = 0) (hb8_3 : fb8 3 = 0) (hb9_3 : fb9 3 = 0) : Met l yX7_ready wsX7_ready ({ frames := 5, cells := 0, slots := 0, locals := 109 } : Jvm.Room) (va_Pc [.ref mr] (zB dC dI ed sz [(mr, .inr (9, [.ref ll, .ref lt, .ref lp, .int 0, .int 0, .int 0, .int 0, .int 0, .int 0, .int 0, .int (-1), .int 0, .int 0, .int 0])), (ll, .inr (1, [.int 2, .ref ola, .int 2])), (ola, .inl (cOl, 10, .inr (.inr (.inr (.inr fol))))), (la0, .inl (cA0, 10, .inl fa0)), (la1, .inl (cA1, 10, .inl fa1)), (lt, .inr (1, [.int 10, .ref ota, .int 10])), (ota, .inl (cOt, 10, .inr (.inr (.inr (.inr fot))))), (ta0, .inl (cB0, 5, .inl fb0)), (ta1, .inl (cB1, 5, .inl fb1)), (ta2, .inl (cB2, 5, .inl fb2)), (ta3, .inl (cB3, 5, .inl fb3)), (ta4, .inl (cB4, 5, .inl fb4)), (ta5, .inl (cB5, 5, .inl fb5)), (ta6, .inl (cB6, 5, .inl fb6)), (ta7, .inl (cB7, 5, .inl fb7)), (ta8, .inl (cB8, 5, .inl fb8)), (ta9, .inl (cB9, 5, .inl fb9))] [] [(cOl, .object "java/lang/Object"), (cA0, .int), (cA1, .int), (cOt, .object "java/lang/Object"), (cB0, .int), (cB1, .int), (cB2, .int), (cB3, .int), (cB4, .int), (cB5, .int), (cB6, .int), (cB7, .int), (cB8, .int), (cB9, .int)])) (va_Qi (fun (r : Int32) (_ : Unit) => r = 3) (fun (_ : Unit) (_ : State) => True) (va_A [] sz)) 0 0 (va_A [] sz) := by
  refine Met.ofW (cc := cX7_ready) (maxL := 3) (ret := (some .int)) (by decide) rfl ?_
  intro p e s m args below meth c s₁ B hml hv
  obtain ⟨rfl, hsz, hR0, hP, hK, hD0, hN, hH, hX0⟩ := hv
  have hx := B.exec
  have hb := B.bytes
  have hr := B.returns
  have hts := atoms_spec (ws := wsX7_ready) B.pre
  have hown : s.vm.findClass RX7 = some m.cls := findClass_of_methodNamed B.named
  have hlocks := B.notSynchronized
  subst hsz
  have hD := hD0.self (sz := s.heap.size)
  have hAr := zx_A hX0 hR0
  generalize hAe : va_A [] s.heap.size = A at hD hAr hH ⊢
  have hA : ∀ q : Nat, s.heap.size ≤ q → A q := fun q h => by rw [← hAe]; exact Or.inr h
  have hS : va_S A s.heap s.heap [] := va_S.rf
  have hl := lv_entry ([.ref mr]) (n := 3) (Nat.le_of_ble_eq_true rfl)
  rw [lg_entry_eq]
  generalize (lg_sl ([.ref mr]) ++ List.replicate (3 - (lg_sl ([.ref mr])).length) Slot.unset).toArray = ls at hl ⊢
  have hl : lv_has ls 3 [(0, .ref mr)] := hl
  refine lv_iconst (v := 0) hx hb dX7_ready_0 (by decide) ?_
  refine lv_istore_n (lv' := [(1, .int 0), (0, .ref mr)]) hx hb dX7_ready_1 rfl hl (by decide) rfl (fun ls hl => ?_)
  refine lv_iconst (v := 0) hx hb dX7_ready_2 (by decide) ?_
  refine lv_istore_n (lv' := [(2, .int 0), (1, .int 0), (0, .ref mr)]) hx hb dX7_ready_3 rfl hl (by decide) rfl (fun ls hl => ?_)
  refine lv_iload_n hx hb dX7_ready_4 rfl (lv_at hl 0 rfl) ?_
  refine lv_aload_n hx hb dX7_ready_5 rfl (lv_at hl 2 rfl) ?_
  refine va_get (D := (dC, dI)) (ci := 9) (v := .ref ll) (C := RX7) (T := TX7) (N := 14) hx hb hts zi_X7_ready_X7 hown hK hR0 0 rfl rfl 0 (by decide) (hts (.fieldLink RX7 12 "LockRoomsModel$Room" "locks" "Ljava/util/ArrayList;") (by decide +kernel)) (fun _ h9 => h9) rfl dX7_ready_6 ?_
  have hPr := (hR0).sub (ws' := [(ll, .inr (1, [.int 2, .ref ola, .int 2]))]) [1] rfl
  have hPc := hP.sub (ws' := []) [] rfl
  have hDc := hD.sub (ws' := []) [] (by decide) rfl
  have hKc := hK.sub (tys' := []) [] rfl
  have hFc := va_free (wc := []) hD hS hA [] rfl
  refine va_calli (va_runV (As := []) (rest := [.int 0]) ⟨hx, hb, hml, hown, hts⟩ (cz_Qsize l dC dI ed s.heap.size ll 2 ola 2) (cwV 0 hts gX7_ready_Jx4a65c_size_8abf5 rfl rfl rfl (by decide +kernel) ⟨Nat.le_of_ble_eq_true rfl, Nat.le_of_ble_eq_true rfl⟩) ⟨zb_blind, va_recv hK hR0 (ci := 1) (q0 := 1) rfl rfl, fun U hU hW => ⟨rfl, zb_mk hU hW hPr hPc hKc hDc hN hH hS hFc zx_e⟩⟩ rfl rfl hl.1 rfl (lv_room (Nat.le_of_ble_eq_true rfl)) dX7_ready_9 ⟨Nat.le_of_ble_eq_true rfl, Nat.le_of_ble_eq_true rfl⟩) hS (fun q _ h => hFc q h) hFc (fun r2 u t H1 locs ht hvm hw hB hz1 hk1 hS => ?_)
  obtain rfl : r2 = 2 := hw.trans (by decide +kernel)
  have hP := zo_K hP hk1
  refine lv_icmp_ge (tgt := 35) hx hb dX7_ready_12 (by decide) (fun h => absurd h (by decide)) (fun _ => ?_)
  refine lv_aload_n hx hb dX7_ready_15 rfl (lv_at hl 2 rfl) ?_
  refine lv_iload_n hx hb dX7_ready_16 rfl (lv_at hl 0 rfl) ?_
  have hPr := ((zo_R hR0 hS hAr)).sub (ws' := [(mr, .inr (9, [.ref ll, .ref lt, .ref lp, .int 0, .int 0, .int 0, .int 0, .int 0, .int 0, .int 0, .int (-1), .int 0, .int 0, .int 0])), (ll, .inr (1, [.int 2, .ref ola, .int 2])), (ola, .inl (cOl, 10, .inr (.inr (.inr (.inr fol))))), (la0, .inl (cA0, 10, .inl fa0)), (lt, .inr (1, [.int 10, .ref ota, .int 10])), (ota, .inl (cOt, 10, .inr (.inr (.inr (.inr fot))))), (ta0, .inl (cB0, 5, .inl fb0)), (ta1, .inl (cB1, 5, .inl fb1)), (ta2, .inl (cB2, 5, .inl fb2)), (ta3, .inl (cB3, 5, .inl fb3)), (ta4, .inl (cB4, 5, .inl fb4)), (ta5, .inl (cB5, 5, .inl fb5)), (ta6, .inl (cB6, 5, .inl fb6)), (ta7, .inl (cB7, 5, .inl fb7)), (ta8, .inl (cB8, 5, .inl fb8)), (ta9, .inl (cB9, 5, .inl fb9))]) [0, 1, 2, 3, 5, 6, 7, 8, 9, 10, 11, 12, 13, 14, 15, 16] rfl
  have hPc := hP.sub (ws' := []) [] rfl
  have hDc := hD.sub (ws' := []) [] (by decide) rfl
  have hKc := hK.sub (tys' := [(cOl, .object "java/lang/Object"), (cA0, .int), (cOt, .object "java/lang/Object"), (cB0, .int), (cB1, .int), (cB2, .int), (cB3, .int), (cB4, .int), (cB5, .int), (cB6, .int), (cB7, .int), (cB8, .int), (cB9, .int)]) [0, 1, 3, 4, 5, 6, 7, 8, 9, 10, 11, 12, 13] rfl
  have hFc := va_free (wc := []) hD hS hA [] rfl
  refine va_calli (va_runV (As := [.int 0]) (rest := []) ⟨hx, hb, hml, hown, hts⟩ (cz_Q7isReady_0 l dC dI ed H1.size mr ll lt lp ola cOl fol la0 cA0 fa0 ota cOt fot ta0 ta1 ta2 ta3 ta4 ta5 ta6 ta7 ta8 ta9 cB0 fb0 cB1 fb1 cB2 fb2 cB3 fb3 cB4 fb4 cB5 fb5 cB6 fb6 cB7 fb7 cB8 fb8 cB9 fb9 hol0 ha0_0 ha0_4 ha0_8 hot0 hot1 hot2 hot3 hot4 hot5 hot6 hot7 hot8 hot9 hb0_3 hb1_3 hb2_3 hb3_3 hb4_3 hb5_3 hb6_3 hb7_3 hb8_3 hb9_3) (cwV 1 hts gX7_ready_X7_isReady rfl rfl rfl (by decide +kernel) ⟨Nat.le_of_ble_eq_true rfl, Nat.le_of_ble_eq_true rfl⟩) ⟨zb_blind, va_recv hK (zo_R hR0 hS hAr) (ci := 9) (q0 := 0) rfl rfl, fun U hU hW => ⟨rfl, zb_mk hU hW hPr hPc hKc hDc hN hH hS hFc zx_e⟩⟩ rfl rfl hl.1 rfl (lv_room (Nat.le_of_ble_eq_true rfl)) dX7_ready_17 ⟨Nat.le_of_ble_eq_true rfl, Nat.le_of_ble_eq_true rfl⟩) hS (fun q _ h => hFc q h) hFc (fun r4 u t H3 locs ht hvm hw hB hz1 hk1 hS => ?_)
  obtain rfl : r4 = 1 := hw
  have hP := zo_K hP hk1
  refine lv_if_eq (tgt := 29) hx hb dX7_ready_20 (by decide) (fun h => absurd h (by decide)) (fun _ => ?_)
  refine lv_iload_n hx hb dX7_ready_23 rfl (lv_at hl 1 rfl) ?_
  refine lv_iconst (v := 1) hx hb dX7_ready_24 (by decide) ?_
  refine lv_iload_n hx hb dX7_ready_25 rfl (lv_at hl 0 rfl) ?_
  refine lv_ishl hx hb dX7_ready_26 ?_
  refine zo_i (v := 1) (by decide) ?_
  refine lv_ior hx hb dX7_ready_27 ?_
  refine zo_i (v := 1) (by decide) ?_
  refine lv_istore_n (lv' := [(1, .int 1), (2, .int 0), (0, .ref mr)]) hx hb dX7_ready_28 rfl hl (by decide) rfl (fun ls hl => ?_)
  refine lv_iinc (v := 1) (lv' := [(2, .int 1), (1, .int 1), (0, .ref mr)]) hx hb dX7_ready_29 hl (k := 1) rfl (by decide) (by decide) rfl (fun ls hl => ?_)
  refine lv_goto (tgt := 4) hx hb dX7_ready_32 (by decide) ?_
  refine lv_iload_n hx hb dX7_ready_4 rfl (lv_at hl 0 rfl) ?_
  refine lv_aload_n hx hb dX7_ready_5 rfl (lv_at hl 2 rfl) ?_
  refine va_get (D := (dC, dI)) (ci := 9) (v := .ref ll) (C := RX7) (T := TX7) (N := 14) hx hb hts zi_X7_ready_X7 hown hK (zo_R hR0 hS hAr) 0 rfl rfl 0 (by decide) (hts (.fieldLink RX7 12 "LockRoomsModel$Room" "locks" "Ljava/util/ArrayList;") (by decide +kernel)) (fun _ h9 => h9) rfl dX7_ready_6 ?_
  have hPr := ((zo_R hR0 hS hAr)).sub (ws' := [(ll, .inr (1, [.int 2, .ref ola, .int 2]))]) [1] rfl
  have hPc := hP.sub (ws' := []) [] rfl
  have hDc := hD.sub (ws' := []) [] (by decide) rfl
  have hKc := hK.sub (tys' := []) [] rfl
  have hFc := va_free (wc := []) hD hS hA [] rfl
  refine va_calli (va_runV (As := []) (rest := [.int 1]) ⟨hx, hb, hml, hown, hts⟩ (cz_Qsize l dC dI ed H3.size ll 2 ola 2) (cwV 0 hts gX7_ready_Jx4a65c_size_8abf5 rfl rfl rfl (by decide +kernel) ⟨Nat.le_of_ble_eq_true rfl, Nat.le_of_ble_eq_true rfl⟩) ⟨zb_blind, va_recv hK (zo_R hR0 hS hAr) (ci := 1) (q0 := 1) rfl rfl, fun U hU hW => ⟨rfl, zb_mk hU hW hPr hPc hKc hDc hN hH hS hFc zx_e⟩⟩ rfl rfl hl.1 rfl (lv_room (Nat.le_of_ble_eq_true rfl)) dX7_ready_9 ⟨Nat.le_of_ble_eq_true rfl, Nat.le_of_ble_eq_true rfl⟩) hS (fun q _ h => hFc q h) hFc (fun r6 u t H5 locs ht hvm hw hB hz1 hk1 hS => ?_)
  obtain rfl : r6 = 2 := hw.trans (by decide +kernel)
  have hP := zo_K hP hk1
  refine lv_icmp_ge (tgt := 35) hx hb dX7_ready_12 (by decide) (fun h => absurd h (by decide)) (fun _ => ?_)
  refine lv_aload_n hx hb dX7_ready_15 rfl (lv_at hl 2 rfl) ?_
  refine lv_iload_n hx hb dX7_ready_16 rfl (lv_at hl 0 rfl) ?_
  have hPr := ((zo_R hR0 hS hAr)).sub (ws' := [(mr, .inr (9, [.ref ll, .ref lt, .ref lp, .int 0, .int 0, .int 0, .int 0, .int 0, .int 0, .int 0, .int (-1), .int 0, .int 0, .int 0])), (ll, .inr (1, [.int 2, .ref ola, .int 2])), (ola, .inl (cOl, 10, .inr (.inr (.inr (.inr fol))))), (la1, .inl (cA1, 10, .inl fa1)), (lt, .inr (1, [.int 10, .ref ota, .int 10])), (ota, .inl (cOt, 10, .inr (.inr (.inr (.inr fot))))), (ta0, .inl (cB0, 5, .inl fb0)), (ta1, .inl (cB1, 5, .inl fb1)), (ta2, .inl (cB2, 5, .inl fb2)), (ta3, .inl (cB3, 5, .inl fb3)), (ta4, .inl (cB4, 5, .inl fb4)), (ta5, .inl (cB5, 5, .inl fb5)), (ta6, .inl (cB6, 5, .inl fb6)), (ta7, .inl (cB7, 5, .inl fb7)), (ta8, .inl (cB8, 5, .inl fb8)), (ta9, .inl (cB9, 5, .inl fb9))]) [0, 1, 2, 4, 5, 6, 7, 8, 9, 10, 11, 12, 13, 14, 15, 16] rfl
  have hPc := hP.sub (ws' := []) [] rfl
  have hDc := hD.sub (ws' := []) [] (by decide) rfl
  have hKc := hK.sub (tys' := [(cOl, .object "java/lang/Object"), (cA1, .int), (cOt, .object "java/lang/Object"), (cB0, .int), (cB1, .int), (cB2, .int), (cB3, .int), (cB4, .int), (cB5, .int), (cB6, .int), (cB7, .int), (cB8, .int), (cB9, .int)]) [0, 2, 3, 4, 5, 6, 7, 8, 9, 10, 11, 12, 13] rfl
  have hFc := va_free (wc := []) hD hS hA [] rfl
  refine va_calli (va_runV (As := [.int 1]) (rest := []) ⟨hx, hb, hml, hown, hts⟩ (cz_Q7isReady_1 l dC dI ed H5.size mr ll lt lp ola cOl fol la1 cA1 fa1 ota cOt fot ta0 ta1 ta2 ta3 ta4 ta5 ta6 ta7 ta8 ta9 cB0 fb0 cB1 fb1 cB2 fb2 cB3 fb3 cB4 fb4 cB5 fb5 cB6 fb6 cB7 fb7 cB8 fb8 cB9 fb9 hol1 ha1_0 ha1_4 ha1_8 hot0 hot1 hot2 hot3 hot4 hot5 hot6 hot7 hot8 hot9 hb0_3 hb1_3 hb2_3 hb3_3 hb4_3 hb5_3 hb6_3 hb7_3 hb8_3 hb9_3) (cwV 1 hts gX7_ready_X7_isReady rfl rfl rfl (by decide +kernel) ⟨Nat.le_of_ble_eq_true rfl, Nat.le_of_ble_eq_true rfl⟩) ⟨zb_blind, va_recv hK (zo_R hR0 hS hAr) (ci := 9) (q0 := 0) rfl rfl, fun U hU hW => ⟨rfl, zb_mk hU hW hPr hPc hKc hDc hN hH hS hFc zx_e⟩⟩ rfl rfl hl.1 rfl (lv_room (Nat.le_of_ble_eq_true rfl)) dX7_ready_17 ⟨Nat.le_of_ble_eq_true rfl, Nat.le_of_ble_eq_true rfl⟩) hS (fun q _ h => hFc q h) hFc (fun r8 u t H7 locs ht hvm hw hB hz1 hk1 hS => ?_)
  obtain rfl : r8 = 1 := hw
  have hP := zo_K hP hk1
  refine lv_if_eq (tgt := 29) hx hb dX7_ready_20 (by decide) (fun h => absurd h (by decide)) (fun _ => ?_)
  refine lv_iload_n hx hb dX7_ready_23 rfl (lv_at hl 1 rfl) ?_
  refine lv_iconst (v := 1) hx hb dX7_ready_24 (by decide) ?_
  refine lv_iload_n hx hb dX7_ready_25 rfl (lv_at hl 0 rfl) ?_
  refine lv_ishl hx hb dX7_ready_26 ?_
  refine zo_i (v := 2) (by decide) ?_
  refine lv_ior hx hb dX7_ready_27 ?_
  refine zo_i (v := 3) (by decide) ?_
  refine lv_istore_n (lv' := [(1, .int 3), (2, .int 1), (0, .ref mr)]) hx hb dX7_ready_28 rfl hl (by decide) rfl (fun ls hl => ?_)
  refine lv_iinc (v := 2) (lv' := [(2, .int 2), (1, .int 3), (0, .ref mr)]) hx hb dX7_ready_29 hl (k := 1) rfl (by decide) (by decide) rfl (fun ls hl => ?_)
  refine lv_goto (tgt := 4) hx hb dX7_ready_32 (by decide) ?_
  refine lv_iload_n hx hb dX7_ready_4 rfl (lv_at hl 0 rfl) ?_
  refine lv_aload_n hx hb dX7_ready_5 rfl (lv_at hl 2 rfl) ?_
  refine va_get (D := (dC, dI)) (ci := 9) (v := .ref ll) (C := RX7) (T := TX7) (N := 14) hx hb hts zi_X7_ready_X7 hown hK (zo_R hR0 hS hAr) 0 rfl rfl 0 (by decide) (hts (.fieldLink RX7 12 "LockRoomsModel$Room" "locks" "Ljava/util/ArrayList;") (by decide +kernel)) (fun _ h9 => h9) rfl dX7_ready_6 ?_
  have hPr := ((zo_R hR0 hS hAr)).sub (ws' := [(ll, .inr (1, [.int 2, .ref ola, .int 2]))]) [1] rfl
  have hPc := hP.sub (ws' := []) [] rfl
  have hDc := hD.sub (ws' := []) [] (by decide) rfl
  have hKc := hK.sub (tys' := []) [] rfl
  have hFc := va_free (wc := []) hD hS hA [] rfl
  refine va_calli (va_runV (As := []) (rest := [.int 2]) ⟨hx, hb, hml, hown, hts⟩ (cz_Qsize l dC dI ed H7.size ll 2 ola 2) (cwV 0 hts gX7_ready_Jx4a65c_size_8abf5 rfl rfl rfl (by decide +kernel) ⟨Nat.le_of_ble_eq_true rfl, Nat.le_of_ble_eq_true rfl⟩) ⟨zb_blind, va_recv hK (zo_R hR0 hS hAr) (ci := 1) (q0 := 1) rfl rfl, fun U hU hW => ⟨rfl, zb_mk hU hW hPr hPc hKc hDc hN hH hS hFc zx_e⟩⟩ rfl rfl hl.1 rfl (lv_room (Nat.le_of_ble_eq_true rfl)) dX7_ready_9 ⟨Nat.le_of_ble_eq_true rfl, Nat.le_of_ble_eq_true rfl⟩) hS (fun q _ h => hFc q h) hFc (fun r10 u t H9 locs ht hvm hw hB hz1 hk1 hS => ?_)
  obtain rfl : r10 = 2 := hw.trans (by decide +kernel)
  have hP := zo_K hP hk1
  refine lv_icmp_ge (tgt := 35) hx hb dX7_ready_12 (by decide) (fun _ => ?_) (fun h => absurd h (by decide))
  refine lv_iload_n hx hb dX7_ready_35 rfl (lv_at hl 1 rfl) ?_
  refine W.widen (k := 0) (n := 0) (Nat.le_of_ble_eq_true rfl) (Nat.le_of_ble_eq_true rfl) ?_
  exact W.iret hx hb hr (fun t ht hW => ⟨⟨3, (), rfl, rfl, trivial⟩, hS.F ht⟩) hS.2.2 dX7_ready_36
set_option maxRecDepth 20000 in
theorem zi_X7_isReached_X7 : ∀ w ∈ u_ws RX7 TX7 14, w ∈ wsX7_isReached := by decide +kernel
set_option maxHeartbeats 4000000 in
set_option maxRecDepth 100000 in
theorem cz_QisReached_0 (l : Launch) (dC : Nat → ClassId) (dI : Nat → Nat → Nat) (ed sz : Nat) (mr : Nat) (ll : Nat) (lt : Nat) (lp : Nat) (ota : Nat) (cOt : ClassId) (fot : Nat → Option Nat) (ta0 : Nat) (cB0 : ClassId) (fb0 : Nat → Int32) (hot0 : fot 0 = some ta0) (hb0_0 : fb0 0 = (-1)) (hb0_3 : fb0 3 = 0) : Met l yX7_isReached wsX7_isReached ({ frames := 3, cells := 0, slots := 0, locals := 64 } : Jvm.Room) (va_Pc [.ref mr, .int 0] (zB dC dI ed sz [(mr, .inr (9, [.ref ll, .ref lt, .ref lp, .int 0, .int 0, .int 0, .int 0, .int 0, .int 0, .int 0, .int (-1), .int 0, .int 0, .int 0])), (lt, .inr (1, [.int 10, .ref ota, .int 10])), (ota, .inl (cOt, 10, .inr (.inr (.inr (.inr fot))))), (ta0, .inl (cB0, 5, .inl fb0))] [] [(cOt, .object "java/lang/Object"), (cB0, .int)])) (va_Qi (fun (r : Int32) (_ : Unit) => r = 1) (fun (_ : Unit) (_ : State) => True) (va_A [] sz)) 0 0 (va_A [] sz) := by
  refine Met.ofW (cc := cX7_isReached) (maxL := 3) (ret := (some .boolean)) (by decide) rfl ?_
  intro p e s m args below meth c s₁ B hml hv
  obtain ⟨rfl, hsz, hR0, hP, hK, hD0, hN, hH, hX0⟩ := hv
  have hx := B.exec
  have hb := B.bytes
  have hr := B.returns
  have hts := atoms_spec (ws := wsX7_isReached) B.pre
  have hown : s.vm.findClass RX7 = some m.cls := findClass_of_methodNamed B.named
  have hlocks := B.notSynchronized
  subst hsz
  have hD := hD0.self (sz := s.heap.size)
  have hAr := zx_A hX0 hR0
  generalize hAe : va_A [] s.heap.size = A at hD hAr hH ⊢
  have hA : ∀ q : Nat, s.heap.size ≤ q → A q := fun q h => by rw [← hAe]; exact Or.inr h
  have hS : va_S A s.heap s.heap [] := va_S.rf
  have hl := lv_entry ([.ref mr, .int 0]) (n := 3) (Nat.le_of_ble_eq_true rfl)
  rw [lg_entry_eq]
  generalize (lg_sl ([.ref mr, .int 0]) ++ List.replicate (3 - (lg_sl ([.ref mr, .int 0])).length) Slot.unset).toArray = ls at hl ⊢
  have hl : lv_has ls 3 [(0, .ref mr), (1, .int 0)] := hl
  refine lv_aload_n hx hb dX7_isReached_0 rfl (lv_at hl 0 rfl) ?_
  refine va_get (D := (dC, dI)) (ci := 9) (v := .ref lt) (C := RX7) (T := TX7) (N := 14) hx hb hts zi_X7_isReached_X7 hown hK hR0 0 rfl rfl 1 (by decide) (hts (.fieldLink RX7 18 "LockRoomsModel$Room" "things" "Ljava/util/ArrayList;") (by decide +kernel)) (fun _ h9 => h9) rfl dX7_isReached_1 ?_
  refine lv_iload_n hx hb dX7_isReached_4 rfl (lv_at hl 1 rfl) ?_
  have hPr := (hR0).sub (ws' := [(lt, .inr (1, [.int 10, .ref ota, .int 10])), (ota, .inl (cOt, 10, .inr (.inr (.inr (.inr fot)))))]) [1, 2] rfl
  have hPc := hP.sub (ws' := []) [] rfl
  have hDc := hD.sub (ws' := []) [] (by decide) rfl
  have hKc := hK.sub (tys' := [(cOt, .object "java/lang/Object")]) [0] rfl
  have hFc := va_free (wc := []) hD hS hA [] rfl
  refine va_callr (va_runV (As := [.int 0]) (rest := []) ⟨hx, hb, hml, hown, hts⟩ (cz_Qget_0_10 l dC dI ed s.heap.size lt 10 ota cOt fot ta0 hot0) (cwV 1 hts gX7_isReached_Jx4a65c_get_915e3 rfl rfl rfl (by decide +kernel) ⟨Nat.le_of_ble_eq_true rfl, Nat.le_of_ble_eq_true rfl⟩) ⟨zb_blind, va_recv hK hR0 (ci := 1) (q0 := 1) rfl rfl, fun U hU hW => ⟨rfl, zb_mk hU hW hPr hPc hKc hDc hN hH hS hFc zx_e⟩⟩ rfl rfl hl.1 rfl (lv_room (Nat.le_of_ble_eq_true rfl)) dX7_isReached_5 ⟨Nat.le_of_ble_eq_true rfl, Nat.le_of_ble_eq_true rfl⟩) hS (fun q _ h => hFc q h) hFc (fun u r2 t H1 locs ht hvm hw hB hz1 hk1 hS => ?_)
  obtain ⟨hq3_0, hP1, hD1, hK1⟩ := hB
  rw [ht] at hP1
  obtain ⟨hP, hD⟩ := va_join (wr := []) (w1 := []) hP hD [] [] rfl rfl (by decide) (by decide) hk1 hFc hP1 hD1
  have hP : va_P (dC, dI) vwCl [] H1 := hP
  have hD : va_D A [] := hD
  obtain rfl : ta0 = r2 := hq3_0.symm
  refine va_castA (nm := "[I") hx hb hown (hts (.classLink RX7 46 "[I") (by decide +kernel)) (zo_R hR0 hS hAr) 3 rfl (show s.vm.findClass "[I" = some cB0 from (hK.2 1 _ rfl).2) dX7_isReached_8 ?_
  refine lv_astore_n (lv' := [(2, .ref ta0), (0, .ref mr), (1, .int 0)]) hx hb dX7_isReached_11 rfl hl (by decide) rfl (fun ls hl => ?_)
  refine lv_aload_n hx hb dX7_isReached_12 rfl (lv_at hl 0 rfl) ?_
  refine lv_iconst (v := 3) hx hb dX7_isReached_13 (by decide) ?_
  refine va_iald hx hb hK (zo_R hR0 hS hAr) 3 1 rfl rfl (by unfold vp_in; decide) dX7_isReached_14 ?_
  refine zo_i (v := 0) (by rw [show Int32.toNatClampNeg 3 = 3 from by decide]; exact hb0_3) ?_
  refine lv_if_ne (tgt := 48) hx hb dX7_isReached_15 (by decide) (fun h => absurd h (by decide)) (fun _ => ?_)
  refine lv_aload_n hx hb dX7_isReached_18 rfl (lv_at hl 0 rfl) ?_
  refine lv_iconst (v := 0) hx hb dX7_isReached_19 (by decide) ?_
  refine va_iald hx hb hK (zo_R hR0 hS hAr) 3 1 rfl rfl (by unfold vp_in; decide) dX7_isReached_20 ?_
  refine zo_i (v := (-1)) (by rw [show Int32.toNatClampNeg 0 = 0 from by decide]; exact hb0_0) ?_
  refine lv_iconst (v := (-1)) hx hb dX7_isReached_21 (by decide) ?_
  refine lv_icmp_eq (tgt := 44) hx hb dX7_isReached_22 (by decide) (fun _ => ?_) (fun h => absurd h (by decide))
  refine lv_iconst (v := 1) hx hb dX7_isReached_44 (by decide) ?_
  refine lv_goto (tgt := 49) hx hb dX7_isReached_45 (by decide) ?_
  refine W.widen (k := 0) (n := 0) (Nat.le_of_ble_eq_true rfl) (Nat.le_of_ble_eq_true rfl) ?_
  exact W.zret hx hb hr (by decide) (fun t ht hW => ⟨⟨1, (), rfl, rfl, trivial⟩, hS.F ht⟩) hS.2.2 dX7_isReached_49
set_option maxHeartbeats 4000000 in
set_option maxRecDepth 100000 in
theorem cz_QisReached_1 (l : Launch) (dC : Nat → ClassId) (dI : Nat → Nat → Nat) (ed sz : Nat) (mr : Nat) (ll : Nat) (lt : Nat) (lp : Nat) (ota : Nat) (cOt : ClassId) (fot : Nat → Option Nat) (ta1 : Nat) (cB1 : ClassId) (fb1 : Nat → Int32) (hot1 : fot 1 = some ta1) (hb1_0 : fb1 0 = (-1)) (hb1_3 : fb1 3 = 0) : Met l yX7_isReached wsX7_isReached ({ frames := 3, cells := 0, slots := 0, locals := 64 } : Jvm.Room) (va_Pc [.ref mr, .int 1] (zB dC dI ed sz [(mr, .inr (9, [.ref ll, .ref lt, .ref lp, .int 0, .int 0, .int 0, .int 0, .int 0, .int 0, .int 0, .int (-1), .int 0, .int 0, .int 0])), (lt, .inr (1, [.int 10, .ref ota, .int 10])), (ota, .inl (cOt, 10, .inr (.inr (.inr (.inr fot))))), (ta1, .inl (cB1, 5, .inl fb1))] [] [(cOt, .object "java/lang/Object"), (cB1, .int)])) (va_Qi (fun (r : Int32) (_ : Unit) => r = 1) (fun (_ : Unit) (_ : State) => True) (va_A [] sz)) 0 0 (va_A [] sz) := by
  refine Met.ofW (cc := cX7_isReached) (maxL := 3) (ret := (some .boolean)) (by decide) rfl ?_
  intro p e s m args below meth c s₁ B hml hv
  obtain ⟨rfl, hsz, hR0, hP, hK, hD0, hN, hH, hX0⟩ := hv
  have hx := B.exec
  have hb := B.bytes
  have hr := B.returns
  have hts := atoms_spec (ws := wsX7_isReached) B.pre
  have hown : s.vm.findClass RX7 = some m.cls := findClass_of_methodNamed B.named
  have hlocks := B.notSynchronized
  subst hsz
  have hD := hD0.self (sz := s.heap.size)
  have hAr := zx_A hX0 hR0
  generalize hAe : va_A [] s.heap.size = A at hD hAr hH ⊢
  have hA : ∀ q : Nat, s.heap.size ≤ q → A q := fun q h => by rw [← hAe]; exact Or.inr h
  have hS : va_S A s.heap s.heap [] := va_S.rf
  have hl := lv_entry ([.ref mr, .int 1]) (n := 3) (Nat.le_of_ble_eq_true rfl)
  rw [lg_entry_eq]
  generalize (lg_sl ([.ref mr, .int 1]) ++ List.replicate (3 - (lg_sl ([.ref mr, .int 1])).length) Slot.unset).toArray = ls at hl ⊢
  have hl : lv_has ls 3 [(0, .ref mr), (1, .int 1)] := hl
  refine lv_aload_n hx hb dX7_isReached_0 rfl (lv_at hl 0 rfl) ?_
  refine va_get (D := (dC, dI)) (ci := 9) (v := .ref lt) (C := RX7) (T := TX7) (N := 14) hx hb hts zi_X7_isReached_X7 hown hK hR0 0 rfl rfl 1 (by decide) (hts (.fieldLink RX7 18 "LockRoomsModel$Room" "things" "Ljava/util/ArrayList;") (by decide +kernel)) (fun _ h9 => h9) rfl dX7_isReached_1 ?_
  refine lv_iload_n hx hb dX7_isReached_4 rfl (lv_at hl 1 rfl) ?_
  have hPr := (hR0).sub (ws' := [(lt, .inr (1, [.int 10, .ref ota, .int 10])), (ota, .inl (cOt, 10, .inr (.inr (.inr (.inr fot)))))]) [1, 2] rfl
  have hPc := hP.sub (ws' := []) [] rfl
  have hDc := hD.sub (ws' := []) [] (by decide) rfl
  have hKc := hK.sub (tys' := [(cOt, .object "java/lang/Object")]) [0] rfl
  have hFc := va_free (wc := []) hD hS hA [] rfl
  refine va_callr (va_runV (As := [.int 1]) (rest := []) ⟨hx, hb, hml, hown, hts⟩ (cz_Qget_1_10 l dC dI ed s.heap.size lt 10 ota cOt fot ta1 hot1) (cwV 1 hts gX7_isReached_Jx4a65c_get_915e3 rfl rfl rfl (by decide +kernel) ⟨Nat.le_of_ble_eq_true rfl, Nat.le_of_ble_eq_true rfl⟩) ⟨zb_blind, va_recv hK hR0 (ci := 1) (q0 := 1) rfl rfl, fun U hU hW => ⟨rfl, zb_mk hU hW hPr hPc hKc hDc hN hH hS hFc zx_e⟩⟩ rfl rfl hl.1 rfl (lv_room (Nat.le_of_ble_eq_true rfl)) dX7_isReached_5 ⟨Nat.le_of_ble_eq_true rfl, Nat.le_of_ble_eq_true rfl⟩) hS (fun q _ h => hFc q h) hFc (fun u r2 t H1 locs ht hvm hw hB hz1 hk1 hS => ?_)
  obtain ⟨hq3_0, hP1, hD1, hK1⟩ := hB
  rw [ht] at hP1
  obtain ⟨hP, hD⟩ := va_join (wr := []) (w1 := []) hP hD [] [] rfl rfl (by decide) (by decide) hk1 hFc hP1 hD1
  have hP : va_P (dC, dI) vwCl [] H1 := hP
  have hD : va_D A [] := hD
  obtain rfl : ta1 = r2 := hq3_0.symm
  refine va_castA (nm := "[I") hx hb hown (hts (.classLink RX7 46 "[I") (by decide +kernel)) (zo_R hR0 hS hAr) 3 rfl (show s.vm.findClass "[I" = some cB1 from (hK.2 1 _ rfl).2) dX7_isReached_8 ?_
  refine lv_astore_n (lv' := [(2, .ref ta1), (0, .ref mr), (1, .int 1)]) hx hb dX7_isReached_11 rfl hl (by decide) rfl (fun ls hl => ?_)
  refine lv_aload_n hx hb dX7_isReached_12 rfl (lv_at hl 0 rfl) ?_
  refine lv_iconst (v := 3) hx hb dX7_isReached_13 (by decide) ?_
  refine va_iald hx hb hK (zo_R hR0 hS hAr) 3 1 rfl rfl (by unfold vp_in; decide) dX7_isReached_14 ?_
  refine zo_i (v := 0) (by rw [show Int32.toNatClampNeg 3 = 3 from by decide]; exact hb1_3) ?_
  refine lv_if_ne (tgt := 48) hx hb dX7_isReached_15 (by decide) (fun h => absurd h (by decide)) (fun _ => ?_)
  refine lv_aload_n hx hb dX7_isReached_18 rfl (lv_at hl 0 rfl) ?_
  refine lv_iconst (v := 0) hx hb dX7_isReached_19 (by decide) ?_
  refine va_iald hx hb hK (zo_R hR0 hS hAr) 3 1 rfl rfl (by unfold vp_in; decide) dX7_isReached_20 ?_
  refine zo_i (v := (-1)) (by rw [show Int32.toNatClampNeg 0 = 0 from by decide]; exact hb1_0) ?_
  refine lv_iconst (v := (-1)) hx hb dX7_isReached_21 (by decide) ?_
  refine lv_icmp_eq (tgt := 44) hx hb dX7_isReached_22 (by decide) (fun _ => ?_) (fun h => absurd h (by decide))
  refine lv_iconst (v := 1) hx hb dX7_isReached_44 (by decide) ?_
  refine lv_goto (tgt := 49) hx hb dX7_isReached_45 (by decide) ?_
  refine W.widen (k := 0) (n := 0) (Nat.le_of_ble_eq_true rfl) (Nat.le_of_ble_eq_true rfl) ?_
  exact W.zret hx hb hr (by decide) (fun t ht hW => ⟨⟨1, (), rfl, rfl, trivial⟩, hS.F ht⟩) hS.2.2 dX7_isReached_49
set_option maxHeartbeats 4000000 in
set_option maxRecDepth 100000 in
theorem cz_QisReached_2 (l : Launch) (dC : Nat → ClassId) (dI : Nat → Nat → Nat) (ed sz : Nat) (mr : Nat) (ll : Nat) (lt : Nat) (lp : Nat) (ota : Nat) (cOt : ClassId) (fot : Nat → Option Nat) (ta2 : Nat) (cB2 : ClassId) (fb2 : Nat → Int32) (hot2 : fot 2 = some ta2) (hb2_0 : fb2 0 = (-1)) (hb2_3 : fb2 3 = 0) : Met l yX7_isReached wsX7_isReached ({ frames := 3, cells := 0, slots := 0, locals := 64 } : Jvm.Room) (va_Pc [.ref mr, .int 2] (zB dC dI ed sz [(mr, .inr (9, [.ref ll, .ref lt, .ref lp, .int 0, .int 0, .int 0, .int 0, .int 0, .int 0, .int 0, .int (-1), .int 0, .int 0, .int 0])), (lt, .inr (1, [.int 10, .ref ota, .int 10])), (ota, .inl (cOt, 10, .inr (.inr (.inr (.inr fot))))), (ta2, .inl (cB2, 5, .inl fb2))] [] [(cOt, .object "java/lang/Object"), (cB2, .int)])) (va_Qi (fun (r : Int32) (_ : Unit) => r = 1) (fun (_ : Unit) (_ : State) => True) (va_A [] sz)) 0 0 (va_A [] sz) := by
  refine Met.ofW (cc := cX7_isReached) (maxL := 3) (ret := (some .boolean)) (by decide) rfl ?_
  intro p e s m args below meth c s₁ B hml hv
  obtain ⟨rfl, hsz, hR0, hP, hK, hD0, hN, hH, hX0⟩ := hv
  have hx := B.exec
  have hb := B.bytes
  have hr := B.returns
  have hts := atoms_spec (ws := wsX7_isReached) B.pre
  have hown : s.vm.findClass RX7 = some m.cls := findClass_of_methodNamed B.named
  have hlocks := B.notSynchronized
  subst hsz
  have hD := hD0.self (sz := s.heap.size)
  have hAr := zx_A hX0 hR0
  generalize hAe : va_A [] s.heap.size = A at hD hAr hH ⊢
  have hA : ∀ q : Nat, s.heap.size ≤ q → A q := fun q h => by rw [← hAe]; exact Or.inr h
  have hS : va_S A s.heap s.heap [] := va_S.rf
  have hl := lv_entry ([.ref mr, .int 2]) (n := 3) (Nat.le_of_ble_eq_true rfl)
  rw [lg_entry_eq]
  generalize (lg_sl ([.ref mr, .int 2]) ++ List.replicate (3 - (lg_sl ([.ref mr, .int 2])).length) Slot.unset).toArray = ls at hl ⊢
  have hl : lv_has ls 3 [(0, .ref mr), (1, .int 2)] := hl
  refine lv_aload_n hx hb dX7_isReached_0 rfl (lv_at hl 0 rfl) ?_
  refine va_get (D := (dC, dI)) (ci := 9) (v := .ref lt) (C := RX7) (T := TX7) (N := 14) hx hb hts zi_X7_isReached_X7 hown hK hR0 0 rfl rfl 1 (by decide) (hts (.fieldLink RX7 18 "LockRoomsModel$Room" "things" "Ljava/util/ArrayList;") (by decide +kernel)) (fun _ h9 => h9) rfl dX7_isReached_1 ?_
  refine lv_iload_n hx hb dX7_isReached_4 rfl (lv_at hl 1 rfl) ?_
  have hPr := (hR0).sub (ws' := [(lt, .inr (1, [.int 10, .ref ota, .int 10])), (ota, .inl (cOt, 10, .inr (.inr (.inr (.inr fot)))))]) [1, 2] rfl
  have hPc := hP.sub (ws' := []) [] rfl
  have hDc := hD.sub (ws' := []) [] (by decide) rfl
  have hKc := hK.sub (tys' := [(cOt, .object "java/lang/Object")]) [0] rfl
  have hFc := va_free (wc := []) hD hS hA [] rfl
  refine va_callr (va_runV (As := [.int 2]) (rest := []) ⟨hx, hb, hml, hown, hts⟩ (cz_Qget_2_10 l dC dI ed s.heap.size lt 10 ota cOt fot ta2 hot2) (cwV 1 hts gX7_isReached_Jx4a65c_get_915e3 rfl rfl rfl (by decide +kernel) ⟨Nat.le_of_ble_eq_true rfl, Nat.le_of_ble_eq_true rfl⟩) ⟨zb_blind, va_recv hK hR0 (ci := 1) (q0 := 1) rfl rfl, fun U hU hW => ⟨rfl, zb_mk hU hW hPr hPc hKc hDc hN hH hS hFc zx_e⟩⟩ rfl rfl hl.1 rfl (lv_room (Nat.le_of_ble_eq_true rfl)) dX7_isReached_5 ⟨Nat.le_of_ble_eq_true rfl, Nat.le_of_ble_eq_true rfl⟩) hS (fun q _ h => hFc q h) hFc (fun u r2 t H1 locs ht hvm hw hB hz1 hk1 hS => ?_)
  obtain ⟨hq3_0, hP1, hD1, hK1⟩ := hB
  rw [ht] at hP1
  obtain ⟨hP, hD⟩ := va_join (wr := []) (w1 := []) hP hD [] [] rfl rfl (by decide) (by decide) hk1 hFc hP1 hD1
  have hP : va_P (dC, dI) vwCl [] H1 := hP
  have hD : va_D A [] := hD
  obtain rfl : ta2 = r2 := hq3_0.symm
  refine va_castA (nm := "[I") hx hb hown (hts (.classLink RX7 46 "[I") (by decide +kernel)) (zo_R hR0 hS hAr) 3 rfl (show s.vm.findClass "[I" = some cB2 from (hK.2 1 _ rfl).2) dX7_isReached_8 ?_
  refine lv_astore_n (lv' := [(2, .ref ta2), (0, .ref mr), (1, .int 2)]) hx hb dX7_isReached_11 rfl hl (by decide) rfl (fun ls hl => ?_)
  refine lv_aload_n hx hb dX7_isReached_12 rfl (lv_at hl 0 rfl) ?_
  refine lv_iconst (v := 3) hx hb dX7_isReached_13 (by decide) ?_
  refine va_iald hx hb hK (zo_R hR0 hS hAr) 3 1 rfl rfl (by unfold vp_in; decide) dX7_isReached_14 ?_
  refine zo_i (v := 0) (by rw [show Int32.toNatClampNeg 3 = 3 from by decide]; exact hb2_3) ?_
  refine lv_if_ne (tgt := 48) hx hb dX7_isReached_15 (by decide) (fun h => absurd h (by decide)) (fun _ => ?_)
  refine lv_aload_n hx hb dX7_isReached_18 rfl (lv_at hl 0 rfl) ?_
  refine lv_iconst (v := 0) hx hb dX7_isReached_19 (by decide) ?_
  refine va_iald hx hb hK (zo_R hR0 hS hAr) 3 1 rfl rfl (by unfold vp_in; decide) dX7_isReached_20 ?_
  refine zo_i (v := (-1)) (by rw [show Int32.toNatClampNeg 0 = 0 from by decide]; exact hb2_0) ?_
  refine lv_iconst (v := (-1)) hx hb dX7_isReached_21 (by decide) ?_
  refine lv_icmp_eq (tgt := 44) hx hb dX7_isReached_22 (by decide) (fun _ => ?_) (fun h => absurd h (by decide))
  refine lv_iconst (v := 1) hx hb dX7_isReached_44 (by decide) ?_
  refine lv_goto (tgt := 49) hx hb dX7_isReached_45 (by decide) ?_
  refine W.widen (k := 0) (n := 0) (Nat.le_of_ble_eq_true rfl) (Nat.le_of_ble_eq_true rfl) ?_
  exact W.zret hx hb hr (by decide) (fun t ht hW => ⟨⟨1, (), rfl, rfl, trivial⟩, hS.F ht⟩) hS.2.2 dX7_isReached_49
set_option maxHeartbeats 4000000 in
set_option maxRecDepth 100000 in
theorem cz_QisReached_3 (l : Launch) (dC : Nat → ClassId) (dI : Nat → Nat → Nat) (ed sz : Nat) (mr : Nat) (ll : Nat) (lt : Nat) (lp : Nat) (ota : Nat) (cOt : ClassId) (fot : Nat → Option Nat) (ta3 : Nat) (cB3 : ClassId) (fb3 : Nat → Int32) (hot3 : fot 3 = some ta3) (hb3_0 : fb3 0 = (-1)) (hb3_3 : fb3 3 = 0) : Met l yX7_isReached wsX7_isReached ({ frames := 3, cells := 0, slots := 0, locals := 64 } : Jvm.Room) (va_Pc [.ref mr, .int 3] (zB dC dI ed sz [(mr, .inr (9, [.ref ll, .ref lt, .ref lp, .int 0, .int 0, .int 0, .int 0, .int 0, .int 0, .int 0, .int (-1), .int 0, .int 0, .int 0])), (lt, .inr (1, [.int 10, .ref ota, .int 10])), (ota, .inl (cOt, 10, .inr (.inr (.inr (.inr fot))))), (ta3, .inl (cB3, 5, .inl fb3))] [] [(cOt, .object "java/lang/Object"), (cB3, .int)])) (va_Qi (fun (r : Int32) (_ : Unit) => r = 1) (fun (_ : Unit) (_ : State) => True) (va_A [] sz)) 0 0 (va_A [] sz) := by
  refine Met.ofW (cc := cX7_isReached) (maxL := 3) (ret := (some .boolean)) (by decide) rfl ?_
  intro p e s m args below meth c s₁ B hml hv
  obtain ⟨rfl, hsz, hR0, hP, hK, hD0, hN, hH, hX0⟩ := hv
  have hx := B.exec
  have hb := B.bytes
  have hr := B.returns
  have hts := atoms_spec (ws := wsX7_isReached) B.pre
  have hown : s.vm.findClass RX7 = some m.cls := findClass_of_methodNamed B.named
  have hlocks := B.notSynchronized
  subst hsz
  have hD := hD0.self (sz := s.heap.size)
  have hAr := zx_A hX0 hR0
  generalize hAe : va_A [] s.heap.size = A at hD hAr hH ⊢
  have hA : ∀ q : Nat, s.heap.size ≤ q → A q := fun q h => by rw [← hAe]; exact Or.inr h
  have hS : va_S A s.heap s.heap [] := va_S.rf
  have hl := lv_entry ([.ref mr, .int 3]) (n := 3) (Nat.le_of_ble_eq_true rfl)
  rw [lg_entry_eq]
  generalize (lg_sl ([.ref mr, .int 3]) ++ List.replicate (3 - (lg_sl ([.ref mr, .int 3])).length) Slot.unset).toArray = ls at hl ⊢
  have hl : lv_has ls 3 [(0, .ref mr), (1, .int 3)] := hl
  refine lv_aload_n hx hb dX7_isReached_0 rfl (lv_at hl 0 rfl) ?_
  refine va_get (D := (dC, dI)) (ci := 9) (v := .ref lt) (C := RX7) (T := TX7) (N := 14) hx hb hts zi_X7_isReached_X7 hown hK hR0 0 rfl rfl 1 (by decide) (hts (.fieldLink RX7 18 "LockRoomsModel$Room" "things" "Ljava/util/ArrayList;") (by decide +kernel)) (fun _ h9 => h9) rfl dX7_isReached_1 ?_
  refine lv_iload_n hx hb dX7_isReached_4 rfl (lv_at hl 1 rfl) ?_
  have hPr := (hR0).sub (ws' := [(lt, .inr (1, [.int 10, .ref ota, .int 10])), (ota, .inl (cOt, 10, .inr (.inr (.inr (.inr fot)))))]) [1, 2] rfl
  have hPc := hP.sub (ws' := []) [] rfl
  have hDc := hD.sub (ws' := []) [] (by decide) rfl
  have hKc := hK.sub (tys' := [(cOt, .object "java/lang/Object")]) [0] rfl
  have hFc := va_free (wc := []) hD hS hA [] rfl
  refine va_callr (va_runV (As := [.int 3]) (rest := []) ⟨hx, hb, hml, hown, hts⟩ (cz_Qget_3_10 l dC dI ed s.heap.size lt 10 ota cOt fot ta3 hot3) (cwV 1 hts gX7_isReached_Jx4a65c_get_915e3 rfl rfl rfl (by decide +kernel) ⟨Nat.le_of_ble_eq_true rfl, Nat.le_of_ble_eq_true rfl⟩) ⟨zb_blind, va_recv hK hR0 (ci := 1) (q0 := 1) rfl rfl, fun U hU hW => ⟨rfl, zb_mk hU hW hPr hPc hKc hDc hN hH hS hFc zx_e⟩⟩ rfl rfl hl.1 rfl (lv_room (Nat.le_of_ble_eq_true rfl)) dX7_isReached_5 ⟨Nat.le_of_ble_eq_true rfl, Nat.le_of_ble_eq_true rfl⟩) hS (fun q _ h => hFc q h) hFc (fun u r2 t H1 locs ht hvm hw hB hz1 hk1 hS => ?_)
  obtain ⟨hq3_0, hP1, hD1, hK1⟩ := hB
  rw [ht] at hP1
  obtain ⟨hP, hD⟩ := va_join (wr := []) (w1 := []) hP hD [] [] rfl rfl (by decide) (by decide) hk1 hFc hP1 hD1
  have hP : va_P (dC, dI) vwCl [] H1 := hP
  have hD : va_D A [] := hD
  obtain rfl : ta3 = r2 := hq3_0.symm
  refine va_castA (nm := "[I") hx hb hown (hts (.classLink RX7 46 "[I") (by decide +kernel)) (zo_R hR0 hS hAr) 3 rfl (show s.vm.findClass "[I" = some cB3 from (hK.2 1 _ rfl).2) dX7_isReached_8 ?_
  refine lv_astore_n (lv' := [(2, .ref ta3), (0, .ref mr), (1, .int 3)]) hx hb dX7_isReached_11 rfl hl (by decide) rfl (fun ls hl => ?_)
  refine lv_aload_n hx hb dX7_isReached_12 rfl (lv_at hl 0 rfl) ?_
  refine lv_iconst (v := 3) hx hb dX7_isReached_13 (by decide) ?_
  refine va_iald hx hb hK (zo_R hR0 hS hAr) 3 1 rfl rfl (by unfold vp_in; decide) dX7_isReached_14 ?_
  refine zo_i (v := 0) (by rw [show Int32.toNatClampNeg 3 = 3 from by decide]; exact hb3_3) ?_
  refine lv_if_ne (tgt := 48) hx hb dX7_isReached_15 (by decide) (fun h => absurd h (by decide)) (fun _ => ?_)
  refine lv_aload_n hx hb dX7_isReached_18 rfl (lv_at hl 0 rfl) ?_
  refine lv_iconst (v := 0) hx hb dX7_isReached_19 (by decide) ?_
  refine va_iald hx hb hK (zo_R hR0 hS hAr) 3 1 rfl rfl (by unfold vp_in; decide) dX7_isReached_20 ?_
  refine zo_i (v := (-1)) (by rw [show Int32.toNatClampNeg 0 = 0 from by decide]; exact hb3_0) ?_
  refine lv_iconst (v := (-1)) hx hb dX7_isReached_21 (by decide) ?_
  refine lv_icmp_eq (tgt := 44) hx hb dX7_isReached_22 (by decide) (fun _ => ?_) (fun h => absurd h (by decide))
  refine lv_iconst (v := 1) hx hb dX7_isReached_44 (by decide) ?_
  refine lv_goto (tgt := 49) hx hb dX7_isReached_45 (by decide) ?_
  refine W.widen (k := 0) (n := 0) (Nat.le_of_ble_eq_true rfl) (Nat.le_of_ble_eq_true rfl) ?_
  exact W.zret hx hb hr (by decide) (fun t ht hW => ⟨⟨1, (), rfl, rfl, trivial⟩, hS.F ht⟩) hS.2.2 dX7_isReached_49
set_option maxHeartbeats 4000000 in
set_option maxRecDepth 100000 in
theorem cz_QisReached_4 (l : Launch) (dC : Nat → ClassId) (dI : Nat → Nat → Nat) (ed sz : Nat) (mr : Nat) (ll : Nat) (lt : Nat) (lp : Nat) (ota : Nat) (cOt : ClassId) (fot : Nat → Option Nat) (ta4 : Nat) (cB4 : ClassId) (fb4 : Nat → Int32) (hot4 : fot 4 = some ta4) (hb4_0 : fb4 0 = (-1)) (hb4_3 : fb4 3 = 0) : Met l yX7_isReached wsX7_isReached ({ frames := 3, cells := 0, slots := 0, locals := 64 } : Jvm.Room) (va_Pc [.ref mr, .int 4] (zB dC dI ed sz [(mr, .inr (9, [.ref ll, .ref lt, .ref lp, .int 0, .int 0, .int 0, .int 0, .int 0, .int 0, .int 0, .int (-1), .int 0, .int 0, .int 0])), (lt, .inr (1, [.int 10, .ref ota, .int 10])), (ota, .inl (cOt, 10, .inr (.inr (.inr (.inr fot))))), (ta4, .inl (cB4, 5, .inl fb4))] [] [(cOt, .object "java/lang/Object"), (cB4, .int)])) (va_Qi (fun (r : Int32) (_ : Unit) => r = 1) (fun (_ : Unit) (_ : State) => True) (va_A [] sz)) 0 0 (va_A [] sz) := by
  refine Met.ofW (cc := cX7_isReached) (maxL := 3) (ret := (some .boolean)) (by decide) rfl ?_
  intro p e s m args below meth c s₁ B hml hv
  obtain ⟨rfl, hsz, hR0, hP, hK, hD0, hN, hH, hX0⟩ := hv
  have hx := B.exec
  have hb := B.bytes
  have hr := B.returns
  have hts := atoms_spec (ws := wsX7_isReached) B.pre
  have hown : s.vm.findClass RX7 = some m.cls := findClass_of_methodNamed B.named
  have hlocks := B.notSynchronized
  subst hsz
  have hD := hD0.self (sz := s.heap.size)
  have hAr := zx_A hX0 hR0
  generalize hAe : va_A [] s.heap.size = A at hD hAr hH ⊢
  have hA : ∀ q : Nat, s.heap.size ≤ q → A q := fun q h => by rw [← hAe]; exact Or.inr h
  have hS : va_S A s.heap s.heap [] := va_S.rf
  have hl := lv_entry ([.ref mr, .int 4]) (n := 3) (Nat.le_of_ble_eq_true rfl)
  rw [lg_entry_eq]
  generalize (lg_sl ([.ref mr, .int 4]) ++ List.replicate (3 - (lg_sl ([.ref mr, .int 4])).length) Slot.unset).toArray = ls at hl ⊢
  have hl : lv_has ls 3 [(0, .ref mr), (1, .int 4)] := hl
  refine lv_aload_n hx hb dX7_isReached_0 rfl (lv_at hl 0 rfl) ?_
  refine va_get (D := (dC, dI)) (ci := 9) (v := .ref lt) (C := RX7) (T := TX7) (N := 14) hx hb hts zi_X7_isReached_X7 hown hK hR0 0 rfl rfl 1 (by decide) (hts (.fieldLink RX7 18 "LockRoomsModel$Room" "things" "Ljava/util/ArrayList;") (by decide +kernel)) (fun _ h9 => h9) rfl dX7_isReached_1 ?_
  refine lv_iload_n hx hb dX7_isReached_4 rfl (lv_at hl 1 rfl) ?_
  have hPr := (hR0).sub (ws' := [(lt, .inr (1, [.int 10, .ref ota, .int 10])), (ota, .inl (cOt, 10, .inr (.inr (.inr (.inr fot)))))]) [1, 2] rfl
  have hPc := hP.sub (ws' := []) [] rfl
  have hDc := hD.sub (ws' := []) [] (by decide) rfl
  have hKc := hK.sub (tys' := [(cOt, .object "java/lang/Object")]) [0] rfl
  have hFc := va_free (wc := []) hD hS hA [] rfl
  refine va_callr (va_runV (As := [.int 4]) (rest := []) ⟨hx, hb, hml, hown, hts⟩ (cz_Qget_4_10 l dC dI ed s.heap.size lt 10 ota cOt fot ta4 hot4) (cwV 1 hts gX7_isReached_Jx4a65c_get_915e3 rfl rfl rfl (by decide +kernel) ⟨Nat.le_of_ble_eq_true rfl, Nat.le_of_ble_eq_true rfl⟩) ⟨zb_blind, va_recv hK hR0 (ci := 1) (q0 := 1) rfl rfl, fun U hU hW => ⟨rfl, zb_mk hU hW hPr hPc hKc hDc hN hH hS hFc zx_e⟩⟩ rfl rfl hl.1 rfl (lv_room (Nat.le_of_ble_eq_true rfl)) dX7_isReached_5 ⟨Nat.le_of_ble_eq_true rfl, Nat.le_of_ble_eq_true rfl⟩) hS (fun q _ h => hFc q h) hFc (fun u r2 t H1 locs ht hvm hw hB hz1 hk1 hS => ?_)
  obtain ⟨hq3_0, hP1, hD1, hK1⟩ := hB
  rw [ht] at hP1
  obtain ⟨hP, hD⟩ := va_join (wr := []) (w1 := []) hP hD [] [] rfl rfl (by decide) (by decide) hk1 hFc hP1 hD1
  have hP : va_P (dC, dI) vwCl [] H1 := hP
  have hD : va_D A [] := hD
  obtain rfl : ta4 = r2 := hq3_0.symm
  refine va_castA (nm := "[I") hx hb hown (hts (.classLink RX7 46 "[I") (by decide +kernel)) (zo_R hR0 hS hAr) 3 rfl (show s.vm.findClass "[I" = some cB4 from (hK.2 1 _ rfl).2) dX7_isReached_8 ?_
  refine lv_astore_n (lv' := [(2, .ref ta4), (0, .ref mr), (1, .int 4)]) hx hb dX7_isReached_11 rfl hl (by decide) rfl (fun ls hl => ?_)
  refine lv_aload_n hx hb dX7_isReached_12 rfl (lv_at hl 0 rfl) ?_
  refine lv_iconst (v := 3) hx hb dX7_isReached_13 (by decide) ?_
  refine va_iald hx hb hK (zo_R hR0 hS hAr) 3 1 rfl rfl (by unfold vp_in; decide) dX7_isReached_14 ?_
  refine zo_i (v := 0) (by rw [show Int32.toNatClampNeg 3 = 3 from by decide]; exact hb4_3) ?_
  refine lv_if_ne (tgt := 48) hx hb dX7_isReached_15 (by decide) (fun h => absurd h (by decide)) (fun _ => ?_)
  refine lv_aload_n hx hb dX7_isReached_18 rfl (lv_at hl 0 rfl) ?_
  refine lv_iconst (v := 0) hx hb dX7_isReached_19 (by decide) ?_
  refine va_iald hx hb hK (zo_R hR0 hS hAr) 3 1 rfl rfl (by unfold vp_in; decide) dX7_isReached_20 ?_
  refine zo_i (v := (-1)) (by rw [show Int32.toNatClampNeg 0 = 0 from by decide]; exact hb4_0) ?_
  refine lv_iconst (v := (-1)) hx hb dX7_isReached_21 (by decide) ?_
  refine lv_icmp_eq (tgt := 44) hx hb dX7_isReached_22 (by decide) (fun _ => ?_) (fun h => absurd h (by decide))
  refine lv_iconst (v := 1) hx hb dX7_isReached_44 (by decide) ?_
  refine lv_goto (tgt := 49) hx hb dX7_isReached_45 (by decide) ?_
  refine W.widen (k := 0) (n := 0) (Nat.le_of_ble_eq_true rfl) (Nat.le_of_ble_eq_true rfl) ?_
  exact W.zret hx hb hr (by decide) (fun t ht hW => ⟨⟨1, (), rfl, rfl, trivial⟩, hS.F ht⟩) hS.2.2 dX7_isReached_49
set_option maxHeartbeats 4000000 in
set_option maxRecDepth 100000 in
theorem cz_QisReached_5 (l : Launch) (dC : Nat → ClassId) (dI : Nat → Nat → Nat) (ed sz : Nat) (mr : Nat) (ll : Nat) (lt : Nat) (lp : Nat) (ota : Nat) (cOt : ClassId) (fot : Nat → Option Nat) (ta5 : Nat) (cB5 : ClassId) (fb5 : Nat → Int32) (hot5 : fot 5 = some ta5) (hb5_0 : fb5 0 = (-1)) (hb5_3 : fb5 3 = 0) : Met l yX7_isReached wsX7_isReached ({ frames := 3, cells := 0, slots := 0, locals := 64 } : Jvm.Room) (va_Pc [.ref mr, .int 5] (zB dC dI ed sz [(mr, .inr (9, [.ref ll, .ref lt, .ref lp, .int 0, .int 0, .int 0, .int 0, .int 0, .int 0, .int 0, .int (-1), .int 0, .int 0, .int 0])), (lt, .inr (1, [.int 10, .ref ota, .int 10])), (ota, .inl (cOt, 10, .inr (.inr (.inr (.inr fot))))), (ta5, .inl (cB5, 5, .inl fb5))] [] [(cOt, .object "java/lang/Object"), (cB5, .int)])) (va_Qi (fun (r : Int32) (_ : Unit) => r = 1) (fun (_ : Unit) (_ : State) => True) (va_A [] sz)) 0 0 (va_A [] sz) := by
  refine Met.ofW (cc := cX7_isReached) (maxL := 3) (ret := (some .boolean)) (by decide) rfl ?_
  intro p e s m args below meth c s₁ B hml hv
  obtain ⟨rfl, hsz, hR0, hP, hK, hD0, hN, hH, hX0⟩ := hv
  have hx := B.exec
  have hb := B.bytes
  have hr := B.returns
  have hts := atoms_spec (ws := wsX7_isReached) B.pre
  have hown : s.vm.findClass RX7 = some m.cls := findClass_of_methodNamed B.named
  have hlocks := B.notSynchronized
  subst hsz
  have hD := hD0.self (sz := s.heap.size)
  have hAr := zx_A hX0 hR0
  generalize hAe : va_A [] s.heap.size = A at hD hAr hH ⊢
  have hA : ∀ q : Nat, s.heap.size ≤ q → A q := fun q h => by rw [← hAe]; exact Or.inr h
  have hS : va_S A s.heap s.heap [] := va_S.rf
  have hl := lv_entry ([.ref mr, .int 5]) (n := 3) (Nat.le_of_ble_eq_true rfl)
  rw [lg_entry_eq]
  generalize (lg_sl ([.ref mr, .int 5]) ++ List.replicate (3 - (lg_sl ([.ref mr, .int 5])).length) Slot.unset).toArray = ls at hl ⊢
  have hl : lv_has ls 3 [(0, .ref mr), (1, .int 5)] := hl
  refine lv_aload_n hx hb dX7_isReached_0 rfl (lv_at hl 0 rfl) ?_
  refine va_get (D := (dC, dI)) (ci := 9) (v := .ref lt) (C := RX7) (T := TX7) (N := 14) hx hb hts zi_X7_isReached_X7 hown hK hR0 0 rfl rfl 1 (by decide) (hts (.fieldLink RX7 18 "LockRoomsModel$Room" "things" "Ljava/util/ArrayList;") (by decide +kernel)) (fun _ h9 => h9) rfl dX7_isReached_1 ?_
  refine lv_iload_n hx hb dX7_isReached_4 rfl (lv_at hl 1 rfl) ?_
  have hPr := (hR0).sub (ws' := [(lt, .inr (1, [.int 10, .ref ota, .int 10])), (ota, .inl (cOt, 10, .inr (.inr (.inr (.inr fot)))))]) [1, 2] rfl
  have hPc := hP.sub (ws' := []) [] rfl
  have hDc := hD.sub (ws' := []) [] (by decide) rfl
  have hKc := hK.sub (tys' := [(cOt, .object "java/lang/Object")]) [0] rfl
  have hFc := va_free (wc := []) hD hS hA [] rfl
  refine va_callr (va_runV (As := [.int 5]) (rest := []) ⟨hx, hb, hml, hown, hts⟩ (cz_Qget_5_10 l dC dI ed s.heap.size lt 10 ota cOt fot ta5 hot5) (cwV 1 hts gX7_isReached_Jx4a65c_get_915e3 rfl rfl rfl (by decide +kernel) ⟨Nat.le_of_ble_eq_true rfl, Nat.le_of_ble_eq_true rfl⟩) ⟨zb_blind, va_recv hK hR0 (ci := 1) (q0 := 1) rfl rfl, fun U hU hW => ⟨rfl, zb_mk hU hW hPr hPc hKc hDc hN hH hS hFc zx_e⟩⟩ rfl rfl hl.1 rfl (lv_room (Nat.le_of_ble_eq_true rfl)) dX7_isReached_5 ⟨Nat.le_of_ble_eq_true rfl, Nat.le_of_ble_eq_true rfl⟩) hS (fun q _ h => hFc q h) hFc (fun u r2 t H1 locs ht hvm hw hB hz1 hk1 hS => ?_)
  obtain ⟨hq3_0, hP1, hD1, hK1⟩ := hB
  rw [ht] at hP1
  obtain ⟨hP, hD⟩ := va_join (wr := []) (w1 := []) hP hD [] [] rfl rfl (by decide) (by decide) hk1 hFc hP1 hD1
  have hP : va_P (dC, dI) vwCl [] H1 := hP
  have hD : va_D A [] := hD
  obtain rfl : ta5 = r2 := hq3_0.symm
  refine va_castA (nm := "[I") hx hb hown (hts (.classLink RX7 46 "[I") (by decide +kernel)) (zo_R hR0 hS hAr) 3 rfl (show s.vm.findClass "[I" = some cB5 from (hK.2 1 _ rfl).2) dX7_isReached_8 ?_
  refine lv_astore_n (lv' := [(2, .ref ta5), (0, .ref mr), (1, .int 5)]) hx hb dX7_isReached_11 rfl hl (by decide) rfl (fun ls hl => ?_)
  refine lv_aload_n hx hb dX7_isReached_12 rfl (lv_at hl 0 rfl) ?_
  refine lv_iconst (v := 3) hx hb dX7_isReached_13 (by decide) ?_
  refine va_iald hx hb hK (zo_R hR0 hS hAr) 3 1 rfl rfl (by unfold vp_in; decide) dX7_isReached_14 ?_
  refine zo_i (v := 0) (by rw [show Int32.toNatClampNeg 3 = 3 from by decide]; exact hb5_3) ?_
  refine lv_if_ne (tgt := 48) hx hb dX7_isReached_15 (by decide) (fun h => absurd h (by decide)) (fun _ => ?_)
  refine lv_aload_n hx hb dX7_isReached_18 rfl (lv_at hl 0 rfl) ?_
  refine lv_iconst (v := 0) hx hb dX7_isReached_19 (by decide) ?_
  refine va_iald hx hb hK (zo_R hR0 hS hAr) 3 1 rfl rfl (by unfold vp_in; decide) dX7_isReached_20 ?_
  refine zo_i (v := (-1)) (by rw [show Int32.toNatClampNeg 0 = 0 from by decide]; exact hb5_0) ?_
  refine lv_iconst (v := (-1)) hx hb dX7_isReached_21 (by decide) ?_
  refine lv_icmp_eq (tgt := 44) hx hb dX7_isReached_22 (by decide) (fun _ => ?_) (fun h => absurd h (by decide))
  refine lv_iconst (v := 1) hx hb dX7_isReached_44 (by decide) ?_
  refine lv_goto (tgt := 49) hx hb dX7_isReached_45 (by decide) ?_
  refine W.widen (k := 0) (n := 0) (Nat.le_of_ble_eq_true rfl) (Nat.le_of_ble_eq_true rfl) ?_
  exact W.zret hx hb hr (by decide) (fun t ht hW => ⟨⟨1, (), rfl, rfl, trivial⟩, hS.F ht⟩) hS.2.2 dX7_isReached_49
set_option maxHeartbeats 4000000 in
set_option maxRecDepth 100000 in
theorem cz_QisReached_6 (l : Launch) (dC : Nat → ClassId) (dI : Nat → Nat → Nat) (ed sz : Nat) (mr : Nat) (ll : Nat) (lt : Nat) (lp : Nat) (ota : Nat) (cOt : ClassId) (fot : Nat → Option Nat) (ta6 : Nat) (cB6 : ClassId) (fb6 : Nat → Int32) (hot6 : fot 6 = some ta6) (hb6_0 : fb6 0 = (-1)) (hb6_3 : fb6 3 = 0) : Met l yX7_isReached wsX7_isReached ({ frames := 3, cells := 0, slots := 0, locals := 64 } : Jvm.Room) (va_Pc [.ref mr, .int 6] (zB dC dI ed sz [(mr, .inr (9, [.ref ll, .ref lt, .ref lp, .int 0, .int 0, .int 0, .int 0, .int 0, .int 0, .int 0, .int (-1), .int 0, .int 0, .int 0])), (lt, .inr (1, [.int 10, .ref ota, .int 10])), (ota, .inl (cOt, 10, .inr (.inr (.inr (.inr fot))))), (ta6, .inl (cB6, 5, .inl fb6))] [] [(cOt, .object "java/lang/Object"), (cB6, .int)])) (va_Qi (fun (r : Int32) (_ : Unit) => r = 1) (fun (_ : Unit) (_ : State) => True) (va_A [] sz)) 0 0 (va_A [] sz) := by
  refine Met.ofW (cc := cX7_isReached) (maxL := 3) (ret := (some .boolean)) (by decide) rfl ?_
  intro p e s m args below meth c s₁ B hml hv
  obtain ⟨rfl, hsz, hR0, hP, hK, hD0, hN, hH, hX0⟩ := hv
  have hx := B.exec
  have hb := B.bytes
  have hr := B.returns
  have hts := atoms_spec (ws := wsX7_isReached) B.pre
  have hown : s.vm.findClass RX7 = some m.cls := findClass_of_methodNamed B.named
  have hlocks := B.notSynchronized
  subst hsz
  have hD := hD0.self (sz := s.heap.size)
  have hAr := zx_A hX0 hR0
  generalize hAe : va_A [] s.heap.size = A at hD hAr hH ⊢
  have hA : ∀ q : Nat, s.heap.size ≤ q → A q := fun q h => by rw [← hAe]; exact Or.inr h
  have hS : va_S A s.heap s.heap [] := va_S.rf
  have hl := lv_entry ([.ref mr, .int 6]) (n := 3) (Nat.le_of_ble_eq_true rfl)
  rw [lg_entry_eq]
  generalize (lg_sl ([.ref mr, .int 6]) ++ List.replicate (3 - (lg_sl ([.ref mr, .int 6])).length) Slot.unset).toArray = ls at hl ⊢
  have hl : lv_has ls 3 [(0, .ref mr), (1, .int 6)] := hl
  refine lv_aload_n hx hb dX7_isReached_0 rfl (lv_at hl 0 rfl) ?_
  refine va_get (D := (dC, dI)) (ci := 9) (v := .ref lt) (C := RX7) (T := TX7) (N := 14) hx hb hts zi_X7_isReached_X7 hown hK hR0 0 rfl rfl 1 (by decide) (hts (.fieldLink RX7 18 "LockRoomsModel$Room" "things" "Ljava/util/ArrayList;") (by decide +kernel)) (fun _ h9 => h9) rfl dX7_isReached_1 ?_
  refine lv_iload_n hx hb dX7_isReached_4 rfl (lv_at hl 1 rfl) ?_
  have hPr := (hR0).sub (ws' := [(lt, .inr (1, [.int 10, .ref ota, .int 10])), (ota, .inl (cOt, 10, .inr (.inr (.inr (.inr fot)))))]) [1, 2] rfl
  have hPc := hP.sub (ws' := []) [] rfl
  have hDc := hD.sub (ws' := []) [] (by decide) rfl
  have hKc := hK.sub (tys' := [(cOt, .object "java/lang/Object")]) [0] rfl
  have hFc := va_free (wc := []) hD hS hA [] rfl
  refine va_callr (va_runV (As := [.int 6]) (rest := []) ⟨hx, hb, hml, hown, hts⟩ (cz_Qget_6_10 l dC dI ed s.heap.size lt 10 ota cOt fot ta6 hot6) (cwV 1 hts gX7_isReached_Jx4a65c_get_915e3 rfl rfl rfl (by decide +kernel) ⟨Nat.le_of_ble_eq_true rfl, Nat.le_of_ble_eq_true rfl⟩) ⟨zb_blind, va_recv hK hR0 (ci := 1) (q0 := 1) rfl rfl, fun U hU hW => ⟨rfl, zb_mk hU hW hPr hPc hKc hDc hN hH hS hFc zx_e⟩⟩ rfl rfl hl.1 rfl (lv_room (Nat.le_of_ble_eq_true rfl)) dX7_isReached_5 ⟨Nat.le_of_ble_eq_true rfl, Nat.le_of_ble_eq_true rfl⟩) hS (fun q _ h => hFc q h) hFc (fun u r2 t H1 locs ht hvm hw hB hz1 hk1 hS => ?_)
  obtain ⟨hq3_0, hP1, hD1, hK1⟩ := hB
  rw [ht] at hP1
  obtain ⟨hP, hD⟩ := va_join (wr := []) (w1 := []) hP hD [] [] rfl rfl (by decide) (by decide) hk1 hFc hP1 hD1
  have hP : va_P (dC, dI) vwCl [] H1 := hP
  have hD : va_D A [] := hD
  obtain rfl : ta6 = r2 := hq3_0.symm
  refine va_castA (nm := "[I") hx hb hown (hts (.classLink RX7 46 "[I") (by decide +kernel)) (zo_R hR0 hS hAr) 3 rfl (show s.vm.findClass "[I" = some cB6 from (hK.2 1 _ rfl).2) dX7_isReached_8 ?_
  refine lv_astore_n (lv' := [(2, .ref ta6), (0, .ref mr), (1, .int 6)]) hx hb dX7_isReached_11 rfl hl (by decide) rfl (fun ls hl => ?_)
  refine lv_aload_n hx hb dX7_isReached_12 rfl (lv_at hl 0 rfl) ?_
  refine lv_iconst (v := 3) hx hb dX7_isReached_13 (by decide) ?_
  refine va_iald hx hb hK (zo_R hR0 hS hAr) 3 1 rfl rfl (by unfold vp_in; decide) dX7_isReached_14 ?_
  refine zo_i (v := 0) (by rw [show Int32.toNatClampNeg 3 = 3 from by decide]; exact hb6_3) ?_
  refine lv_if_ne (tgt := 48) hx hb dX7_isReached_15 (by decide) (fun h => absurd h (by decide)) (fun _ => ?_)
  refine lv_aload_n hx hb dX7_isReached_18 rfl (lv_at hl 0 rfl) ?_
  refine lv_iconst (v := 0) hx hb dX7_isReached_19 (by decide) ?_
  refine va_iald hx hb hK (zo_R hR0 hS hAr) 3 1 rfl rfl (by unfold vp_in; decide) dX7_isReached_20 ?_
  refine zo_i (v := (-1)) (by rw [show Int32.toNatClampNeg 0 = 0 from by decide]; exact hb6_0) ?_
  refine lv_iconst (v := (-1)) hx hb dX7_isReached_21 (by decide) ?_
  refine lv_icmp_eq (tgt := 44) hx hb dX7_isReached_22 (by decide) (fun _ => ?_) (fun h => absurd h (by decide))
  refine lv_iconst (v := 1) hx hb dX7_isReached_44 (by decide) ?_
  refine lv_goto (tgt := 49) hx hb dX7_isReached_45 (by decide) ?_
  refine W.widen (k := 0) (n := 0) (Nat.le_of_ble_eq_true rfl) (Nat.le_of_ble_eq_true rfl) ?_
  exact W.zret hx hb hr (by decide) (fun t ht hW => ⟨⟨1, (), rfl, rfl, trivial⟩, hS.F ht⟩) hS.2.2 dX7_isReached_49
set_option maxHeartbeats 4000000 in
set_option maxRecDepth 100000 in
theorem cz_QisReached_7 (l : Launch) (dC : Nat → ClassId) (dI : Nat → Nat → Nat) (ed sz : Nat) (mr : Nat) (ll : Nat) (lt : Nat) (lp : Nat) (ota : Nat) (cOt : ClassId) (fot : Nat → Option Nat) (ta7 : Nat) (cB7 : ClassId) (fb7 : Nat → Int32) (hot7 : fot 7 = some ta7) (hb7_0 : fb7 0 = (-1)) (hb7_3 : fb7 3 = 0) : Met l yX7_isReached wsX7_isReached ({ frames := 3, cells := 0, slots := 0, locals := 64 } : Jvm.Room) (va_Pc [.ref mr, .int 7] (zB dC dI ed sz [(mr, .inr (9, [.ref ll, .ref lt, .ref lp, .int 0, .int 0, .int 0, .int 0, .int 0, .int 0, .int 0, .int (-1), .int 0, .int 0, .int 0])), (lt, .inr (1, [.int 10, .ref ota, .int 10])), (ota, .inl (cOt, 10, .inr (.inr (.inr (.inr fot))))), (ta7, .inl (cB7, 5, .inl fb7))] [] [(cOt, .object "java/lang/Object"), (cB7, .int)])) (va_Qi (fun (r : Int32) (_ : Unit) => r = 1) (fun (_ : Unit) (_ : State) => True) (va_A [] sz)) 0 0 (va_A [] sz) := by
  refine Met.ofW (cc := cX7_isReached) (maxL := 3) (ret := (some .boolean)) (by decide) rfl ?_
  intro p e s m args below meth c s₁ B hml hv
  obtain ⟨rfl, hsz, hR0, hP, hK, hD0, hN, hH, hX0⟩ := hv
  have hx := B.exec
  have hb := B.bytes
  have hr := B.returns
  have hts := atoms_spec (ws := wsX7_isReached) B.pre
  have hown : s.vm.findClass RX7 = some m.cls := findClass_of_methodNamed B.named
  have hlocks := B.notSynchronized
  subst hsz
  have hD := hD0.self (sz := s.heap.size)
  have hAr := zx_A hX0 hR0
  generalize hAe : va_A [] s.heap.size = A at hD hAr hH ⊢
  have hA : ∀ q : Nat, s.heap.size ≤ q → A q := fun q h => by rw [← hAe]; exact Or.inr h
  have hS : va_S A s.heap s.heap [] := va_S.rf
  have hl := lv_entry ([.ref mr, .int 7]) (n := 3) (Nat.le_of_ble_eq_true rfl)
  rw [lg_entry_eq]
  generalize (lg_sl ([.ref mr, .int 7]) ++ List.replicate (3 - (lg_sl ([.ref mr, .int 7])).length) Slot.unset).toArray = ls at hl ⊢
  have hl : lv_has ls 3 [(0, .ref mr), (1, .int 7)] := hl
  refine lv_aload_n hx hb dX7_isReached_0 rfl (lv_at hl 0 rfl) ?_
  refine va_get (D := (dC, dI)) (ci := 9) (v := .ref lt) (C := RX7) (T := TX7) (N := 14) hx hb hts zi_X7_isReached_X7 hown hK hR0 0 rfl rfl 1 (by decide) (hts (.fieldLink RX7 18 "LockRoomsModel$Room" "things" "Ljava/util/ArrayList;") (by decide +kernel)) (fun _ h9 => h9) rfl dX7_isReached_1 ?_
  refine lv_iload_n hx hb dX7_isReached_4 rfl (lv_at hl 1 rfl) ?_
  have hPr := (hR0).sub (ws' := [(lt, .inr (1, [.int 10, .ref ota, .int 10])), (ota, .inl (cOt, 10, .inr (.inr (.inr (.inr fot)))))]) [1, 2] rfl
  have hPc := hP.sub (ws' := []) [] rfl
  have hDc := hD.sub (ws' := []) [] (by decide) rfl
  have hKc := hK.sub (tys' := [(cOt, .object "java/lang/Object")]) [0] rfl
  have hFc := va_free (wc := []) hD hS hA [] rfl
  refine va_callr (va_runV (As := [.int 7]) (rest := []) ⟨hx, hb, hml, hown, hts⟩ (cz_Qget_7_10 l dC dI ed s.heap.size lt 10 ota cOt fot ta7 hot7) (cwV 1 hts gX7_isReached_Jx4a65c_get_915e3 rfl rfl rfl (by decide +kernel) ⟨Nat.le_of_ble_eq_true rfl, Nat.le_of_ble_eq_true rfl⟩) ⟨zb_blind, va_recv hK hR0 (ci := 1) (q0 := 1) rfl rfl, fun U hU hW => ⟨rfl, zb_mk hU hW hPr hPc hKc hDc hN hH hS hFc zx_e⟩⟩ rfl rfl hl.1 rfl (lv_room (Nat.le_of_ble_eq_true rfl)) dX7_isReached_5 ⟨Nat.le_of_ble_eq_true rfl, Nat.le_of_ble_eq_true rfl⟩) hS (fun q _ h => hFc q h) hFc (fun u r2 t H1 locs ht hvm hw hB hz1 hk1 hS => ?_)
  obtain ⟨hq3_0, hP1, hD1, hK1⟩ := hB
  rw [ht] at hP1
  obtain ⟨hP, hD⟩ := va_join (wr := []) (w1 := []) hP hD [] [] rfl rfl (by decide) (by decide) hk1 hFc hP1 hD1
  have hP : va_P (dC, dI) vwCl [] H1 := hP
  have hD : va_D A [] := hD
  obtain rfl : ta7 = r2 := hq3_0.symm
  refine va_castA (nm := "[I") hx hb hown (hts (.classLink RX7 46 "[I") (by decide +kernel)) (zo_R hR0 hS hAr) 3 rfl (show s.vm.findClass "[I" = some cB7 from (hK.2 1 _ rfl).2) dX7_isReached_8 ?_
  refine lv_astore_n (lv' := [(2, .ref ta7), (0, .ref mr), (1, .int 7)]) hx hb dX7_isReached_11 rfl hl (by decide) rfl (fun ls hl => ?_)
  refine lv_aload_n hx hb dX7_isReached_12 rfl (lv_at hl 0 rfl) ?_
  refine lv_iconst (v := 3) hx hb dX7_isReached_13 (by decide) ?_
  refine va_iald hx hb hK (zo_R hR0 hS hAr) 3 1 rfl rfl (by unfold vp_in; decide) dX7_isReached_14 ?_
  refine zo_i (v := 0) (by rw [show Int32.toNatClampNeg 3 = 3 from by decide]; exact hb7_3) ?_
  refine lv_if_ne (tgt := 48) hx hb dX7_isReached_15 (by decide) (fun h => absurd h (by decide)) (fun _ => ?_)
  refine lv_aload_n hx hb dX7_isReached_18 rfl (lv_at hl 0 rfl) ?_
  refine lv_iconst (v := 0) hx hb dX7_isReached_19 (by decide) ?_
  refine va_iald hx hb hK (zo_R hR0 hS hAr) 3 1 rfl rfl (by unfold vp_in; decide) dX7_isReached_20 ?_
  refine zo_i (v := (-1)) (by rw [show Int32.toNatClampNeg 0 = 0 from by decide]; exact hb7_0) ?_
  refine lv_iconst (v := (-1)) hx hb dX7_isReached_21 (by decide) ?_
  refine lv_icmp_eq (tgt := 44) hx hb dX7_isReached_22 (by decide) (fun _ => ?_) (fun h => absurd h (by decide))
  refine lv_iconst (v := 1) hx hb dX7_isReached_44 (by decide) ?_
  refine lv_goto (tgt := 49) hx hb dX7_isReached_45 (by decide) ?_
  refine W.widen (k := 0) (n := 0) (Nat.le_of_ble_eq_true rfl) (Nat.le_of_ble_eq_true rfl) ?_
  exact W.zret hx hb hr (by decide) (fun t ht hW => ⟨⟨1, (), rfl, rfl, trivial⟩, hS.F ht⟩) hS.2.2 dX7_isReached_49
set_option maxHeartbeats 4000000 in
set_option maxRecDepth 100000 in
theorem cz_QisReached_8 (l : Launch) (dC : Nat → ClassId) (dI : Nat → Nat → Nat) (ed sz : Nat) (mr : Nat) (ll : Nat) (lt : Nat) (lp : Nat) (ota : Nat) (cOt : ClassId) (fot : Nat → Option Nat) (ta8 : Nat) (cB8 : ClassId) (fb8 : Nat → Int32) (hot8 : fot 8 = some ta8) (hb8_0 : fb8 0 = (-1)) (hb8_3 : fb8 3 = 0) : Met l yX7_isReached wsX7_isReached ({ frames := 3, cells := 0, slots := 0, locals := 64 } : Jvm.Room) (va_Pc [.ref mr, .int 8] (zB dC dI ed sz [(mr, .inr (9, [.ref ll, .ref lt, .ref lp, .int 0, .int 0, .int 0, .int 0, .int 0, .int 0, .int 0, .int (-1), .int 0, .int 0, .int 0])), (lt, .inr (1, [.int 10, .ref ota, .int 10])), (ota, .inl (cOt, 10, .inr (.inr (.inr (.inr fot))))), (ta8, .inl (cB8, 5, .inl fb8))] [] [(cOt, .object "java/lang/Object"), (cB8, .int)])) (va_Qi (fun (r : Int32) (_ : Unit) => r = 1) (fun (_ : Unit) (_ : State) => True) (va_A [] sz)) 0 0 (va_A [] sz) := by
  refine Met.ofW (cc := cX7_isReached) (maxL := 3) (ret := (some .boolean)) (by decide) rfl ?_
  intro p e s m args below meth c s₁ B hml hv
  obtain ⟨rfl, hsz, hR0, hP, hK, hD0, hN, hH, hX0⟩ := hv
  have hx := B.exec
  have hb := B.bytes
  have hr := B.returns
  have hts := atoms_spec (ws := wsX7_isReached) B.pre
  have hown : s.vm.findClass RX7 = some m.cls := findClass_of_methodNamed B.named
  have hlocks := B.notSynchronized
  subst hsz
  have hD := hD0.self (sz := s.heap.size)
  have hAr := zx_A hX0 hR0
  generalize hAe : va_A [] s.heap.size = A at hD hAr hH ⊢
  have hA : ∀ q : Nat, s.heap.size ≤ q → A q := fun q h => by rw [← hAe]; exact Or.inr h
  have hS : va_S A s.heap s.heap [] := va_S.rf
  have hl := lv_entry ([.ref mr, .int 8]) (n := 3) (Nat.le_of_ble_eq_true rfl)
  rw [lg_entry_eq]
  generalize (lg_sl ([.ref mr, .int 8]) ++ List.replicate (3 - (lg_sl ([.ref mr, .int 8])).length) Slot.unset).toArray = ls at hl ⊢
  have hl : lv_has ls 3 [(0, .ref mr), (1, .int 8)] := hl
  refine lv_aload_n hx hb dX7_isReached_0 rfl (lv_at hl 0 rfl) ?_
  refine va_get (D := (dC, dI)) (ci := 9) (v := .ref lt) (C := RX7) (T := TX7) (N := 14) hx hb hts zi_X7_isReached_X7 hown hK hR0 0 rfl rfl 1 (by decide) (hts (.fieldLink RX7 18 "LockRoomsModel$Room" "things" "Ljava/util/ArrayList;") (by decide +kernel)) (fun _ h9 => h9) rfl dX7_isReached_1 ?_
  refine lv_iload_n hx hb dX7_isReached_4 rfl (lv_at hl 1 rfl) ?_
  have hPr := (hR0).sub (ws' := [(lt, .inr (1, [.int 10, .ref ota, .int 10])), (ota, .inl (cOt, 10, .inr (.inr (.inr (.inr fot)))))]) [1, 2] rfl
  have hPc := hP.sub (ws' := []) [] rfl
  have hDc := hD.sub (ws' := []) [] (by decide) rfl
  have hKc := hK.sub (tys' := [(cOt, .object "java/lang/Object")]) [0] rfl
  have hFc := va_free (wc := []) hD hS hA [] rfl
  refine va_callr (va_runV (As := [.int 8]) (rest := []) ⟨hx, hb, hml, hown, hts⟩ (cz_Qget_8_10 l dC dI ed s.heap.size lt 10 ota cOt fot ta8 hot8) (cwV 1 hts gX7_isReached_Jx4a65c_get_915e3 rfl rfl rfl (by decide +kernel) ⟨Nat.le_of_ble_eq_true rfl, Nat.le_of_ble_eq_true rfl⟩) ⟨zb_blind, va_recv hK hR0 (ci := 1) (q0 := 1) rfl rfl, fun U hU hW => ⟨rfl, zb_mk hU hW hPr hPc hKc hDc hN hH hS hFc zx_e⟩⟩ rfl rfl hl.1 rfl (lv_room (Nat.le_of_ble_eq_true rfl)) dX7_isReached_5 ⟨Nat.le_of_ble_eq_true rfl, Nat.le_of_ble_eq_true rfl⟩) hS (fun q _ h => hFc q h) hFc (fun u r2 t H1 locs ht hvm hw hB hz1 hk1 hS => ?_)
  obtain ⟨hq3_0, hP1, hD1, hK1⟩ := hB
  rw [ht] at hP1
  obtain ⟨hP, hD⟩ := va_join (wr := []) (w1 := []) hP hD [] [] rfl rfl (by decide) (by decide) hk1 hFc hP1 hD1
  have hP : va_P (dC, dI) vwCl [] H1 := hP
  have hD : va_D A [] := hD
  obtain rfl : ta8 = r2 := hq3_0.symm
  refine va_castA (nm := "[I") hx hb hown (hts (.classLink RX7 46 "[I") (by decide +kernel)) (zo_R hR0 hS hAr) 3 rfl (show s.vm.findClass "[I" = some cB8 from (hK.2 1 _ rfl).2) dX7_isReached_8 ?_
  refine lv_astore_n (lv' := [(2, .ref ta8), (0, .ref mr), (1, .int 8)]) hx hb dX7_isReached_11 rfl hl (by decide) rfl (fun ls hl => ?_)
  refine lv_aload_n hx hb dX7_isReached_12 rfl (lv_at hl 0 rfl) ?_
  refine lv_iconst (v := 3) hx hb dX7_isReached_13 (by decide) ?_
  refine va_iald hx hb hK (zo_R hR0 hS hAr) 3 1 rfl rfl (by unfold vp_in; decide) dX7_isReached_14 ?_
  refine zo_i (v := 0) (by rw [show Int32.toNatClampNeg 3 = 3 from by decide]; exact hb8_3) ?_
  refine lv_if_ne (tgt := 48) hx hb dX7_isReached_15 (by decide) (fun h => absurd h (by decide)) (fun _ => ?_)
  refine lv_aload_n hx hb dX7_isReached_18 rfl (lv_at hl 0 rfl) ?_
  refine lv_iconst (v := 0) hx hb dX7_isReached_19 (by decide) ?_
  refine va_iald hx hb hK (zo_R hR0 hS hAr) 3 1 rfl rfl (by unfold vp_in; decide) dX7_isReached_20 ?_
  refine zo_i (v := (-1)) (by rw [show Int32.toNatClampNeg 0 = 0 from by decide]; exact hb8_0) ?_
  refine lv_iconst (v := (-1)) hx hb dX7_isReached_21 (by decide) ?_
  refine lv_icmp_eq (tgt := 44) hx hb dX7_isReached_22 (by decide) (fun _ => ?_) (fun h => absurd h (by decide))
  refine lv_iconst (v := 1) hx hb dX7_isReached_44 (by decide) ?_
  refine lv_goto (tgt := 49) hx hb dX7_isReached_45 (by decide) ?_
  refine W.widen (k := 0) (n := 0) (Nat.le_of_ble_eq_true rfl) (Nat.le_of_ble_eq_true rfl) ?_
  exact W.zret hx hb hr (by decide) (fun t ht hW => ⟨⟨1, (), rfl, rfl, trivial⟩, hS.F ht⟩) hS.2.2 dX7_isReached_49
set_option maxHeartbeats 4000000 in
set_option maxRecDepth 100000 in
theorem cz_QisReached_9 (l : Launch) (dC : Nat → ClassId) (dI : Nat → Nat → Nat) (ed sz : Nat) (mr : Nat) (ll : Nat) (lt : Nat) (lp : Nat) (ota : Nat) (cOt : ClassId) (fot : Nat → Option Nat) (ta9 : Nat) (cB9 : ClassId) (fb9 : Nat → Int32) (hot9 : fot 9 = some ta9) (hb9_0 : fb9 0 = (-1)) (hb9_3 : fb9 3 = 0) : Met l yX7_isReached wsX7_isReached ({ frames := 3, cells := 0, slots := 0, locals := 64 } : Jvm.Room) (va_Pc [.ref mr, .int 9] (zB dC dI ed sz [(mr, .inr (9, [.ref ll, .ref lt, .ref lp, .int 0, .int 0, .int 0, .int 0, .int 0, .int 0, .int 0, .int (-1), .int 0, .int 0, .int 0])), (lt, .inr (1, [.int 10, .ref ota, .int 10])), (ota, .inl (cOt, 10, .inr (.inr (.inr (.inr fot))))), (ta9, .inl (cB9, 5, .inl fb9))] [] [(cOt, .object "java/lang/Object"), (cB9, .int)])) (va_Qi (fun (r : Int32) (_ : Unit) => r = 1) (fun (_ : Unit) (_ : State) => True) (va_A [] sz)) 0 0 (va_A [] sz) := by
  refine Met.ofW (cc := cX7_isReached) (maxL := 3) (ret := (some .boolean)) (by decide) rfl ?_
  intro p e s m args below meth c s₁ B hml hv
  obtain ⟨rfl, hsz, hR0, hP, hK, hD0, hN, hH, hX0⟩ := hv
  have hx := B.exec
  have hb := B.bytes
  have hr := B.returns
  have hts := atoms_spec (ws := wsX7_isReached) B.pre
  have hown : s.vm.findClass RX7 = some m.cls := findClass_of_methodNamed B.named
  have hlocks := B.notSynchronized
  subst hsz
  have hD := hD0.self (sz := s.heap.size)
  have hAr := zx_A hX0 hR0
  generalize hAe : va_A [] s.heap.size = A at hD hAr hH ⊢
  have hA : ∀ q : Nat, s.heap.size ≤ q → A q := fun q h => by rw [← hAe]; exact Or.inr h
  have hS : va_S A s.heap s.heap [] := va_S.rf
  have hl := lv_entry ([.ref mr, .int 9]) (n := 3) (Nat.le_of_ble_eq_true rfl)
  rw [lg_entry_eq]
  generalize (lg_sl ([.ref mr, .int 9]) ++ List.replicate (3 - (lg_sl ([.ref mr, .int 9])).length) Slot.unset).toArray = ls at hl ⊢
  have hl : lv_has ls 3 [(0, .ref mr), (1, .int 9)] := hl
  refine lv_aload_n hx hb dX7_isReached_0 rfl (lv_at hl 0 rfl) ?_
  refine va_get (D := (dC, dI)) (ci := 9) (v := .ref lt) (C := RX7) (T := TX7) (N := 14) hx hb hts zi_X7_isReached_X7 hown hK hR0 0 rfl rfl 1 (by decide) (hts (.fieldLink RX7 18 "LockRoomsModel$Room" "things" "Ljava/util/ArrayList;") (by decide +kernel)) (fun _ h9 => h9) rfl dX7_isReached_1 ?_
  refine lv_iload_n hx hb dX7_isReached_4 rfl (lv_at hl 1 rfl) ?_
  have hPr := (hR0).sub (ws' := [(lt, .inr (1, [.int 10, .ref ota, .int 10])), (ota, .inl (cOt, 10, .inr (.inr (.inr (.inr fot)))))]) [1, 2] rfl
  have hPc := hP.sub (ws' := []) [] rfl
  have hDc := hD.sub (ws' := []) [] (by decide) rfl
  have hKc := hK.sub (tys' := [(cOt, .object "java/lang/Object")]) [0] rfl
  have hFc := va_free (wc := []) hD hS hA [] rfl
  refine va_callr (va_runV (As := [.int 9]) (rest := []) ⟨hx, hb, hml, hown, hts⟩ (cz_Qget_9_10 l dC dI ed s.heap.size lt 10 ota cOt fot ta9 hot9) (cwV 1 hts gX7_isReached_Jx4a65c_get_915e3 rfl rfl rfl (by decide +kernel) ⟨Nat.le_of_ble_eq_true rfl, Nat.le_of_ble_eq_true rfl⟩) ⟨zb_blind, va_recv hK hR0 (ci := 1) (q0 := 1) rfl rfl, fun U hU hW => ⟨rfl, zb_mk hU hW hPr hPc hKc hDc hN hH hS hFc zx_e⟩⟩ rfl rfl hl.1 rfl (lv_room (Nat.le_of_ble_eq_true rfl)) dX7_isReached_5 ⟨Nat.le_of_ble_eq_true rfl, Nat.le_of_ble_eq_true rfl⟩) hS (fun q _ h => hFc q h) hFc (fun u r2 t H1 locs ht hvm hw hB hz1 hk1 hS => ?_)
  obtain ⟨hq3_0, hP1, hD1, hK1⟩ := hB
  rw [ht] at hP1
  obtain ⟨hP, hD⟩ := va_join (wr := []) (w1 := []) hP hD [] [] rfl rfl (by decide) (by decide) hk1 hFc hP1 hD1
  have hP : va_P (dC, dI) vwCl [] H1 := hP
  have hD : va_D A [] := hD
  obtain rfl : ta9 = r2 := hq3_0.symm
  refine va_castA (nm := "[I") hx hb hown (hts (.classLink RX7 46 "[I") (by decide +kernel)) (zo_R hR0 hS hAr) 3 rfl (show s.vm.findClass "[I" = some cB9 from (hK.2 1 _ rfl).2) dX7_isReached_8 ?_
  refine lv_astore_n (lv' := [(2, .ref ta9), (0, .ref mr), (1, .int 9)]) hx hb dX7_isReached_11 rfl hl (by decide) rfl (fun ls hl => ?_)
  refine lv_aload_n hx hb dX7_isReached_12 rfl (lv_at hl 0 rfl) ?_
  refine lv_iconst (v := 3) hx hb dX7_isReached_13 (by decide) ?_
  refine va_iald hx hb hK (zo_R hR0 hS hAr) 3 1 rfl rfl (by unfold vp_in; decide) dX7_isReached_14 ?_
  refine zo_i (v := 0) (by rw [show Int32.toNatClampNeg 3 = 3 from by decide]; exact hb9_3) ?_
  refine lv_if_ne (tgt := 48) hx hb dX7_isReached_15 (by decide) (fun h => absurd h (by decide)) (fun _ => ?_)
  refine lv_aload_n hx hb dX7_isReached_18 rfl (lv_at hl 0 rfl) ?_
  refine lv_iconst (v := 0) hx hb dX7_isReached_19 (by decide) ?_
  refine va_iald hx hb hK (zo_R hR0 hS hAr) 3 1 rfl rfl (by unfold vp_in; decide) dX7_isReached_20 ?_
  refine zo_i (v := (-1)) (by rw [show Int32.toNatClampNeg 0 = 0 from by decide]; exact hb9_0) ?_
  refine lv_iconst (v := (-1)) hx hb dX7_isReached_21 (by decide) ?_
  refine lv_icmp_eq (tgt := 44) hx hb dX7_isReached_22 (by decide) (fun _ => ?_) (fun h => absurd h (by decide))
  refine lv_iconst (v := 1) hx hb dX7_isReached_44 (by decide) ?_
  refine lv_goto (tgt := 49) hx hb dX7_isReached_45 (by decide) ?_
  refine W.widen (k := 0) (n := 0) (Nat.le_of_ble_eq_true rfl) (Nat.le_of_ble_eq_true rfl) ?_
  exact W.zret hx hb hr (by decide) (fun t ht hW => ⟨⟨1, (), rfl, rfl, trivial⟩, hS.F ht⟩) hS.2.2 dX7_isReached_49
set_option maxHeartbeats 4000000 in
set_option maxRecDepth 100000 in
theorem cz_QatHand (l : Launch) (dC : Nat → ClassId) (dI : Nat → Nat → Nat) (ed sz : Nat) (mr : Nat) (ll : Nat) (lt : Nat) (lp : Nat) (ola : Nat) (cOl : ClassId) (fol : Nat → Option Nat) (la0 : Nat) (la1 : Nat) (cA0 : ClassId) (fa0 : Nat → Int32) (cA1 : ClassId) (fa1 : Nat → Int32) (ota : Nat) (cOt : ClassId) (fot : Nat → Option Nat) (ta0 : Nat) (ta1 : Nat) (ta2 : Nat) (ta3 : Nat) (ta4 : Nat) (ta5 : Nat) (ta6 : Nat) (ta7 : Nat) (ta8 : Nat) (ta9 : Nat) (cB0 : ClassId) (fb0 : Nat → Int32) (y0 : Int32) (cB1 : ClassId) (fb1 : Nat → Int32) (y1 : Int32) (cB2 : ClassId) (fb2 : Nat → Int32) (y2 : Int32) (cB3 : ClassId) (fb3 : Nat → Int32) (y3 : Int32) (cB4 : ClassId) (fb4 : Nat → Int32) (y4 : Int32) (cB5 : ClassId) (fb5 : Nat → Int32) (y5 : Int32) (cB6 : ClassId) (fb6 : Nat → Int32) (y6 : Int32) (cB7 : ClassId) (fb7 : Nat → Int32) (y7 : Int32) (cB8 : ClassId) (fb8 : Nat → Int32) (y8 : Int32) (cB9 : ClassId) (fb9 : Nat → Int32) (y9 : Int32) (x0 : Int32) (x1 : Int32) (hol0 : fol 0 = some la0) (hol1 : fol 1 = some la1) (ha0_1 : fa0 1 = 0) (ha1_1 : fa1 1 = 0) (hot0 : fot 0 = some ta0) (hot1 : fot 1 = some ta1) (hot2 : fot 2 = some ta2) (hot3 : fot 3 = some ta3) (hot4 : fot 4 = some ta4) (hot5 : fot 5 = some ta5) (hot6 : fot 6 = some ta6) (hot7 : fot 7 = some ta7) (hot8 : fot 8 = some ta8) (hot9 : fot 9 = some ta9) (hb0_0 : fb0 0 = (-1)) (hb0_3 : fb0 3 = y0) (hb1_0 : fb1 0 = (-1)) (hb1_3 : fb1 3 = y1) (hb2_0 : fb2 0 = (-1)) (hb2_3 : fb2 3 = y2) (hb3_0 : fb3 0 = (-1)) (hb3_3 : fb3 3 = y3) (hb4_0 : fb4 0 = (-1)) (hb4_3 : fb4 3 = y4) (hb5_0 : fb5 0 = (-1)) (hb5_3 : fb5 3 = y5) (hb6_0 : fb6 0 = (-1)) (hb6_3 : fb6 3 = y6) (hb7_0 : fb7 0 = (-1)) (hb7_3 : fb7 3 = y7) (hb8_0 : fb8 0 = (-1)) (hb8_3 : fb8 3 = y8) (hb9_0 : fb9 0 = (-1)) (hb9_3 : fb9 3 = y9) : Met l yX7_atHand wsX7_atHand ({ frames := 3, cells := 0, slots := 0, locals := 64 } : Jvm.Room) (va_Pc [.ref mr, .int x0, .int x1] (zB dC dI ed sz [(mr, .inr (9, [.ref ll, .ref lt, .ref lp, .int 0, .int 0, .int 0, .int 0, .int 0, .int 0, .int 0, .int (-1), .int 0, .int 0, .int 0])), (ll, .inr (1, [.int 2, .ref ola, .int 2])), (ola, .inl (cOl, 10, .inr (.inr (.inr (.inr fol))))), (la0, .inl (cA0, 10, .inl fa0)), (la1, .inl (cA1, 10, .inl fa1)), (lt, .inr (1, [.int 10, .ref ota, .int 10])), (ota, .inl (cOt, 10, .inr (.inr (.inr (.inr fot))))), (ta0, .inl (cB0, 5, .inl fb0)), (ta1, .inl (cB1, 5, .inl fb1)), (ta2, .inl (cB2, 5, .inl fb2)), (ta3, .inl (cB3, 5, .inl fb3)), (ta4, .inl (cB4, 5, .inl fb4)), (ta5, .inl (cB5, 5, .inl fb5)), (ta6, .inl (cB6, 5, .inl fb6)), (ta7, .inl (cB7, 5, .inl fb7)), (ta8, .inl (cB8, 5, .inl fb8)), (ta9, .inl (cB9, 5, .inl fb9))] [] [(cOl, .object "java/lang/Object"), (cA0, .int), (cA1, .int), (cOt, .object "java/lang/Object"), (cB0, .int), (cB1, .int), (cB2, .int), (cB3, .int), (cB4, .int), (cB5, .int), (cB6, .int), (cB7, .int), (cB8, .int), (cB9, .int)])) (va_Qi (fun (r : Int32) (_ : Unit) => True) (fun (_ : Unit) (_ : State) => True) (va_A [] sz)) 0 0 (va_A [] sz) := by
  refine Met.ofW (cc := cX7_atHand) (maxL := 7) (ret := (some .int)) (by decide) rfl ?_
  intro p e s m args below meth c s₁ B hml hv
  obtain ⟨rfl, hsz, hR0, hP, hK, hD0, hN, hH, hX0⟩ := hv
  have hx := B.exec
  have hb := B.bytes
  have hr := B.returns
  have hts := atoms_spec (ws := wsX7_atHand) B.pre
  have hown : s.vm.findClass RX7 = some m.cls := findClass_of_methodNamed B.named
  have hlocks := B.notSynchronized
  subst hsz
  have hD := hD0.self (sz := s.heap.size)
  have hAr := zx_A hX0 hR0
  generalize hAe : va_A [] s.heap.size = A at hD hAr hH ⊢
  have hA : ∀ q : Nat, s.heap.size ≤ q → A q := fun q h => by rw [← hAe]; exact Or.inr h
  have hS : va_S A s.heap s.heap [] := va_S.rf
  have hl := lv_entry ([.ref mr, .int x0, .int x1]) (n := 7) (Nat.le_of_ble_eq_true rfl)
  rw [lg_entry_eq]
  generalize (lg_sl ([.ref mr, .int x0, .int x1]) ++ List.replicate (7 - (lg_sl ([.ref mr, .int x0, .int x1])).length) Slot.unset).toArray = ls at hl ⊢
  have hl : lv_has ls 7 [(0, .ref mr), (1, .int x0), (2, .int x1)] := hl
  refine lv_iconst (v := 0) hx hb dX7_atHand_0 (by decide) ?_
  refine lv_istore_n (lv' := [(3, .int 0), (0, .ref mr), (1, .int x0), (2, .int x1)]) hx hb dX7_atHand_1 rfl hl (by decide) rfl (fun ls hl => ?_)
  refine lv_iconst (v := 0) hx hb dX7_atHand_2 (by decide) ?_
  refine lv_istore (lv' := [(4, .int 0), (3, .int 0), (0, .ref mr), (1, .int x0), (2, .int x1)]) hx hb dX7_atHand_3 hl (by decide) rfl (fun ls hl => ?_)
  refine zo_loop (fun (i : Nat) (H : Heap) (locs : List Loc) (ls : Array Slot) => ∃ z3 : Int32, va_P (dC, dI) vwCl [] H ∧ va_D A [] ∧ va_S A s.heap H locs ∧ lv_has ls 7 [(4, .int (nI i)), (3, .int z3), (0, .ref mr), (1, .int x0), (2, .int x1)]) 10 ⟨0, hP, hD, hS, (by rw [show nI 0 = (0 : Int32) from by decide]; exact lv_sub hl [0, 1, 2, 3, 4] rfl)⟩ (fun i hi ih H locs ls hI => ?_) (fun H locs ls hI => ?_)
  · rcases (show i = 0 ∨ i = 1 ∨ i = 2 ∨ i = 3 ∨ i = 4 ∨ i = 5 ∨ i = 6 ∨ i = 7 ∨ i = 8 ∨ i = 9 by omega) with rfl | rfl | rfl | rfl | rfl | rfl | rfl | rfl | rfl | rfl
    · obtain ⟨z3, hP, hD, hS, hl⟩ := hI
      have hl : lv_has ls 7 [(4, .int 0), (3, .int z3), (0, .ref mr), (1, .int x0), (2, .int x1)] := by rw [show (0 : Int32) = nI 0 from by decide]; exact hl
      refine lv_iload hx hb dX7_atHand_5 (lv_at hl 0 rfl) ?_
      refine lv_aload_n hx hb dX7_atHand_7 rfl (lv_at hl 2 rfl) ?_
      refine va_get (D := (dC, dI)) (ci := 9) (v := .ref lt) (C := RX7) (T := TX7) (N := 14) hx hb hts zi_X7_atHand_X7 hown hK (zo_R hR0 hS hAr) 0 rfl rfl 1 (by decide) (hts (.fieldLink RX7 18 "LockRoomsModel$Room" "things" "Ljava/util/ArrayList;") (by decide +kernel)) (fun _ h9 => h9) rfl dX7_atHand_8 ?_
      have hPr := ((zo_R hR0 hS hAr)).sub (ws' := [(lt, .inr (1, [.int 10, .ref ota, .int 10]))]) [5] rfl
      have hPc := hP.sub (ws' := []) [] rfl
      have hDc := hD.sub (ws' := []) [] (by decide) rfl
      have hKc := hK.sub (tys' := []) [] rfl
      have hFc := va_free (wc := []) hD hS hA [] rfl
      refine va_calli (va_runV (As := []) (rest := [.int 0]) ⟨hx, hb, hml, hown, hts⟩ (cz_Qsize l dC dI ed H.size lt 10 ota 10) (cwV 0 hts gX7_atHand_Jx4a65c_size_8abf5 rfl rfl rfl (by decide +kernel) ⟨Nat.le_of_ble_eq_true rfl, Nat.le_of_ble_eq_true rfl⟩) ⟨zb_blind, va_recv hK (zo_R hR0 hS hAr) (ci := 1) (q0 := 5) rfl rfl, fun U hU hW => ⟨rfl, zb_mk hU hW hPr hPc hKc hDc hN hH hS hFc zx_e⟩⟩ rfl rfl hl.1 rfl (lv_room (Nat.le_of_ble_eq_true rfl)) dX7_atHand_11 ⟨Nat.le_of_ble_eq_true rfl, Nat.le_of_ble_eq_true rfl⟩) hS (fun q _ h => hFc q h) hFc (fun r2 u t H1 locs ht hvm hw hB hz1 hk1 hS => ?_)
      obtain rfl : r2 = 10 := hw.trans (by decide +kernel)
      have hP := zo_K hP hk1
      refine lv_icmp_ge (tgt := 91) hx hb dX7_atHand_14 (by decide) (fun h => absurd h (by decide)) (fun _ => ?_)
      refine lv_aload_n hx hb dX7_atHand_17 rfl (lv_at hl 2 rfl) ?_
      refine va_get (D := (dC, dI)) (ci := 9) (v := .ref lt) (C := RX7) (T := TX7) (N := 14) hx hb hts zi_X7_atHand_X7 hown hK (zo_R hR0 hS hAr) 0 rfl rfl 1 (by decide) (hts (.fieldLink RX7 18 "LockRoomsModel$Room" "things" "Ljava/util/ArrayList;") (by decide +kernel)) (fun _ h9 => h9) rfl dX7_atHand_18 ?_
      refine lv_iload hx hb dX7_atHand_21 (lv_at hl 0 rfl) ?_
      have hPr := ((zo_R hR0 hS hAr)).sub (ws' := [(lt, .inr (1, [.int 10, .ref ota, .int 10])), (ota, .inl (cOt, 10, .inr (.inr (.inr (.inr fot)))))]) [5, 6] rfl
      have hPc := hP.sub (ws' := []) [] rfl
      have hDc := hD.sub (ws' := []) [] (by decide) rfl
      have hKc := hK.sub (tys' := [(cOt, .object "java/lang/Object")]) [3] rfl
      have hFc := va_free (wc := []) hD hS hA [] rfl
      refine va_callr (va_runV (As := [.int 0]) (rest := []) ⟨hx, hb, hml, hown, hts⟩ (cz_Qget_0_10 l dC dI ed H1.size lt 10 ota cOt fot ta0 hot0) (cwV 1 hts gX7_atHand_Jx4a65c_get_915e3 rfl rfl rfl (by decide +kernel) ⟨Nat.le_of_ble_eq_true rfl, Nat.le_of_ble_eq_true rfl⟩) ⟨zb_blind, va_recv hK (zo_R hR0 hS hAr) (ci := 1) (q0 := 5) rfl rfl, fun U hU hW => ⟨rfl, zb_mk hU hW hPr hPc hKc hDc hN hH hS hFc zx_e⟩⟩ rfl rfl hl.1 rfl (lv_room (Nat.le_of_ble_eq_true rfl)) dX7_atHand_23 ⟨Nat.le_of_ble_eq_true rfl, Nat.le_of_ble_eq_true rfl⟩) hS (fun q _ h => hFc q h) hFc (fun u r4 t H3 locs ht hvm hw hB hz1 hk1 hS => ?_)
      obtain ⟨hq5_0, hP1, hD1, hK1⟩ := hB
      rw [ht] at hP1
      obtain ⟨hP, hD⟩ := va_join (wr := []) (w1 := []) hP hD [] [] rfl rfl (by decide) (by decide) hk1 hFc hP1 hD1
      have hP : va_P (dC, dI) vwCl [] H3 := hP
      have hD : va_D A [] := hD
      obtain rfl : ta0 = r4 := hq5_0.symm
      refine va_castA (nm := "[I") hx hb hown (hts (.classLink RX7 46 "[I") (by decide +kernel)) (zo_R hR0 hS hAr) 7 rfl (show s.vm.findClass "[I" = some cB0 from (hK.2 4 _ rfl).2) dX7_atHand_26 ?_
      refine lv_astore (lv' := [(5, .ref ta0), (4, .int 0), (3, .int z3), (0, .ref mr), (1, .int x0), (2, .int x1)]) hx hb dX7_atHand_29 hl (by decide) rfl (fun ls hl => ?_)
      refine lv_aload hx hb dX7_atHand_31 (lv_at hl 0 rfl) ?_
      refine lv_iconst (v := 3) hx hb dX7_atHand_33 (by decide) ?_
      refine va_iald hx hb hK (zo_R hR0 hS hAr) 7 4 rfl rfl (by unfold vp_in; decide) dX7_atHand_34 ?_
      refine zo_i (v := y0) (by rw [show Int32.toNatClampNeg 3 = 3 from by decide]; exact hb0_3) ?_
      refine lv_if_ne (tgt := 62) hx hb dX7_atHand_35 (by decide) (fun c6 => ?_) (fun c6 => ?_)
      · skip
        refine lv_iconst (v := 0) hx hb dX7_atHand_62 (by decide) ?_
        refine lv_istore (lv' := [(6, .int 0), (5, .ref ta0), (4, .int 0), (3, .int z3), (0, .ref mr), (1, .int x0), (2, .int x1)]) hx hb dX7_atHand_63 hl (by decide) rfl (fun ls hl => ?_)
        refine lv_iload hx hb dX7_atHand_65 (lv_at hl 0 rfl) ?_
        refine lv_if_ne (tgt := 78) hx hb dX7_atHand_67 (by decide) (fun h => absurd h (by decide)) (fun _ => ?_)
        refine lv_aload hx hb dX7_atHand_70 (lv_at hl 1 rfl) ?_
        refine lv_iconst (v := 3) hx hb dX7_atHand_72 (by decide) ?_
        refine va_iald hx hb hK (zo_R hR0 hS hAr) 7 4 rfl rfl (by unfold vp_in; decide) dX7_atHand_73 ?_
        refine zo_i (v := y0) (by rw [show Int32.toNatClampNeg 3 = 3 from by decide]; exact hb0_3) ?_
        refine lv_iconst (v := 1) hx hb dX7_atHand_74 (by decide) ?_
        refine lv_icmp_ne (tgt := 85) hx hb dX7_atHand_75 (by decide) (fun c7 => ?_) (fun c7 => ?_)
        · skip
          refine lv_iinc (v := 1) (lv' := [(4, .int 1), (6, .int 0), (5, .ref ta0), (3, .int z3), (0, .ref mr), (1, .int x0), (2, .int x1)]) hx hb dX7_atHand_85 hl (k := 2) rfl (by decide) (by decide) rfl (fun ls hl => ?_)
          refine lv_goto (tgt := 5) hx hb dX7_atHand_88 (by decide) ?_
          exact ih _ _ _ ⟨z3, hP, hD, hS, (by rw [show nI (0 + 1) = (1 : Int32) from by decide]; exact lv_sub hl [0, 3, 4, 5, 6] rfl)⟩
        · skip
          refine lv_iload_n hx hb dX7_atHand_78 rfl (lv_at hl 3 rfl) ?_
          refine lv_iconst (v := 1) hx hb dX7_atHand_79 (by decide) ?_
          refine lv_iload hx hb dX7_atHand_80 (lv_at hl 2 rfl) ?_
          refine lv_ishl hx hb dX7_atHand_82 ?_
          refine zo_i (v := 1) (by decide) ?_
          refine lv_ior hx hb dX7_atHand_83 ?_
          refine lv_istore_n (lv' := [(3, .int (z3 ||| 1)), (6, .int 0), (5, .ref ta0), (4, .int 0), (0, .ref mr), (1, .int x0), (2, .int x1)]) hx hb dX7_atHand_84 rfl hl (by decide) rfl (fun ls hl => ?_)
          refine lv_iinc (v := 1) (lv' := [(4, .int 1), (3, .int (z3 ||| 1)), (6, .int 0), (5, .ref ta0), (0, .ref mr), (1, .int x0), (2, .int x1)]) hx hb dX7_atHand_85 hl (k := 3) rfl (by decide) (by decide) rfl (fun ls hl => ?_)
          refine lv_goto (tgt := 5) hx hb dX7_atHand_88 (by decide) ?_
          exact ih _ _ _ ⟨(z3 ||| 1), hP, hD, hS, (by rw [show nI (0 + 1) = (1 : Int32) from by decide]; exact lv_sub hl [0, 1, 4, 5, 6] rfl)⟩
      · skip
        refine lv_aload hx hb dX7_atHand_38 (lv_at hl 0 rfl) ?_
        refine lv_iconst (v := 0) hx hb dX7_atHand_40 (by decide) ?_
        refine va_iald hx hb hK (zo_R hR0 hS hAr) 7 4 rfl rfl (by unfold vp_in; decide) dX7_atHand_41 ?_
        refine zo_i (v := (-1)) (by rw [show Int32.toNatClampNeg 0 = 0 from by decide]; exact hb0_0) ?_
        refine lv_iconst (v := (-1)) hx hb dX7_atHand_42 (by decide) ?_
        refine lv_icmp_eq (tgt := 58) hx hb dX7_atHand_43 (by decide) (fun _ => ?_) (fun h => absurd h (by decide))
        refine lv_iconst (v := 1) hx hb dX7_atHand_58 (by decide) ?_
        refine lv_goto (tgt := 63) hx hb dX7_atHand_59 (by decide) ?_
        refine lv_istore (lv' := [(6, .int 1), (5, .ref ta0), (4, .int 0), (3, .int z3), (0, .ref mr), (1, .int x0), (2, .int x1)]) hx hb dX7_atHand_63 hl (by decide) rfl (fun ls hl => ?_)
        refine lv_iload hx hb dX7_atHand_65 (lv_at hl 0 rfl) ?_
        refine lv_if_ne (tgt := 78) hx hb dX7_atHand_67 (by decide) (fun _ => ?_) (fun h => absurd h (by decide))
        refine lv_iload_n hx hb dX7_atHand_78 rfl (lv_at hl 3 rfl) ?_
        refine lv_iconst (v := 1) hx hb dX7_atHand_79 (by decide) ?_
        refine lv_iload hx hb dX7_atHand_80 (lv_at hl 2 rfl) ?_
        refine lv_ishl hx hb dX7_atHand_82 ?_
        refine zo_i (v := 1) (by decide) ?_
        refine lv_ior hx hb dX7_atHand_83 ?_
        refine lv_istore_n (lv' := [(3, .int (z3 ||| 1)), (6, .int 1), (5, .ref ta0), (4, .int 0), (0, .ref mr), (1, .int x0), (2, .int x1)]) hx hb dX7_atHand_84 rfl hl (by decide) rfl (fun ls hl => ?_)
        refine lv_iinc (v := 1) (lv' := [(4, .int 1), (3, .int (z3 ||| 1)), (6, .int 1), (5, .ref ta0), (0, .ref mr), (1, .int x0), (2, .int x1)]) hx hb dX7_atHand_85 hl (k := 3) rfl (by decide) (by decide) rfl (fun ls hl => ?_)
        refine lv_goto (tgt := 5) hx hb dX7_atHand_88 (by decide) ?_
        exact ih _ _ _ ⟨(z3 ||| 1), hP, hD, hS, (by rw [show nI (0 + 1) = (1 : Int32) from by decide]; exact lv_sub hl [0, 1, 4, 5, 6] rfl)⟩
    · obtain ⟨z3, hP, hD, hS, hl⟩ := hI
      have hl : lv_has ls 7 [(4, .int 1), (3, .int z3), (0, .ref mr), (1, .int x0), (2, .int x1)] := by rw [show (1 : Int32) = nI 1 from by decide]; exact hl
      refine lv_iload hx hb dX7_atHand_5 (lv_at hl 0 rfl) ?_
      refine lv_aload_n hx hb dX7_atHand_7 rfl (lv_at hl 2 rfl) ?_
      refine va_get (D := (dC, dI)) (ci := 9) (v := .ref lt) (C := RX7) (T := TX7) (N := 14) hx hb hts zi_X7_atHand_X7 hown hK (zo_R hR0 hS hAr) 0 rfl rfl 1 (by decide) (hts (.fieldLink RX7 18 "LockRoomsModel$Room" "things" "Ljava/util/ArrayList;") (by decide +kernel)) (fun _ h9 => h9) rfl dX7_atHand_8 ?_
      have hPr := ((zo_R hR0 hS hAr)).sub (ws' := [(lt, .inr (1, [.int 10, .ref ota, .int 10]))]) [5] rfl
      have hPc := hP.sub (ws' := []) [] rfl
      have hDc := hD.sub (ws' := []) [] (by decide) rfl
      have hKc := hK.sub (tys' := []) [] rfl
      have hFc := va_free (wc := []) hD hS hA [] rfl
      refine va_calli (va_runV (As := []) (rest := [.int 1]) ⟨hx, hb, hml, hown, hts⟩ (cz_Qsize l dC dI ed H.size lt 10 ota 10) (cwV 0 hts gX7_atHand_Jx4a65c_size_8abf5 rfl rfl rfl (by decide +kernel) ⟨Nat.le_of_ble_eq_true rfl, Nat.le_of_ble_eq_true rfl⟩) ⟨zb_blind, va_recv hK (zo_R hR0 hS hAr) (ci := 1) (q0 := 5) rfl rfl, fun U hU hW => ⟨rfl, zb_mk hU hW hPr hPc hKc hDc hN hH hS hFc zx_e⟩⟩ rfl rfl hl.1 rfl (lv_room (Nat.le_of_ble_eq_true rfl)) dX7_atHand_11 ⟨Nat.le_of_ble_eq_true rfl, Nat.le_of_ble_eq_true rfl⟩) hS (fun q _ h => hFc q h) hFc (fun r9 u t H8 locs ht hvm hw hB hz1 hk1 hS => ?_)
      obtain rfl : r9 = 10 := hw.trans (by decide +kernel)
      have hP := zo_K hP hk1
      refine lv_icmp_ge (tgt := 91) hx hb dX7_atHand_14 (by decide) (fun h => absurd h (by decide)) (fun _ => ?_)
      refine lv_aload_n hx hb dX7_atHand_17 rfl (lv_at hl 2 rfl) ?_
      refine va_get (D := (dC, dI)) (ci := 9) (v := .ref lt) (C := RX7) (T := TX7) (N := 14) hx hb hts zi_X7_atHand_X7 hown hK (zo_R hR0 hS hAr) 0 rfl rfl 1 (by decide) (hts (.fieldLink RX7 18 "LockRoomsModel$Room" "things" "Ljava/util/ArrayList;") (by decide +kernel)) (fun _ h9 => h9) rfl dX7_atHand_18 ?_
      refine lv_iload hx hb dX7_atHand_21 (lv_at hl 0 rfl) ?_
      have hPr := ((zo_R hR0 hS hAr)).sub (ws' := [(lt, .inr (1, [.int 10, .ref ota, .int 10])), (ota, .inl (cOt, 10, .inr (.inr (.inr (.inr fot)))))]) [5, 6] rfl
      have hPc := hP.sub (ws' := []) [] rfl
      have hDc := hD.sub (ws' := []) [] (by decide) rfl
      have hKc := hK.sub (tys' := [(cOt, .object "java/lang/Object")]) [3] rfl
      have hFc := va_free (wc := []) hD hS hA [] rfl
      refine va_callr (va_runV (As := [.int 1]) (rest := []) ⟨hx, hb, hml, hown, hts⟩ (cz_Qget_1_10 l dC dI ed H8.size lt 10 ota cOt fot ta1 hot1) (cwV 1 hts gX7_atHand_Jx4a65c_get_915e3 rfl rfl rfl (by decide +kernel) ⟨Nat.le_of_ble_eq_true rfl, Nat.le_of_ble_eq_true rfl⟩) ⟨zb_blind, va_recv hK (zo_R hR0 hS hAr) (ci := 1) (q0 := 5) rfl rfl, fun U hU hW => ⟨rfl, zb_mk hU hW hPr hPc hKc hDc hN hH hS hFc zx_e⟩⟩ rfl rfl hl.1 rfl (lv_room (Nat.le_of_ble_eq_true rfl)) dX7_atHand_23 ⟨Nat.le_of_ble_eq_true rfl, Nat.le_of_ble_eq_true rfl⟩) hS (fun q _ h => hFc q h) hFc (fun u r11 t H10 locs ht hvm hw hB hz1 hk1 hS => ?_)
      obtain ⟨hq12_0, hP1, hD1, hK1⟩ := hB
      rw [ht] at hP1
      obtain ⟨hP, hD⟩ := va_join (wr := []) (w1 := []) hP hD [] [] rfl rfl (by decide) (by decide) hk1 hFc hP1 hD1
      have hP : va_P (dC, dI) vwCl [] H10 := hP
      have hD : va_D A [] := hD
      obtain rfl : ta1 = r11 := hq12_0.symm
      refine va_castA (nm := "[I") hx hb hown (hts (.classLink RX7 46 "[I") (by decide +kernel)) (zo_R hR0 hS hAr) 8 rfl (show s.vm.findClass "[I" = some cB1 from (hK.2 5 _ rfl).2) dX7_atHand_26 ?_
      refine lv_astore (lv' := [(5, .ref ta1), (4, .int 1), (3, .int z3), (0, .ref mr), (1, .int x0), (2, .int x1)]) hx hb dX7_atHand_29 hl (by decide) rfl (fun ls hl => ?_)
      refine lv_aload hx hb dX7_atHand_31 (lv_at hl 0 rfl) ?_
      refine lv_iconst (v := 3) hx hb dX7_atHand_33 (by decide) ?_
      refine va_iald hx hb hK (zo_R hR0 hS hAr) 8 5 rfl rfl (by unfold vp_in; decide) dX7_atHand_34 ?_
      refine zo_i (v := y1) (by rw [show Int32.toNatClampNeg 3 = 3 from by decide]; exact hb1_3) ?_
      refine lv_if_ne (tgt := 62) hx hb dX7_atHand_35 (by decide) (fun c13 => ?_) (fun c13 => ?_)
      · skip
        refine lv_iconst (v := 0) hx hb dX7_atHand_62 (by decide) ?_
        refine lv_istore (lv' := [(6, .int 0), (5, .ref ta1), (4, .int 1), (3, .int z3), (0, .ref mr), (1, .int x0), (2, .int x1)]) hx hb dX7_atHand_63 hl (by decide) rfl (fun ls hl => ?_)
        refine lv_iload hx hb dX7_atHand_65 (lv_at hl 0 rfl) ?_
        refine lv_if_ne (tgt := 78) hx hb dX7_atHand_67 (by decide) (fun h => absurd h (by decide)) (fun _ => ?_)
        refine lv_aload hx hb dX7_atHand_70 (lv_at hl 1 rfl) ?_
        refine lv_iconst (v := 3) hx hb dX7_atHand_72 (by decide) ?_
        refine va_iald hx hb hK (zo_R hR0 hS hAr) 8 5 rfl rfl (by unfold vp_in; decide) dX7_atHand_73 ?_
        refine zo_i (v := y1) (by rw [show Int32.toNatClampNeg 3 = 3 from by decide]; exact hb1_3) ?_
        refine lv_iconst (v := 1) hx hb dX7_atHand_74 (by decide) ?_
        refine lv_icmp_ne (tgt := 85) hx hb dX7_atHand_75 (by decide) (fun c14 => ?_) (fun c14 => ?_)
        · skip
          refine lv_iinc (v := 2) (lv' := [(4, .int 2), (6, .int 0), (5, .ref ta1), (3, .int z3), (0, .ref mr), (1, .int x0), (2, .int x1)]) hx hb dX7_atHand_85 hl (k := 2) rfl (by decide) (by decide) rfl (fun ls hl => ?_)
          refine lv_goto (tgt := 5) hx hb dX7_atHand_88 (by decide) ?_
          exact ih _ _ _ ⟨z3, hP, hD, hS, (by rw [show nI (1 + 1) = (2 : Int32) from by decide]; exact lv_sub hl [0, 3, 4, 5, 6] rfl)⟩
        · skip
          refine lv_iload_n hx hb dX7_atHand_78 rfl (lv_at hl 3 rfl) ?_
          refine lv_iconst (v := 1) hx hb dX7_atHand_79 (by decide) ?_
          refine lv_iload hx hb dX7_atHand_80 (lv_at hl 2 rfl) ?_
          refine lv_ishl hx hb dX7_atHand_82 ?_
          refine zo_i (v := 2) (by decide) ?_
          refine lv_ior hx hb dX7_atHand_83 ?_
          refine lv_istore_n (lv' := [(3, .int (z3 ||| 2)), (6, .int 0), (5, .ref ta1), (4, .int 1), (0, .ref mr), (1, .int x0), (2, .int x1)]) hx hb dX7_atHand_84 rfl hl (by decide) rfl (fun ls hl => ?_)
          refine lv_iinc (v := 2) (lv' := [(4, .int 2), (3, .int (z3 ||| 2)), (6, .int 0), (5, .ref ta1), (0, .ref mr), (1, .int x0), (2, .int x1)]) hx hb dX7_atHand_85 hl (k := 3) rfl (by decide) (by decide) rfl (fun ls hl => ?_)
          refine lv_goto (tgt := 5) hx hb dX7_atHand_88 (by decide) ?_
          exact ih _ _ _ ⟨(z3 ||| 2), hP, hD, hS, (by rw [show nI (1 + 1) = (2 : Int32) from by decide]; exact lv_sub hl [0, 1, 4, 5, 6] rfl)⟩
      · skip
        refine lv_aload hx hb dX7_atHand_38 (lv_at hl 0 rfl) ?_
        refine lv_iconst (v := 0) hx hb dX7_atHand_40 (by decide) ?_
        refine va_iald hx hb hK (zo_R hR0 hS hAr) 8 5 rfl rfl (by unfold vp_in; decide) dX7_atHand_41 ?_
        refine zo_i (v := (-1)) (by rw [show Int32.toNatClampNeg 0 = 0 from by decide]; exact hb1_0) ?_
        refine lv_iconst (v := (-1)) hx hb dX7_atHand_42 (by decide) ?_
        refine lv_icmp_eq (tgt := 58) hx hb dX7_atHand_43 (by decide) (fun _ => ?_) (fun h => absurd h (by decide))
        refine lv_iconst (v := 1) hx hb dX7_atHand_58 (by decide) ?_
        refine lv_goto (tgt := 63) hx hb dX7_atHand_59 (by decide) ?_
        refine lv_istore (lv' := [(6, .int 1), (5, .ref ta1), (4, .int 1), (3, .int z3), (0, .ref mr), (1, .int x0), (2, .int x1)]) hx hb dX7_atHand_63 hl (by decide) rfl (fun ls hl => ?_)
        refine lv_iload hx hb dX7_atHand_65 (lv_at hl 0 rfl) ?_
        refine lv_if_ne (tgt := 78) hx hb dX7_atHand_67 (by decide) (fun _ => ?_) (fun h => absurd h (by decide))
        refine lv_iload_n hx hb dX7_atHand_78 rfl (lv_at hl 3 rfl) ?_
        refine lv_iconst (v := 1) hx hb dX7_atHand_79 (by decide) ?_
        refine lv_iload hx hb dX7_atHand_80 (lv_at hl 2 rfl) ?_
        refine lv_ishl hx hb dX7_atHand_82 ?_
        refine zo_i (v := 2) (by decide) ?_
        refine lv_ior hx hb dX7_atHand_83 ?_
        refine lv_istore_n (lv' := [(3, .int (z3 ||| 2)), (6, .int 1), (5, .ref ta1), (4, .int 1), (0, .ref mr), (1, .int x0), (2, .int x1)]) hx hb dX7_atHand_84 rfl hl (by decide) rfl (fun ls hl => ?_)
        refine lv_iinc (v := 2) (lv' := [(4, .int 2), (3, .int (z3 ||| 2)), (6, .int 1), (5, .ref ta1), (0, .ref mr), (1, .int x0), (2, .int x1)]) hx hb dX7_atHand_85 hl (k := 3) rfl (by decide) (by decide) rfl (fun ls hl => ?_)
        refine lv_goto (tgt := 5) hx hb dX7_atHand_88 (by decide) ?_
        exact ih _ _ _ ⟨(z3 ||| 2), hP, hD, hS, (by rw [show nI (1 + 1) = (2 : Int32) from by decide]; exact lv_sub hl [0, 1, 4, 5, 6] rfl)⟩
    · obtain ⟨z3, hP, hD, hS, hl⟩ := hI
      have hl : lv_has ls 7 [(4, .int 2), (3, .int z3), (0, .ref mr), (1, .int x0), (2, .int x1)] := by rw [show (2 : Int32) = nI 2 from by decide]; exact hl
      refine lv_iload hx hb dX7_atHand_5 (lv_at hl 0 rfl) ?_
      refine lv_aload_n hx hb dX7_atHand_7 rfl (lv_at hl 2 rfl) ?_
      refine va_get (D := (dC, dI)) (ci := 9) (v := .ref lt) (C := RX7) (T := TX7) (N := 14) hx hb hts zi_X7_atHand_X7 hown hK (zo_R hR0 hS hAr) 0 rfl rfl 1 (by decide) (hts (.fieldLink RX7 18 "LockRoomsModel$Room" "things" "Ljava/util/ArrayList;") (by decide +kernel)) (fun _ h9 => h9) rfl dX7_atHand_8 ?_
      have hPr := ((zo_R hR0 hS hAr)).sub (ws' := [(lt, .inr (1, [.int 10, .ref ota, .int 10]))]) [5] rfl
      have hPc := hP.sub (ws' := []) [] rfl
      have hDc := hD.sub (ws' := []) [] (by decide) rfl
      have hKc := hK.sub (tys' := []) [] rfl
      have hFc := va_free (wc := []) hD hS hA [] rfl
      refine va_calli (va_runV (As := []) (rest := [.int 2]) ⟨hx, hb, hml, hown, hts⟩ (cz_Qsize l dC dI ed H.size lt 10 ota 10) (cwV 0 hts gX7_atHand_Jx4a65c_size_8abf5 rfl rfl rfl (by decide +kernel) ⟨Nat.le_of_ble_eq_true rfl, Nat.le_of_ble_eq_true rfl⟩) ⟨zb_blind, va_recv hK (zo_R hR0 hS hAr) (ci := 1) (q0 := 5) rfl rfl, fun U hU hW => ⟨rfl, zb_mk hU hW hPr hPc hKc hDc hN hH hS hFc zx_e⟩⟩ rfl rfl hl.1 rfl (lv_room (Nat.le_of_ble_eq_true rfl)) dX7_atHand_11 ⟨Nat.le_of_ble_eq_true rfl, Nat.le_of_ble_eq_true rfl⟩) hS (fun q _ h => hFc q h) hFc (fun r16 u t H15 locs ht hvm hw hB hz1 hk1 hS => ?_)
      obtain rfl : r16 = 10 := hw.trans (by decide +kernel)
      have hP := zo_K hP hk1
      refine lv_icmp_ge (tgt := 91) hx hb dX7_atHand_14 (by decide) (fun h => absurd h (by decide)) (fun _ => ?_)
      refine lv_aload_n hx hb dX7_atHand_17 rfl (lv_at hl 2 rfl) ?_
      refine va_get (D := (dC, dI)) (ci := 9) (v := .ref lt) (C := RX7) (T := TX7) (N := 14) hx hb hts zi_X7_atHand_X7 hown hK (zo_R hR0 hS hAr) 0 rfl rfl 1 (by decide) (hts (.fieldLink RX7 18 "LockRoomsModel$Room" "things" "Ljava/util/ArrayList;") (by decide +kernel)) (fun _ h9 => h9) rfl dX7_atHand_18 ?_
      refine lv_iload hx hb dX7_atHand_21 (lv_at hl 0 rfl) ?_
      have hPr := ((zo_R hR0 hS hAr)).sub (ws' := [(lt, .inr (1, [.int 10, .ref ota, .int 10])), (ota, .inl (cOt, 10, .inr (.inr (.inr (.inr fot)))))]) [5, 6] rfl
      have hPc := hP.sub (ws' := []) [] rfl
      have hDc := hD.sub (ws' := []) [] (by decide) rfl
      have hKc := hK.sub (tys' := [(cOt, .object "java/lang/Object")]) [3] rfl
      have hFc := va_free (wc := []) hD hS hA [] rfl
      refine va_callr (va_runV (As := [.int 2]) (rest := []) ⟨hx, hb, hml, hown, hts⟩ (cz_Qget_2_10 l dC dI ed H15.size lt 10 ota cOt fot ta2 hot2) (cwV 1 hts gX7_atHand_Jx4a65c_get_915e3 rfl rfl rfl (by decide +kernel) ⟨Nat.le_of_ble_eq_true rfl, Nat.le_of_ble_eq_true rfl⟩) ⟨zb_blind, va_recv hK (zo_R hR0 hS hAr) (ci := 1) (q0 := 5) rfl rfl, fun U hU hW => ⟨rfl, zb_mk hU hW hPr hPc hKc hDc hN hH hS hFc zx_e⟩⟩ rfl rfl hl.1 rfl (lv_room (Nat.le_of_ble_eq_true rfl)) dX7_atHand_23 ⟨Nat.le_of_ble_eq_true rfl, Nat.le_of_ble_eq_true rfl⟩) hS (fun q _ h => hFc q h) hFc (fun u r18 t H17 locs ht hvm hw hB hz1 hk1 hS => ?_)
      obtain ⟨hq19_0, hP1, hD1, hK1⟩ := hB
      rw [ht] at hP1
      obtain ⟨hP, hD⟩ := va_join (wr := []) (w1 := []) hP hD [] [] rfl rfl (by decide) (by decide) hk1 hFc hP1 hD1
      have hP : va_P (dC, dI) vwCl [] H17 := hP
      have hD : va_D A [] := hD
      obtain rfl : ta2 = r18 := hq19_0.symm
      refine va_castA (nm := "[I") hx hb hown (hts (.classLink RX7 46 "[I") (by decide +kernel)) (zo_R hR0 hS hAr) 9 rfl (show s.vm.findClass "[I" = some cB2 from (hK.2 6 _ rfl).2) dX7_atHand_26 ?_
      refine lv_astore (lv' := [(5, .ref ta2), (4, .int 2), (3, .int z3), (0, .ref mr), (1, .int x0), (2, .int x1)]) hx hb dX7_atHand_29 hl (by decide) rfl (fun ls hl => ?_)
      refine lv_aload hx hb dX7_atHand_31 (lv_at hl 0 rfl) ?_
      refine lv_iconst (v := 3) hx hb dX7_atHand_33 (by decide) ?_
      refine va_iald hx hb hK (zo_R hR0 hS hAr) 9 6 rfl rfl (by unfold vp_in; decide) dX7_atHand_34 ?_
      refine zo_i (v := y2) (by rw [show Int32.toNatClampNeg 3 = 3 from by decide]; exact hb2_3) ?_
      refine lv_if_ne (tgt := 62) hx hb dX7_atHand_35 (by decide) (fun c20 => ?_) (fun c20 => ?_)
      · skip
        refine lv_iconst (v := 0) hx hb dX7_atHand_62 (by decide) ?_
        refine lv_istore (lv' := [(6, .int 0), (5, .ref ta2), (4, .int 2), (3, .int z3), (0, .ref mr), (1, .int x0), (2, .int x1)]) hx hb dX7_atHand_63 hl (by decide) rfl (fun ls hl => ?_)
        refine lv_iload hx hb dX7_atHand_65 (lv_at hl 0 rfl) ?_
        refine lv_if_ne (tgt := 78) hx hb dX7_atHand_67 (by decide) (fun h => absurd h (by decide)) (fun _ => ?_)
        refine lv_aload hx hb dX7_atHand_70 (lv_at hl 1 rfl) ?_
        refine lv_iconst (v := 3) hx hb dX7_atHand_72 (by decide) ?_
        refine va_iald hx hb hK (zo_R hR0 hS hAr) 9 6 rfl rfl (by unfold vp_in; decide) dX7_atHand_73 ?_
        refine zo_i (v := y2) (by rw [show Int32.toNatClampNeg 3 = 3 from by decide]; exact hb2_3) ?_
        refine lv_iconst (v := 1) hx hb dX7_atHand_74 (by decide) ?_
        refine lv_icmp_ne (tgt := 85) hx hb dX7_atHand_75 (by decide) (fun c21 => ?_) (fun c21 => ?_)
        · skip
          refine lv_iinc (v := 3) (lv' := [(4, .int 3), (6, .int 0), (5, .ref ta2), (3, .int z3), (0, .ref mr), (1, .int x0), (2, .int x1)]) hx hb dX7_atHand_85 hl (k := 2) rfl (by decide) (by decide) rfl (fun ls hl => ?_)
          refine lv_goto (tgt := 5) hx hb dX7_atHand_88 (by decide) ?_
          exact ih _ _ _ ⟨z3, hP, hD, hS, (by rw [show nI (2 + 1) = (3 : Int32) from by decide]; exact lv_sub hl [0, 3, 4, 5, 6] rfl)⟩
        · skip
          refine lv_iload_n hx hb dX7_atHand_78 rfl (lv_at hl 3 rfl) ?_
          refine lv_iconst (v := 1) hx hb dX7_atHand_79 (by decide) ?_
          refine lv_iload hx hb dX7_atHand_80 (lv_at hl 2 rfl) ?_
          refine lv_ishl hx hb dX7_atHand_82 ?_
          refine zo_i (v := 4) (by decide) ?_
          refine lv_ior hx hb dX7_atHand_83 ?_
          refine lv_istore_n (lv' := [(3, .int (z3 ||| 4)), (6, .int 0), (5, .ref ta2), (4, .int 2), (0, .ref mr), (1, .int x0), (2, .int x1)]) hx hb dX7_atHand_84 rfl hl (by decide) rfl (fun ls hl => ?_)
          refine lv_iinc (v := 3) (lv' := [(4, .int 3), (3, .int (z3 ||| 4)), (6, .int 0), (5, .ref ta2), (0, .ref mr), (1, .int x0), (2, .int x1)]) hx hb dX7_atHand_85 hl (k := 3) rfl (by decide) (by decide) rfl (fun ls hl => ?_)
          refine lv_goto (tgt := 5) hx hb dX7_atHand_88 (by decide) ?_
          exact ih _ _ _ ⟨(z3 ||| 4), hP, hD, hS, (by rw [show nI (2 + 1) = (3 : Int32) from by decide]; exact lv_sub hl [0, 1, 4, 5, 6] rfl)⟩
      · skip
        refine lv_aload hx hb dX7_atHand_38 (lv_at hl 0 rfl) ?_
        refine lv_iconst (v := 0) hx hb dX7_atHand_40 (by decide) ?_
        refine va_iald hx hb hK (zo_R hR0 hS hAr) 9 6 rfl rfl (by unfold vp_in; decide) dX7_atHand_41 ?_
        refine zo_i (v := (-1)) (by rw [show Int32.toNatClampNeg 0 = 0 from by decide]; exact hb2_0) ?_
        refine lv_iconst (v := (-1)) hx hb dX7_atHand_42 (by decide) ?_
        refine lv_icmp_eq (tgt := 58) hx hb dX7_atHand_43 (by decide) (fun _ => ?_) (fun h => absurd h (by decide))
        refine lv_iconst (v := 1) hx hb dX7_atHand_58 (by decide) ?_
        refine lv_goto (tgt := 63) hx hb dX7_atHand_59 (by decide) ?_
        refine lv_istore (lv' := [(6, .int 1), (5, .ref ta2), (4, .int 2), (3, .int z3), (0, .ref mr), (1, .int x0), (2, .int x1)]) hx hb dX7_atHand_63 hl (by decide) rfl (fun ls hl => ?_)
        refine lv_iload hx hb dX7_atHand_65 (lv_at hl 0 rfl) ?_
        refine lv_if_ne (tgt := 78) hx hb dX7_atHand_67 (by decide) (fun _ => ?_) (fun h => absurd h (by decide))
        refine lv_iload_n hx hb dX7_atHand_78 rfl (lv_at hl 3 rfl) ?_
        refine lv_iconst (v := 1) hx hb dX7_atHand_79 (by decide) ?_
        refine lv_iload hx hb dX7_atHand_80 (lv_at hl 2 rfl) ?_
        refine lv_ishl hx hb dX7_atHand_82 ?_
        refine zo_i (v := 4) (by decide) ?_
        refine lv_ior hx hb dX7_atHand_83 ?_
        refine lv_istore_n (lv' := [(3, .int (z3 ||| 4)), (6, .int 1), (5, .ref ta2), (4, .int 2), (0, .ref mr), (1, .int x0), (2, .int x1)]) hx hb dX7_atHand_84 rfl hl (by decide) rfl (fun ls hl => ?_)
        refine lv_iinc (v := 3) (lv' := [(4, .int 3), (3, .int (z3 ||| 4)), (6, .int 1), (5, .ref ta2), (0, .ref mr), (1, .int x0), (2, .int x1)]) hx hb dX7_atHand_85 hl (k := 3) rfl (by decide) (by decide) rfl (fun ls hl => ?_)
        refine lv_goto (tgt := 5) hx hb dX7_atHand_88 (by decide) ?_
        exact ih _ _ _ ⟨(z3 ||| 4), hP, hD, hS, (by rw [show nI (2 + 1) = (3 : Int32) from by decide]; exact lv_sub hl [0, 1, 4, 5, 6] rfl)⟩
    · obtain ⟨z3, hP, hD, hS, hl⟩ := hI
      have hl : lv_has ls 7 [(4, .int 3), (3, .int z3), (0, .ref mr), (1, .int x0), (2, .int x1)] := by rw [show (3 : Int32) = nI 3 from by decide]; exact hl
      refine lv_iload hx hb dX7_atHand_5 (lv_at hl 0 rfl) ?_
      refine lv_aload_n hx hb dX7_atHand_7 rfl (lv_at hl 2 rfl) ?_
      refine va_get (D := (dC, dI)) (ci := 9) (v := .ref lt) (C := RX7) (T := TX7) (N := 14) hx hb hts zi_X7_atHand_X7 hown hK (zo_R hR0 hS hAr) 0 rfl rfl 1 (by decide) (hts (.fieldLink RX7 18 "LockRoomsModel$Room" "things" "Ljava/util/ArrayList;") (by decide +kernel)) (fun _ h9 => h9) rfl dX7_atHand_8 ?_
      have hPr := ((zo_R hR0 hS hAr)).sub (ws' := [(lt, .inr (1, [.int 10, .ref ota, .int 10]))]) [5] rfl
      have hPc := hP.sub (ws' := []) [] rfl
      have hDc := hD.sub (ws' := []) [] (by decide) rfl
      have hKc := hK.sub (tys' := []) [] rfl
      have hFc := va_free (wc := []) hD hS hA [] rfl
      refine va_calli (va_runV (As := []) (rest := [.int 3]) ⟨hx, hb, hml, hown, hts⟩ (cz_Qsize l dC dI ed H.size lt 10 ota 10) (cwV 0 hts gX7_atHand_Jx4a65c_size_8abf5 rfl rfl rfl (by decide +kernel) ⟨Nat.le_of_ble_eq_true rfl, Nat.le_of_ble_eq_true rfl⟩) ⟨zb_blind, va_recv hK (zo_R hR0 hS hAr) (ci := 1) (q0 := 5) rfl rfl, fun U hU hW => ⟨rfl, zb_mk hU hW hPr hPc hKc hDc hN hH hS hFc zx_e⟩⟩ rfl rfl hl.1 rfl (lv_room (Nat.le_of_ble_eq_true rfl)) dX7_atHand_11 ⟨Nat.le_of_ble_eq_true rfl, Nat.le_of_ble_eq_true rfl⟩) hS (fun q _ h => hFc q h) hFc (fun r23 u t H22 locs ht hvm hw hB hz1 hk1 hS => ?_)
      obtain rfl : r23 = 10 := hw.trans (by decide +kernel)
      have hP := zo_K hP hk1
      refine lv_icmp_ge (tgt := 91) hx hb dX7_atHand_14 (by decide) (fun h => absurd h (by decide)) (fun _ => ?_)
      refine lv_aload_n hx hb dX7_atHand_17 rfl (lv_at hl 2 rfl) ?_
      refine va_get (D := (dC, dI)) (ci := 9) (v := .ref lt) (C := RX7) (T := TX7) (N := 14) hx hb hts zi_X7_atHand_X7 hown hK (zo_R hR0 hS hAr) 0 rfl rfl 1 (by decide) (hts (.fieldLink RX7 18 "LockRoomsModel$Room" "things" "Ljava/util/ArrayList;") (by decide +kernel)) (fun _ h9 => h9) rfl dX7_atHand_18 ?_
      refine lv_iload hx hb dX7_atHand_21 (lv_at hl 0 rfl) ?_
      have hPr := ((zo_R hR0 hS hAr)).sub (ws' := [(lt, .inr (1, [.int 10, .ref ota, .int 10])), (ota, .inl (cOt, 10, .inr (.inr (.inr (.inr fot)))))]) [5, 6] rfl
      have hPc := hP.sub (ws' := []) [] rfl
      have hDc := hD.sub (ws' := []) [] (by decide) rfl
      have hKc := hK.sub (tys' := [(cOt, .object "java/lang/Object")]) [3] rfl
      have hFc := va_free (wc := []) hD hS hA [] rfl
      refine va_callr (va_runV (As := [.int 3]) (rest := []) ⟨hx, hb, hml, hown, hts⟩ (cz_Qget_3_10 l dC dI ed H22.size lt 10 ota cOt fot ta3 hot3) (cwV 1 hts gX7_atHand_Jx4a65c_get_915e3 rfl rfl rfl (by decide +kernel) ⟨Nat.le_of_ble_eq_true rfl, Nat.le_of_ble_eq_true rfl⟩) ⟨zb_blind, va_recv hK (zo_R hR0 hS hAr) (ci := 1) (q0 := 5) rfl rfl, fun U hU hW => ⟨rfl, zb_mk hU hW hPr hPc hKc hDc hN hH hS hFc zx_e⟩⟩ rfl rfl hl.1 rfl (lv_room (Nat.le_of_ble_eq_true rfl)) dX7_atHand_23 ⟨Nat.le_of_ble_eq_true rfl, Nat.le_of_ble_eq_true rfl⟩) hS (fun q _ h => hFc q h) hFc (fun u r25 t H24 locs ht hvm hw hB hz1 hk1 hS => ?_)
      obtain ⟨hq26_0, hP1, hD1, hK1⟩ := hB
      rw [ht] at hP1
      obtain ⟨hP, hD⟩ := va_join (wr := []) (w1 := []) hP hD [] [] rfl rfl (by decide) (by decide) hk1 hFc hP1 hD1
      have hP : va_P (dC, dI) vwCl [] H24 := hP
      have hD : va_D A [] := hD
      obtain rfl : ta3 = r25 := hq26_0.symm
      refine va_castA (nm := "[I") hx hb hown (hts (.classLink RX7 46 "[I") (by decide +kernel)) (zo_R hR0 hS hAr) 10 rfl (show s.vm.findClass "[I" = some cB3 from (hK.2 7 _ rfl).2) dX7_atHand_26 ?_
      refine lv_astore (lv' := [(5, .ref ta3), (4, .int 3), (3, .int z3), (0, .ref mr), (1, .int x0), (2, .int x1)]) hx hb dX7_atHand_29 hl (by decide) rfl (fun ls hl => ?_)
      refine lv_aload hx hb dX7_atHand_31 (lv_at hl 0 rfl) ?_
      refine lv_iconst (v := 3) hx hb dX7_atHand_33 (by decide) ?_
      refine va_iald hx hb hK (zo_R hR0 hS hAr) 10 7 rfl rfl (by unfold vp_in; decide) dX7_atHand_34 ?_
      refine zo_i (v := y3) (by rw [show Int32.toNatClampNeg 3 = 3 from by decide]; exact hb3_3) ?_
      refine lv_if_ne (tgt := 62) hx hb dX7_atHand_35 (by decide) (fun c27 => ?_) (fun c27 => ?_)
      · skip
        refine lv_iconst (v := 0) hx hb dX7_atHand_62 (by decide) ?_
        refine lv_istore (lv' := [(6, .int 0), (5, .ref ta3), (4, .int 3), (3, .int z3), (0, .ref mr), (1, .int x0), (2, .int x1)]) hx hb dX7_atHand_63 hl (by decide) rfl (fun ls hl => ?_)
        refine lv_iload hx hb dX7_atHand_65 (lv_at hl 0 rfl) ?_
        refine lv_if_ne (tgt := 78) hx hb dX7_atHand_67 (by decide) (fun h => absurd h (by decide)) (fun _ => ?_)
        refine lv_aload hx hb dX7_atHand_70 (lv_at hl 1 rfl) ?_
        refine lv_iconst (v := 3) hx hb dX7_atHand_72 (by decide) ?_
        refine va_iald hx hb hK (zo_R hR0 hS hAr) 10 7 rfl rfl (by unfold vp_in; decide) dX7_atHand_73 ?_
        refine zo_i (v := y3) (by rw [show Int32.toNatClampNeg 3 = 3 from by decide]; exact hb3_3) ?_
        refine lv_iconst (v := 1) hx hb dX7_atHand_74 (by decide) ?_
        refine lv_icmp_ne (tgt := 85) hx hb dX7_atHand_75 (by decide) (fun c28 => ?_) (fun c28 => ?_)
        · skip
          refine lv_iinc (v := 4) (lv' := [(4, .int 4), (6, .int 0), (5, .ref ta3), (3, .int z3), (0, .ref mr), (1, .int x0), (2, .int x1)]) hx hb dX7_atHand_85 hl (k := 2) rfl (by decide) (by decide) rfl (fun ls hl => ?_)
          refine lv_goto (tgt := 5) hx hb dX7_atHand_88 (by decide) ?_
          exact ih _ _ _ ⟨z3, hP, hD, hS, (by rw [show nI (3 + 1) = (4 : Int32) from by decide]; exact lv_sub hl [0, 3, 4, 5, 6] rfl)⟩
        · skip
          refine lv_iload_n hx hb dX7_atHand_78 rfl (lv_at hl 3 rfl) ?_
          refine lv_iconst (v := 1) hx hb dX7_atHand_79 (by decide) ?_
          refine lv_iload hx hb dX7_atHand_80 (lv_at hl 2 rfl) ?_
          refine lv_ishl hx hb dX7_atHand_82 ?_
          refine zo_i (v := 8) (by decide) ?_
          refine lv_ior hx hb dX7_atHand_83 ?_
          refine lv_istore_n (lv' := [(3, .int (z3 ||| 8)), (6, .int 0), (5, .ref ta3), (4, .int 3), (0, .ref mr), (1, .int x0), (2, .int x1)]) hx hb dX7_atHand_84 rfl hl (by decide) rfl (fun ls hl => ?_)
          refine lv_iinc (v := 4) (lv' := [(4, .int 4), (3, .int (z3 ||| 8)), (6, .int 0), (5, .ref ta3), (0, .ref mr), (1, .int x0), (2, .int x1)]) hx hb dX7_atHand_85 hl (k := 3) rfl (by decide) (by decide) rfl (fun ls hl => ?_)
          refine lv_goto (tgt := 5) hx hb dX7_atHand_88 (by decide) ?_
          exact ih _ _ _ ⟨(z3 ||| 8), hP, hD, hS, (by rw [show nI (3 + 1) = (4 : Int32) from by decide]; exact lv_sub hl [0, 1, 4, 5, 6] rfl)⟩
      · skip
        refine lv_aload hx hb dX7_atHand_38 (lv_at hl 0 rfl) ?_
        refine lv_iconst (v := 0) hx hb dX7_atHand_40 (by decide) ?_
        refine va_iald hx hb hK (zo_R hR0 hS hAr) 10 7 rfl rfl (by unfold vp_in; decide) dX7_atHand_41 ?_
        refine zo_i (v := (-1)) (by rw [show Int32.toNatClampNeg 0 = 0 from by decide]; exact hb3_0) ?_
        refine lv_iconst (v := (-1)) hx hb dX7_atHand_42 (by decide) ?_
        refine lv_icmp_eq (tgt := 58) hx hb dX7_atHand_43 (by decide) (fun _ => ?_) (fun h => absurd h (by decide))
        refine lv_iconst (v := 1) hx hb dX7_atHand_58 (by decide) ?_
        refine lv_goto (tgt := 63) hx hb dX7_atHand_59 (by decide) ?_
        refine lv_istore (lv' := [(6, .int 1), (5, .ref ta3), (4, .int 3), (3, .int z3), (0, .ref mr), (1, .int x0), (2, .int x1)]) hx hb dX7_atHand_63 hl (by decide) rfl (fun ls hl => ?_)
        refine lv_iload hx hb dX7_atHand_65 (lv_at hl 0 rfl) ?_
        refine lv_if_ne (tgt := 78) hx hb dX7_atHand_67 (by decide) (fun _ => ?_) (fun h => absurd h (by decide))
        refine lv_iload_n hx hb dX7_atHand_78 rfl (lv_at hl 3 rfl) ?_
        refine lv_iconst (v := 1) hx hb dX7_atHand_79 (by decide) ?_
        refine lv_iload hx hb dX7_atHand_80 (lv_at hl 2 rfl) ?_
        refine lv_ishl hx hb dX7_atHand_82 ?_
        refine zo_i (v := 8) (by decide) ?_
        refine lv_ior hx hb dX7_atHand_83 ?_
        refine lv_istore_n (lv' := [(3, .int (z3 ||| 8)), (6, .int 1), (5, .ref ta3), (4, .int 3), (0, .ref mr), (1, .int x0), (2, .int x1)]) hx hb dX7_atHand_84 rfl hl (by decide) rfl (fun ls hl => ?_)
        refine lv_iinc (v := 4) (lv' := [(4, .int 4), (3, .int (z3 ||| 8)), (6, .int 1), (5, .ref ta3), (0, .ref mr), (1, .int x0), (2, .int x1)]) hx hb dX7_atHand_85 hl (k := 3) rfl (by decide) (by decide) rfl (fun ls hl => ?_)
        refine lv_goto (tgt := 5) hx hb dX7_atHand_88 (by decide) ?_
        exact ih _ _ _ ⟨(z3 ||| 8), hP, hD, hS, (by rw [show nI (3 + 1) = (4 : Int32) from by decide]; exact lv_sub hl [0, 1, 4, 5, 6] rfl)⟩
    · obtain ⟨z3, hP, hD, hS, hl⟩ := hI
      have hl : lv_has ls 7 [(4, .int 4), (3, .int z3), (0, .ref mr), (1, .int x0), (2, .int x1)] := by rw [show (4 : Int32) = nI 4 from by decide]; exact hl
      refine lv_iload hx hb dX7_atHand_5 (lv_at hl 0 rfl) ?_
      refine lv_aload_n hx hb dX7_atHand_7 rfl (lv_at hl 2 rfl) ?_
      refine va_get (D := (dC, dI)) (ci := 9) (v := .ref lt) (C := RX7) (T := TX7) (N := 14) hx hb hts zi_X7_atHand_X7 hown hK (zo_R hR0 hS hAr) 0 rfl rfl 1 (by decide) (hts (.fieldLink RX7 18 "LockRoomsModel$Room" "things" "Ljava/util/ArrayList;") (by decide +kernel)) (fun _ h9 => h9) rfl dX7_atHand_8 ?_
      have hPr := ((zo_R hR0 hS hAr)).sub (ws' := [(lt, .inr (1, [.int 10, .ref ota, .int 10]))]) [5] rfl
      have hPc := hP.sub (ws' := []) [] rfl
      have hDc := hD.sub (ws' := []) [] (by decide) rfl
      have hKc := hK.sub (tys' := []) [] rfl
      have hFc := va_free (wc := []) hD hS hA [] rfl
      refine va_calli (va_runV (As := []) (rest := [.int 4]) ⟨hx, hb, hml, hown, hts⟩ (cz_Qsize l dC dI ed H.size lt 10 ota 10) (cwV 0 hts gX7_atHand_Jx4a65c_size_8abf5 rfl rfl rfl (by decide +kernel) ⟨Nat.le_of_ble_eq_true rfl, Nat.le_of_ble_eq_true rfl⟩) ⟨zb_blind, va_recv hK (zo_R hR0 hS hAr) (ci := 1) (q0 := 5) rfl rfl, fun U hU hW => ⟨rfl, zb_mk hU hW hPr hPc hKc hDc hN hH hS hFc zx_e⟩⟩ rfl rfl hl.1 rfl (lv_room (Nat.le_of_ble_eq_true rfl)) dX7_atHand_11 ⟨Nat.le_of_ble_eq_true rfl, Nat.le_of_ble_eq_true rfl⟩) hS (fun q _ h => hFc q h) hFc (fun r30 u t H29 locs ht hvm hw hB hz1 hk1 hS => ?_)
      obtain rfl : r30 = 10 := hw.trans (by decide +kernel)
      have hP := zo_K hP hk1
      refine lv_icmp_ge (tgt := 91) hx hb dX7_atHand_14 (by decide) (fun h => absurd h (by decide)) (fun _ => ?_)
      refine lv_aload_n hx hb dX7_atHand_17 rfl (lv_at hl 2 rfl) ?_
      refine va_get (D := (dC, dI)) (ci := 9) (v := .ref lt) (C := RX7) (T := TX7) (N := 14) hx hb hts zi_X7_atHand_X7 hown hK (zo_R hR0 hS hAr) 0 rfl rfl 1 (by decide) (hts (.fieldLink RX7 18 "LockRoomsModel$Room" "things" "Ljava/util/ArrayList;") (by decide +kernel)) (fun _ h9 => h9) rfl dX7_atHand_18 ?_
      refine lv_iload hx hb dX7_atHand_21 (lv_at hl 0 rfl) ?_
      have hPr := ((zo_R hR0 hS hAr)).sub (ws' := [(lt, .inr (1, [.int 10, .ref ota, .int 10])), (ota, .inl (cOt, 10, .inr (.inr (.inr (.inr fot)))))]) [5, 6] rfl
      have hPc := hP.sub (ws' := []) [] rfl
      have hDc := hD.sub (ws' := []) [] (by decide) rfl
      have hKc := hK.sub (tys' := [(cOt, .object "java/lang/Object")]) [3] rfl
      have hFc := va_free (wc := []) hD hS hA [] rfl
      refine va_callr (va_runV (As := [.int 4]) (rest := []) ⟨hx, hb, hml, hown, hts⟩ (cz_Qget_4_10 l dC dI ed H29.size lt 10 ota cOt fot ta4 hot4) (cwV 1 hts gX7_atHand_Jx4a65c_get_915e3 rfl rfl rfl (by decide +kernel) ⟨Nat.le_of_ble_eq_true rfl, Nat.le_of_ble_eq_true rfl⟩) ⟨zb_blind, va_recv hK (zo_R hR0 hS hAr) (ci := 1) (q0 := 5) rfl rfl, fun U hU hW => ⟨rfl, zb_mk hU hW hPr hPc hKc hDc hN hH hS hFc zx_e⟩⟩ rfl rfl hl.1 rfl (lv_room (Nat.le_of_ble_eq_true rfl)) dX7_atHand_23 ⟨Nat.le_of_ble_eq_true rfl, Nat.le_of_ble_eq_true rfl⟩) hS (fun q _ h => hFc q h) hFc (fun u r32 t H31 locs ht hvm hw hB hz1 hk1 hS => ?_)
      obtain ⟨hq33_0, hP1, hD1, hK1⟩ := hB
      rw [ht] at hP1
      obtain ⟨hP, hD⟩ := va_join (wr := []) (w1 := []) hP hD [] [] rfl rfl (by decide) (by decide) hk1 hFc hP1 hD1
      have hP : va_P (dC, dI) vwCl [] H31 := hP
      have hD : va_D A [] := hD
      obtain rfl : ta4 = r32 := hq33_0.symm
      refine va_castA (nm := "[I") hx hb hown (hts (.classLink RX7 46 "[I") (by decide +kernel)) (zo_R hR0 hS hAr) 11 rfl (show s.vm.findClass "[I" = some cB4 from (hK.2 8 _ rfl).2) dX7_atHand_26 ?_
      refine lv_astore (lv' := [(5, .ref ta4), (4, .int 4), (3, .int z3), (0, .ref mr), (1, .int x0), (2, .int x1)]) hx hb dX7_atHand_29 hl (by decide) rfl (fun ls hl => ?_)
      refine lv_aload hx hb dX7_atHand_31 (lv_at hl 0 rfl) ?_
      refine lv_iconst (v := 3) hx hb dX7_atHand_33 (by decide) ?_
      refine va_iald hx hb hK (zo_R hR0 hS hAr) 11 8 rfl rfl (by unfold vp_in; decide) dX7_atHand_34 ?_
      refine zo_i (v := y4) (by rw [show Int32.toNatClampNeg 3 = 3 from by decide]; exact hb4_3) ?_
      refine lv_if_ne (tgt := 62) hx hb dX7_atHand_35 (by decide) (fun c34 => ?_) (fun c34 => ?_)
      · skip
        refine lv_iconst (v := 0) hx hb dX7_atHand_62 (by decide) ?_
        refine lv_istore (lv' := [(6, .int 0), (5, .ref ta4), (4, .int 4), (3, .int z3), (0, .ref mr), (1, .int x0), (2, .int x1)]) hx hb dX7_atHand_63 hl (by decide) rfl (fun ls hl => ?_)
        refine lv_iload hx hb dX7_atHand_65 (lv_at hl 0 rfl) ?_
        refine lv_if_ne (tgt := 78) hx hb dX7_atHand_67 (by decide) (fun h => absurd h (by decide)) (fun _ => ?_)
        refine lv_aload hx hb dX7_atHand_70 (lv_at hl 1 rfl) ?_
        refine lv_iconst (v := 3) hx hb dX7_atHand_72 (by decide) ?_
        refine va_iald hx hb hK (zo_R hR0 hS hAr) 11 8 rfl rfl (by unfold vp_in; decide) dX7_atHand_73 ?_
        refine zo_i (v := y4) (by rw [show Int32.toNatClampNeg 3 = 3 from by decide]; exact hb4_3) ?_
        refine lv_iconst (v := 1) hx hb dX7_atHand_74 (by decide) ?_
        refine lv_icmp_ne (tgt := 85) hx hb dX7_atHand_75 (by decide) (fun c35 => ?_) (fun c35 => ?_)
        · skip
          refine lv_iinc (v := 5) (lv' := [(4, .int 5), (6, .int 0), (5, .ref ta4), (3, .int z3), (0, .ref mr), (1, .int x0), (2, .int x1)]) hx hb dX7_atHand_85 hl (k := 2) rfl (by decide) (by decide) rfl (fun ls hl => ?_)
          refine lv_goto (tgt := 5) hx hb dX7_atHand_88 (by decide) ?_
          exact ih _ _ _ ⟨z3, hP, hD, hS, (by rw [show nI (4 + 1) = (5 : Int32) from by decide]; exact lv_sub hl [0, 3, 4, 5, 6] rfl)⟩
        · skip
          refine lv_iload_n hx hb dX7_atHand_78 rfl (lv_at hl 3 rfl) ?_
          refine lv_iconst (v := 1) hx hb dX7_atHand_79 (by decide) ?_
          refine lv_iload hx hb dX7_atHand_80 (lv_at hl 2 rfl) ?_
          refine lv_ishl hx hb dX7_atHand_82 ?_
          refine zo_i (v := 16) (by decide) ?_
          refine lv_ior hx hb dX7_atHand_83 ?_
          refine lv_istore_n (lv' := [(3, .int (z3 ||| 16)), (6, .int 0), (5, .ref ta4), (4, .int 4), (0, .ref mr), (1, .int x0), (2, .int x1)]) hx hb dX7_atHand_84 rfl hl (by decide) rfl (fun ls hl => ?_)
          refine lv_iinc (v := 5) (lv' := [(4, .int 5), (3, .int (z3 ||| 16)), (6, .int 0), (5, .ref ta4), (0, .ref mr), (1, .int x0), (2, .int x1)]) hx hb dX7_atHand_85 hl (k := 3) rfl (by decide) (by decide) rfl (fun ls hl => ?_)
          refine lv_goto (tgt := 5) hx hb dX7_atHand_88 (by decide) ?_
          exact ih _ _ _ ⟨(z3 ||| 16), hP, hD, hS, (by rw [show nI (4 + 1) = (5 : Int32) from by decide]; exact lv_sub hl [0, 1, 4, 5, 6] rfl)⟩
      · skip
        refine lv_aload hx hb dX7_atHand_38 (lv_at hl 0 rfl) ?_
        refine lv_iconst (v := 0) hx hb dX7_atHand_40 (by decide) ?_
        refine va_iald hx hb hK (zo_R hR0 hS hAr) 11 8 rfl rfl (by unfold vp_in; decide) dX7_atHand_41 ?_
        refine zo_i (v := (-1)) (by rw [show Int32.toNatClampNeg 0 = 0 from by decide]; exact hb4_0) ?_
        refine lv_iconst (v := (-1)) hx hb dX7_atHand_42 (by decide) ?_
        refine lv_icmp_eq (tgt := 58) hx hb dX7_atHand_43 (by decide) (fun _ => ?_) (fun h => absurd h (by decide))
        refine lv_iconst (v := 1) hx hb dX7_atHand_58 (by decide) ?_
        refine lv_goto (tgt := 63) hx hb dX7_atHand_59 (by decide) ?_
        refine lv_istore (lv' := [(6, .int 1), (5, .ref ta4), (4, .int 4), (3, .int z3), (0, .ref mr), (1, .int x0), (2, .int x1)]) hx hb dX7_atHand_63 hl (by decide) rfl (fun ls hl => ?_)
        refine lv_iload hx hb dX7_atHand_65 (lv_at hl 0 rfl) ?_
        refine lv_if_ne (tgt := 78) hx hb dX7_atHand_67 (by decide) (fun _ => ?_) (fun h => absurd h (by decide))
        refine lv_iload_n hx hb dX7_atHand_78 rfl (lv_at hl 3 rfl) ?_
        refine lv_iconst (v := 1) hx hb dX7_atHand_79 (by decide) ?_
        refine lv_iload hx hb dX7_atHand_80 (lv_at hl 2 rfl) ?_
        refine lv_ishl hx hb dX7_atHand_82 ?_
        refine zo_i (v := 16) (by decide) ?_
        refine lv_ior hx hb dX7_atHand_83 ?_
        refine lv_istore_n (lv' := [(3, .int (z3 ||| 16)), (6, .int 1), (5, .ref ta4), (4, .int 4), (0, .ref mr), (1, .int x0), (2, .int x1)]) hx hb dX7_atHand_84 rfl hl (by decide) rfl (fun ls hl => ?_)
        refine lv_iinc (v := 5) (lv' := [(4, .int 5), (3, .int (z3 ||| 16)), (6, .int 1), (5, .ref ta4), (0, .ref mr), (1, .int x0), (2, .int x1)]) hx hb dX7_atHand_85 hl (k := 3) rfl (by decide) (by decide) rfl (fun ls hl => ?_)
        refine lv_goto (tgt := 5) hx hb dX7_atHand_88 (by decide) ?_
        exact ih _ _ _ ⟨(z3 ||| 16), hP, hD, hS, (by rw [show nI (4 + 1) = (5 : Int32) from by decide]; exact lv_sub hl [0, 1, 4, 5, 6] rfl)⟩
    · obtain ⟨z3, hP, hD, hS, hl⟩ := hI
      have hl : lv_has ls 7 [(4, .int 5), (3, .int z3), (0, .ref mr), (1, .int x0), (2, .int x1)] := by rw [show (5 : Int32) = nI 5 from by decide]; exact hl
      refine lv_iload hx hb dX7_atHand_5 (lv_at hl 0 rfl) ?_
      refine lv_aload_n hx hb dX7_atHand_7 rfl (lv_at hl 2 rfl) ?_
      refine va_get (D := (dC, dI)) (ci := 9) (v := .ref lt) (C := RX7) (T := TX7) (N := 14) hx hb hts zi_X7_atHand_X7 hown hK (zo_R hR0 hS hAr) 0 rfl rfl 1 (by decide) (hts (.fieldLink RX7 18 "LockRoomsModel$Room" "things" "Ljava/util/ArrayList;") (by decide +kernel)) (fun _ h9 => h9) rfl dX7_atHand_8 ?_
      have hPr := ((zo_R hR0 hS hAr)).sub (ws' := [(lt, .inr (1, [.int 10, .ref ota, .int 10]))]) [5] rfl
      have hPc := hP.sub (ws' := []) [] rfl
      have hDc := hD.sub (ws' := []) [] (by decide) rfl
      have hKc := hK.sub (tys' := []) [] rfl
      have hFc := va_free (wc := []) hD hS hA [] rfl
      refine va_calli (va_runV (As := []) (rest := [.int 5]) ⟨hx, hb, hml, hown, hts⟩ (cz_Qsize l dC dI ed H.size lt 10 ota 10) (cwV 0 hts gX7_atHand_Jx4a65c_size_8abf5 rfl rfl rfl (by decide +kernel) ⟨Nat.le_of_ble_eq_true rfl, Nat.le_of_ble_eq_true rfl⟩) ⟨zb_blind, va_recv hK (zo_R hR0 hS hAr) (ci := 1) (q0 := 5) rfl rfl, fun U hU hW => ⟨rfl, zb_mk hU hW hPr hPc hKc hDc hN hH hS hFc zx_e⟩⟩ rfl rfl hl.1 rfl (lv_room (Nat.le_of_ble_eq_true rfl)) dX7_atHand_11 ⟨Nat.le_of_ble_eq_true rfl, Nat.le_of_ble_eq_true rfl⟩) hS (fun q _ h => hFc q h) hFc (fun r37 u t H36 locs ht hvm hw hB hz1 hk1 hS => ?_)
      obtain rfl : r37 = 10 := hw.trans (by decide +kernel)
      have hP := zo_K hP hk1
      refine lv_icmp_ge (tgt := 91) hx hb dX7_atHand_14 (by decide) (fun h => absurd h (by decide)) (fun _ => ?_)
      refine lv_aload_n hx hb dX7_atHand_17 rfl (lv_at hl 2 rfl) ?_
      refine va_get (D := (dC, dI)) (ci := 9) (v := .ref lt) (C := RX7) (T := TX7) (N := 14) hx hb hts zi_X7_atHand_X7 hown hK (zo_R hR0 hS hAr) 0 rfl rfl 1 (by decide) (hts (.fieldLink RX7 18 "LockRoomsModel$Room" "things" "Ljava/util/ArrayList;") (by decide +kernel)) (fun _ h9 => h9) rfl dX7_atHand_18 ?_
      refine lv_iload hx hb dX7_atHand_21 (lv_at hl 0 rfl) ?_
      have hPr := ((zo_R hR0 hS hAr)).sub (ws' := [(lt, .inr (1, [.int 10, .ref ota, .int 10])), (ota, .inl (cOt, 10, .inr (.inr (.inr (.inr fot)))))]) [5, 6] rfl
      have hPc := hP.sub (ws' := []) [] rfl
      have hDc := hD.sub (ws' := []) [] (by decide) rfl
      have hKc := hK.sub (tys' := [(cOt, .object "java/lang/Object")]) [3] rfl
      have hFc := va_free (wc := []) hD hS hA [] rfl
      refine va_callr (va_runV (As := [.int 5]) (rest := []) ⟨hx, hb, hml, hown, hts⟩ (cz_Qget_5_10 l dC dI ed H36.size lt 10 ota cOt fot ta5 hot5) (cwV 1 hts gX7_atHand_Jx4a65c_get_915e3 rfl rfl rfl (by decide +kernel) ⟨Nat.le_of_ble_eq_true rfl, Nat.le_of_ble_eq_true rfl⟩) ⟨zb_blind, va_recv hK (zo_R hR0 hS hAr) (ci := 1) (q0 := 5) rfl rfl, fun U hU hW => ⟨rfl, zb_mk hU hW hPr hPc hKc hDc hN hH hS hFc zx_e⟩⟩ rfl rfl hl.1 rfl (lv_room (Nat.le_of_ble_eq_true rfl)) dX7_atHand_23 ⟨Nat.le_of_ble_eq_true rfl, Nat.le_of_ble_eq_true rfl⟩) hS (fun q _ h => hFc q h) hFc (fun u r39 t H38 locs ht hvm hw hB hz1 hk1 hS => ?_)
      obtain ⟨hq40_0, hP1, hD1, hK1⟩ := hB
      rw [ht] at hP1
      obtain ⟨hP, hD⟩ := va_join (wr := []) (w1 := []) hP hD [] [] rfl rfl (by decide) (by decide) hk1 hFc hP1 hD1
      have hP : va_P (dC, dI) vwCl [] H38 := hP
      have hD : va_D A [] := hD
      obtain rfl : ta5 = r39 := hq40_0.symm
      refine va_castA (nm := "[I") hx hb hown (hts (.classLink RX7 46 "[I") (by decide +kernel)) (zo_R hR0 hS hAr) 12 rfl (show s.vm.findClass "[I" = some cB5 from (hK.2 9 _ rfl).2) dX7_atHand_26 ?_
      refine lv_astore (lv' := [(5, .ref ta5), (4, .int 5), (3, .int z3), (0, .ref mr), (1, .int x0), (2, .int x1)]) hx hb dX7_atHand_29 hl (by decide) rfl (fun ls hl => ?_)
      refine lv_aload hx hb dX7_atHand_31 (lv_at hl 0 rfl) ?_
      refine lv_iconst (v := 3) hx hb dX7_atHand_33 (by decide) ?_
      refine va_iald hx hb hK (zo_R hR0 hS hAr) 12 9 rfl rfl (by unfold vp_in; decide) dX7_atHand_34 ?_
      refine zo_i (v := y5) (by rw [show Int32.toNatClampNeg 3 = 3 from by decide]; exact hb5_3) ?_
      refine lv_if_ne (tgt := 62) hx hb dX7_atHand_35 (by decide) (fun c41 => ?_) (fun c41 => ?_)
      · skip
        refine lv_iconst (v := 0) hx hb dX7_atHand_62 (by decide) ?_
        refine lv_istore (lv' := [(6, .int 0), (5, .ref ta5), (4, .int 5), (3, .int z3), (0, .ref mr), (1, .int x0), (2, .int x1)]) hx hb dX7_atHand_63 hl (by decide) rfl (fun ls hl => ?_)
        refine lv_iload hx hb dX7_atHand_65 (lv_at hl 0 rfl) ?_
        refine lv_if_ne (tgt := 78) hx hb dX7_atHand_67 (by decide) (fun h => absurd h (by decide)) (fun _ => ?_)
        refine lv_aload hx hb dX7_atHand_70 (lv_at hl 1 rfl) ?_
        refine lv_iconst (v := 3) hx hb dX7_atHand_72 (by decide) ?_
        refine va_iald hx hb hK (zo_R hR0 hS hAr) 12 9 rfl rfl (by unfold vp_in; decide) dX7_atHand_73 ?_
        refine zo_i (v := y5) (by rw [show Int32.toNatClampNeg 3 = 3 from by decide]; exact hb5_3) ?_
        refine lv_iconst (v := 1) hx hb dX7_atHand_74 (by decide) ?_
        refine lv_icmp_ne (tgt := 85) hx hb dX7_atHand_75 (by decide) (fun c42 => ?_) (fun c42 => ?_)
        · skip
          refine lv_iinc (v := 6) (lv' := [(4, .int 6), (6, .int 0), (5, .ref ta5), (3, .int z3), (0, .ref mr), (1, .int x0), (2, .int x1)]) hx hb dX7_atHand_85 hl (k := 2) rfl (by decide) (by decide) rfl (fun ls hl => ?_)
          refine lv_goto (tgt := 5) hx hb dX7_atHand_88 (by decide) ?_
          exact ih _ _ _ ⟨z3, hP, hD, hS, (by rw [show nI (5 + 1) = (6 : Int32) from by decide]; exact lv_sub hl [0, 3, 4, 5, 6] rfl)⟩
        · skip
          refine lv_iload_n hx hb dX7_atHand_78 rfl (lv_at hl 3 rfl) ?_
          refine lv_iconst (v := 1) hx hb dX7_atHand_79 (by decide) ?_
          refine lv_iload hx hb dX7_atHand_80 (lv_at hl 2 rfl) ?_
          refine lv_ishl hx hb dX7_atHand_82 ?_
          refine zo_i (v := 32) (by decide) ?_
          refine lv_ior hx hb dX7_atHand_83 ?_
          refine lv_istore_n (lv' := [(3, .int (z3 ||| 32)), (6, .int 0), (5, .ref ta5), (4, .int 5), (0, .ref mr), (1, .int x0), (2, .int x1)]) hx hb dX7_atHand_84 rfl hl (by decide) rfl (fun ls hl => ?_)
          refine lv_iinc (v := 6) (lv' := [(4, .int 6), (3, .int (z3 ||| 32)), (6, .int 0), (5, .ref ta5), (0, .ref mr), (1, .int x0), (2, .int x1)]) hx hb dX7_atHand_85 hl (k := 3) rfl (by decide) (by decide) rfl (fun ls hl => ?_)
          refine lv_goto (tgt := 5) hx hb dX7_atHand_88 (by decide) ?_
          exact ih _ _ _ ⟨(z3 ||| 32), hP, hD, hS, (by rw [show nI (5 + 1) = (6 : Int32) from by decide]; exact lv_sub hl [0, 1, 4, 5, 6] rfl)⟩
      · skip
        refine lv_aload hx hb dX7_atHand_38 (lv_at hl 0 rfl) ?_
        refine lv_iconst (v := 0) hx hb dX7_atHand_40 (by decide) ?_
        refine va_iald hx hb hK (zo_R hR0 hS hAr) 12 9 rfl rfl (by unfold vp_in; decide) dX7_atHand_41 ?_
        refine zo_i (v := (-1)) (by rw [show Int32.toNatClampNeg 0 = 0 from by decide]; exact hb5_0) ?_
        refine lv_iconst (v := (-1)) hx hb dX7_atHand_42 (by decide) ?_
        refine lv_icmp_eq (tgt := 58) hx hb dX7_atHand_43 (by decide) (fun _ => ?_) (fun h => absurd h (by decide))
        refine lv_iconst (v := 1) hx hb dX7_atHand_58 (by decide) ?_
        refine lv_goto (tgt := 63) hx hb dX7_atHand_59 (by decide) ?_
        refine lv_istore (lv' := [(6, .int 1), (5, .ref ta5), (4, .int 5), (3, .int z3), (0, .ref mr), (1, .int x0), (2, .int x1)]) hx hb dX7_atHand_63 hl (by decide) rfl (fun ls hl => ?_)
        refine lv_iload hx hb dX7_atHand_65 (lv_at hl 0 rfl) ?_
        refine lv_if_ne (tgt := 78) hx hb dX7_atHand_67 (by decide) (fun _ => ?_) (fun h => absurd h (by decide))
        refine lv_iload_n hx hb dX7_atHand_78 rfl (lv_at hl 3 rfl) ?_
        refine lv_iconst (v := 1) hx hb dX7_atHand_79 (by decide) ?_
        refine lv_iload hx hb dX7_atHand_80 (lv_at hl 2 rfl) ?_
        refine lv_ishl hx hb dX7_atHand_82 ?_
        refine zo_i (v := 32) (by decide) ?_
        refine lv_ior hx hb dX7_atHand_83 ?_
        refine lv_istore_n (lv' := [(3, .int (z3 ||| 32)), (6, .int 1), (5, .ref ta5), (4, .int 5), (0, .ref mr), (1, .int x0), (2, .int x1)]) hx hb dX7_atHand_84 rfl hl (by decide) rfl (fun ls hl => ?_)
        refine lv_iinc (v := 6) (lv' := [(4, .int 6), (3, .int (z3 ||| 32)), (6, .int 1), (5, .ref ta5), (0, .ref mr), (1, .int x0), (2, .int x1)]) hx hb dX7_atHand_85 hl (k := 3) rfl (by decide) (by decide) rfl (fun ls hl => ?_)
        refine lv_goto (tgt := 5) hx hb dX7_atHand_88 (by decide) ?_
        exact ih _ _ _ ⟨(z3 ||| 32), hP, hD, hS, (by rw [show nI (5 + 1) = (6 : Int32) from by decide]; exact lv_sub hl [0, 1, 4, 5, 6] rfl)⟩
    · obtain ⟨z3, hP, hD, hS, hl⟩ := hI
      have hl : lv_has ls 7 [(4, .int 6), (3, .int z3), (0, .ref mr), (1, .int x0), (2, .int x1)] := by rw [show (6 : Int32) = nI 6 from by decide]; exact hl
      refine lv_iload hx hb dX7_atHand_5 (lv_at hl 0 rfl) ?_
      refine lv_aload_n hx hb dX7_atHand_7 rfl (lv_at hl 2 rfl) ?_
      refine va_get (D := (dC, dI)) (ci := 9) (v := .ref lt) (C := RX7) (T := TX7) (N := 14) hx hb hts zi_X7_atHand_X7 hown hK (zo_R hR0 hS hAr) 0 rfl rfl 1 (by decide) (hts (.fieldLink RX7 18 "LockRoomsModel$Room" "things" "Ljava/util/ArrayList;") (by decide +kernel)) (fun _ h9 => h9) rfl dX7_atHand_8 ?_
      have hPr := ((zo_R hR0 hS hAr)).sub (ws' := [(lt, .inr (1, [.int 10, .ref ota, .int 10]))]) [5] rfl
      have hPc := hP.sub (ws' := []) [] rfl
      have hDc := hD.sub (ws' := []) [] (by decide) rfl
      have hKc := hK.sub (tys' := []) [] rfl
      have hFc := va_free (wc := []) hD hS hA [] rfl
      refine va_calli (va_runV (As := []) (rest := [.int 6]) ⟨hx, hb, hml, hown, hts⟩ (cz_Qsize l dC dI ed H.size lt 10 ota 10) (cwV 0 hts gX7_atHand_Jx4a65c_size_8abf5 rfl rfl rfl (by decide +kernel) ⟨Nat.le_of_ble_eq_true rfl, Nat.le_of_ble_eq_true rfl⟩) ⟨zb_blind, va_recv hK (zo_R hR0 hS hAr) (ci := 1) (q0 := 5) rfl rfl, fun U hU hW => ⟨rfl, zb_mk hU hW hPr hPc hKc hDc hN hH hS hFc zx_e⟩⟩ rfl rfl hl.1 rfl (lv_room (Nat.le_of_ble_eq_true rfl)) dX7_atHand_11 ⟨Nat.le_of_ble_eq_true rfl, Nat.le_of_ble_eq_true rfl⟩) hS (fun q _ h => hFc q h) hFc (fun r44 u t H43 locs ht hvm hw hB hz1 hk1 hS => ?_)
      obtain rfl : r44 = 10 := hw.trans (by decide +kernel)
      have hP := zo_K hP hk1
      refine lv_icmp_ge (tgt := 91) hx hb dX7_atHand_14 (by decide) (fun h => absurd h (by decide)) (fun _ => ?_)
      refine lv_aload_n hx hb dX7_atHand_17 rfl (lv_at hl 2 rfl) ?_
      refine va_get (D := (dC, dI)) (ci := 9) (v := .ref lt) (C := RX7) (T := TX7) (N := 14) hx hb hts zi_X7_atHand_X7 hown hK (zo_R hR0 hS hAr) 0 rfl rfl 1 (by decide) (hts (.fieldLink RX7 18 "LockRoomsModel$Room" "things" "Ljava/util/ArrayList;") (by decide +kernel)) (fun _ h9 => h9) rfl dX7_atHand_18 ?_
      refine lv_iload hx hb dX7_atHand_21 (lv_at hl 0 rfl) ?_
      have hPr := ((zo_R hR0 hS hAr)).sub (ws' := [(lt, .inr (1, [.int 10, .ref ota, .int 10])), (ota, .inl (cOt, 10, .inr (.inr (.inr (.inr fot)))))]) [5, 6] rfl
      have hPc := hP.sub (ws' := []) [] rfl
      have hDc := hD.sub (ws' := []) [] (by decide) rfl
      have hKc := hK.sub (tys' := [(cOt, .object "java/lang/Object")]) [3] rfl
      have hFc := va_free (wc := []) hD hS hA [] rfl
      refine va_callr (va_runV (As := [.int 6]) (rest := []) ⟨hx, hb, hml, hown, hts⟩ (cz_Qget_6_10 l dC dI ed H43.size lt 10 ota cOt fot ta6 hot6) (cwV 1 hts gX7_atHand_Jx4a65c_get_915e3 rfl rfl rfl (by decide +kernel) ⟨Nat.le_of_ble_eq_true rfl, Nat.le_of_ble_eq_true rfl⟩) ⟨zb_blind, va_recv hK (zo_R hR0 hS hAr) (ci := 1) (q0 := 5) rfl rfl, fun U hU hW => ⟨rfl, zb_mk hU hW hPr hPc hKc hDc hN hH hS hFc zx_e⟩⟩ rfl rfl hl.1 rfl (lv_room (Nat.le_of_ble_eq_true rfl)) dX7_atHand_23 ⟨Nat.le_of_ble_eq_true rfl, Nat.le_of_ble_eq_true rfl⟩) hS (fun q _ h => hFc q h) hFc (fun u r46 t H45 locs ht hvm hw hB hz1 hk1 hS => ?_)
      obtain ⟨hq47_0, hP1, hD1, hK1⟩ := hB
      rw [ht] at hP1
      obtain ⟨hP, hD⟩ := va_join (wr := []) (w1 := []) hP hD [] [] rfl rfl (by decide) (by decide) hk1 hFc hP1 hD1
      have hP : va_P (dC, dI) vwCl [] H45 := hP
      have hD : va_D A [] := hD
      obtain rfl : ta6 = r46 := hq47_0.symm
      refine va_castA (nm := "[I") hx hb hown (hts (.classLink RX7 46 "[I") (by decide +kernel)) (zo_R hR0 hS hAr) 13 rfl (show s.vm.findClass "[I" = some cB6 from (hK.2 10 _ rfl).2) dX7_atHand_26 ?_
      refine lv_astore (lv' := [(5, .ref ta6), (4, .int 6), (3, .int z3), (0, .ref mr), (1, .int x0), (2, .int x1)]) hx hb dX7_atHand_29 hl (by decide) rfl (fun ls hl => ?_)
      refine lv_aload hx hb dX7_atHand_31 (lv_at hl 0 rfl) ?_
      refine lv_iconst (v := 3) hx hb dX7_atHand_33 (by decide) ?_
      refine va_iald hx hb hK (zo_R hR0 hS hAr) 13 10 rfl rfl (by unfold vp_in; decide) dX7_atHand_34 ?_
      refine zo_i (v := y6) (by rw [show Int32.toNatClampNeg 3 = 3 from by decide]; exact hb6_3) ?_
      refine lv_if_ne (tgt := 62) hx hb dX7_atHand_35 (by decide) (fun c48 => ?_) (fun c48 => ?_)
      · skip
        refine lv_iconst (v := 0) hx hb dX7_atHand_62 (by decide) ?_
        refine lv_istore (lv' := [(6, .int 0), (5, .ref ta6), (4, .int 6), (3, .int z3), (0, .ref mr), (1, .int x0), (2, .int x1)]) hx hb dX7_atHand_63 hl (by decide) rfl (fun ls hl => ?_)
        refine lv_iload hx hb dX7_atHand_65 (lv_at hl 0 rfl) ?_
        refine lv_if_ne (tgt := 78) hx hb dX7_atHand_67 (by decide) (fun h => absurd h (by decide)) (fun _ => ?_)
        refine lv_aload hx hb dX7_atHand_70 (lv_at hl 1 rfl) ?_
        refine lv_iconst (v := 3) hx hb dX7_atHand_72 (by decide) ?_
        refine va_iald hx hb hK (zo_R hR0 hS hAr) 13 10 rfl rfl (by unfold vp_in; decide) dX7_atHand_73 ?_
        refine zo_i (v := y6) (by rw [show Int32.toNatClampNeg 3 = 3 from by decide]; exact hb6_3) ?_
        refine lv_iconst (v := 1) hx hb dX7_atHand_74 (by decide) ?_
        refine lv_icmp_ne (tgt := 85) hx hb dX7_atHand_75 (by decide) (fun c49 => ?_) (fun c49 => ?_)
        · skip
          refine lv_iinc (v := 7) (lv' := [(4, .int 7), (6, .int 0), (5, .ref ta6), (3, .int z3), (0, .ref mr), (1, .int x0), (2, .int x1)]) hx hb dX7_atHand_85 hl (k := 2) rfl (by decide) (by decide) rfl (fun ls hl => ?_)
          refine lv_goto (tgt := 5) hx hb dX7_atHand_88 (by decide) ?_
          exact ih _ _ _ ⟨z3, hP, hD, hS, (by rw [show nI (6 + 1) = (7 : Int32) from by decide]; exact lv_sub hl [0, 3, 4, 5, 6] rfl)⟩
        · skip
          refine lv_iload_n hx hb dX7_atHand_78 rfl (lv_at hl 3 rfl) ?_
          refine lv_iconst (v := 1) hx hb dX7_atHand_79 (by decide) ?_
          refine lv_iload hx hb dX7_atHand_80 (lv_at hl 2 rfl) ?_
          refine lv_ishl hx hb dX7_atHand_82 ?_
          refine zo_i (v := 64) (by decide) ?_
          refine lv_ior hx hb dX7_atHand_83 ?_
          refine lv_istore_n (lv' := [(3, .int (z3 ||| 64)), (6, .int 0), (5, .ref ta6), (4, .int 6), (0, .ref mr), (1, .int x0), (2, .int x1)]) hx hb dX7_atHand_84 rfl hl (by decide) rfl (fun ls hl => ?_)
          refine lv_iinc (v := 7) (lv' := [(4, .int 7), (3, .int (z3 ||| 64)), (6, .int 0), (5, .ref ta6), (0, .ref mr), (1, .int x0), (2, .int x1)]) hx hb dX7_atHand_85 hl (k := 3) rfl (by decide) (by decide) rfl (fun ls hl => ?_)
          refine lv_goto (tgt := 5) hx hb dX7_atHand_88 (by decide) ?_
          exact ih _ _ _ ⟨(z3 ||| 64), hP, hD, hS, (by rw [show nI (6 + 1) = (7 : Int32) from by decide]; exact lv_sub hl [0, 1, 4, 5, 6] rfl)⟩
      · skip
        refine lv_aload hx hb dX7_atHand_38 (lv_at hl 0 rfl) ?_
        refine lv_iconst (v := 0) hx hb dX7_atHand_40 (by decide) ?_
        refine va_iald hx hb hK (zo_R hR0 hS hAr) 13 10 rfl rfl (by unfold vp_in; decide) dX7_atHand_41 ?_
        refine zo_i (v := (-1)) (by rw [show Int32.toNatClampNeg 0 = 0 from by decide]; exact hb6_0) ?_
        refine lv_iconst (v := (-1)) hx hb dX7_atHand_42 (by decide) ?_
        refine lv_icmp_eq (tgt := 58) hx hb dX7_atHand_43 (by decide) (fun _ => ?_) (fun h => absurd h (by decide))
        refine lv_iconst (v := 1) hx hb dX7_atHand_58 (by decide) ?_
        refine lv_goto (tgt := 63) hx hb dX7_atHand_59 (by decide) ?_
        refine lv_istore (lv' := [(6, .int 1), (5, .ref ta6), (4, .int 6), (3, .int z3), (0, .ref mr), (1, .int x0), (2, .int x1)]) hx hb dX7_atHand_63 hl (by decide) rfl (fun ls hl => ?_)
        refine lv_iload hx hb dX7_atHand_65 (lv_at hl 0 rfl) ?_
        refine lv_if_ne (tgt := 78) hx hb dX7_atHand_67 (by decide) (fun _ => ?_) (fun h => absurd h (by decide))
        refine lv_iload_n hx hb dX7_atHand_78 rfl (lv_at hl 3 rfl) ?_
        refine lv_iconst (v := 1) hx hb dX7_atHand_79 (by decide) ?_
        refine lv_iload hx hb dX7_atHand_80 (lv_at hl 2 rfl) ?_
        refine lv_ishl hx hb dX7_atHand_82 ?_
        refine zo_i (v := 64) (by decide) ?_
        refine lv_ior hx hb dX7_atHand_83 ?_
        refine lv_istore_n (lv' := [(3, .int (z3 ||| 64)), (6, .int 1), (5, .ref ta6), (4, .int 6), (0, .ref mr), (1, .int x0), (2, .int x1)]) hx hb dX7_atHand_84 rfl hl (by decide) rfl (fun ls hl => ?_)
        refine lv_iinc (v := 7) (lv' := [(4, .int 7), (3, .int (z3 ||| 64)), (6, .int 1), (5, .ref ta6), (0, .ref mr), (1, .int x0), (2, .int x1)]) hx hb dX7_atHand_85 hl (k := 3) rfl (by decide) (by decide) rfl (fun ls hl => ?_)
        refine lv_goto (tgt := 5) hx hb dX7_atHand_88 (by decide) ?_
        exact ih _ _ _ ⟨(z3 ||| 64), hP, hD, hS, (by rw [show nI (6 + 1) = (7 : Int32) from by decide]; exact lv_sub hl [0, 1, 4, 5, 6] rfl)⟩
    · obtain ⟨z3, hP, hD, hS, hl⟩ := hI
      have hl : lv_has ls 7 [(4, .int 7), (3, .int z3), (0, .ref mr), (1, .int x0), (2, .int x1)] := by rw [show (7 : Int32) = nI 7 from by decide]; exact hl
      refine lv_iload hx hb dX7_atHand_5 (lv_at hl 0 rfl) ?_
      refine lv_aload_n hx hb dX7_atHand_7 rfl (lv_at hl 2 rfl) ?_
      refine va_get (D := (dC, dI)) (ci := 9) (v := .ref lt) (C := RX7) (T := TX7) (N := 14) hx hb hts zi_X7_atHand_X7 hown hK (zo_R hR0 hS hAr) 0 rfl rfl 1 (by decide) (hts (.fieldLink RX7 18 "LockRoomsModel$Room" "things" "Ljava/util/ArrayList;") (by decide +kernel)) (fun _ h9 => h9) rfl dX7_atHand_8 ?_
      have hPr := ((zo_R hR0 hS hAr)).sub (ws' := [(lt, .inr (1, [.int 10, .ref ota, .int 10]))]) [5] rfl
      have hPc := hP.sub (ws' := []) [] rfl
      have hDc := hD.sub (ws' := []) [] (by decide) rfl
      have hKc := hK.sub (tys' := []) [] rfl
      have hFc := va_free (wc := []) hD hS hA [] rfl
      refine va_calli (va_runV (As := []) (rest := [.int 7]) ⟨hx, hb, hml, hown, hts⟩ (cz_Qsize l dC dI ed H.size lt 10 ota 10) (cwV 0 hts gX7_atHand_Jx4a65c_size_8abf5 rfl rfl rfl (by decide +kernel) ⟨Nat.le_of_ble_eq_true rfl, Nat.le_of_ble_eq_true rfl⟩) ⟨zb_blind, va_recv hK (zo_R hR0 hS hAr) (ci := 1) (q0 := 5) rfl rfl, fun U hU hW => ⟨rfl, zb_mk hU hW hPr hPc hKc hDc hN hH hS hFc zx_e⟩⟩ rfl rfl hl.1 rfl (lv_room (Nat.le_of_ble_eq_true rfl)) dX7_atHand_11 ⟨Nat.le_of_ble_eq_true rfl, Nat.le_of_ble_eq_true rfl⟩) hS (fun q _ h => hFc q h) hFc (fun r51 u t H50 locs ht hvm hw hB hz1 hk1 hS => ?_)
      obtain rfl : r51 = 10 := hw.trans (by decide +kernel)
      have hP := zo_K hP hk1
      refine lv_icmp_ge (tgt := 91) hx hb dX7_atHand_14 (by decide) (fun h => absurd h (by decide)) (fun _ => ?_)
      refine lv_aload_n hx hb dX7_atHand_17 rfl (lv_at hl 2 rfl) ?_
      refine va_get (D := (dC, dI)) (ci := 9) (v := .ref lt) (C := RX7) (T := TX7) (N := 14) hx hb hts zi_X7_atHand_X7 hown hK (zo_R hR0 hS hAr) 0 rfl rfl 1 (by decide) (hts (.fieldLink RX7 18 "LockRoomsModel$Room" "things" "Ljava/util/ArrayList;") (by decide +kernel)) (fun _ h9 => h9) rfl dX7_atHand_18 ?_
      refine lv_iload hx hb dX7_atHand_21 (lv_at hl 0 rfl) ?_
      have hPr := ((zo_R hR0 hS hAr)).sub (ws' := [(lt, .inr (1, [.int 10, .ref ota, .int 10])), (ota, .inl (cOt, 10, .inr (.inr (.inr (.inr fot)))))]) [5, 6] rfl
      have hPc := hP.sub (ws' := []) [] rfl
      have hDc := hD.sub (ws' := []) [] (by decide) rfl
      have hKc := hK.sub (tys' := [(cOt, .object "java/lang/Object")]) [3] rfl
      have hFc := va_free (wc := []) hD hS hA [] rfl
      refine va_callr (va_runV (As := [.int 7]) (rest := []) ⟨hx, hb, hml, hown, hts⟩ (cz_Qget_7_10 l dC dI ed H50.size lt 10 ota cOt fot ta7 hot7) (cwV 1 hts gX7_atHand_Jx4a65c_get_915e3 rfl rfl rfl (by decide +kernel) ⟨Nat.le_of_ble_eq_true rfl, Nat.le_of_ble_eq_true rfl⟩) ⟨zb_blind, va_recv hK (zo_R hR0 hS hAr) (ci := 1) (q0 := 5) rfl rfl, fun U hU hW => ⟨rfl, zb_mk hU hW hPr hPc hKc hDc hN hH hS hFc zx_e⟩⟩ rfl rfl hl.1 rfl (lv_room (Nat.le_of_ble_eq_true rfl)) dX7_atHand_23 ⟨Nat.le_of_ble_eq_true rfl, Nat.le_of_ble_eq_true rfl⟩) hS (fun q _ h => hFc q h) hFc (fun u r53 t H52 locs ht hvm hw hB hz1 hk1 hS => ?_)
      obtain ⟨hq54_0, hP1, hD1, hK1⟩ := hB
      rw [ht] at hP1
      obtain ⟨hP, hD⟩ := va_join (wr := []) (w1 := []) hP hD [] [] rfl rfl (by decide) (by decide) hk1 hFc hP1 hD1
      have hP : va_P (dC, dI) vwCl [] H52 := hP
      have hD : va_D A [] := hD
      obtain rfl : ta7 = r53 := hq54_0.symm
      refine va_castA (nm := "[I") hx hb hown (hts (.classLink RX7 46 "[I") (by decide +kernel)) (zo_R hR0 hS hAr) 14 rfl (show s.vm.findClass "[I" = some cB7 from (hK.2 11 _ rfl).2) dX7_atHand_26 ?_
      refine lv_astore (lv' := [(5, .ref ta7), (4, .int 7), (3, .int z3), (0, .ref mr), (1, .int x0), (2, .int x1)]) hx hb dX7_atHand_29 hl (by decide) rfl (fun ls hl => ?_)
      refine lv_aload hx hb dX7_atHand_31 (lv_at hl 0 rfl) ?_
      refine lv_iconst (v := 3) hx hb dX7_atHand_33 (by decide) ?_
      refine va_iald hx hb hK (zo_R hR0 hS hAr) 14 11 rfl rfl (by unfold vp_in; decide) dX7_atHand_34 ?_
      refine zo_i (v := y7) (by rw [show Int32.toNatClampNeg 3 = 3 from by decide]; exact hb7_3) ?_
      refine lv_if_ne (tgt := 62) hx hb dX7_atHand_35 (by decide) (fun c55 => ?_) (fun c55 => ?_)
      · skip
        refine lv_iconst (v := 0) hx hb dX7_atHand_62 (by decide) ?_
        refine lv_istore (lv' := [(6, .int 0), (5, .ref ta7), (4, .int 7), (3, .int z3), (0, .ref mr), (1, .int x0), (2, .int x1)]) hx hb dX7_atHand_63 hl (by decide) rfl (fun ls hl => ?_)
        refine lv_iload hx hb dX7_atHand_65 (lv_at hl 0 rfl) ?_
        refine lv_if_ne (tgt := 78) hx hb dX7_atHand_67 (by decide) (fun h => absurd h (by decide)) (fun _ => ?_)
        refine lv_aload hx hb dX7_atHand_70 (lv_at hl 1 rfl) ?_
        refine lv_iconst (v := 3) hx hb dX7_atHand_72 (by decide) ?_
        refine va_iald hx hb hK (zo_R hR0 hS hAr) 14 11 rfl rfl (by unfold vp_in; decide) dX7_atHand_73 ?_
        refine zo_i (v := y7) (by rw [show Int32.toNatClampNeg 3 = 3 from by decide]; exact hb7_3) ?_
        refine lv_iconst (v := 1) hx hb dX7_atHand_74 (by decide) ?_
        refine lv_icmp_ne (tgt := 85) hx hb dX7_atHand_75 (by decide) (fun c56 => ?_) (fun c56 => ?_)
        · skip
          refine lv_iinc (v := 8) (lv' := [(4, .int 8), (6, .int 0), (5, .ref ta7), (3, .int z3), (0, .ref mr), (1, .int x0), (2, .int x1)]) hx hb dX7_atHand_85 hl (k := 2) rfl (by decide) (by decide) rfl (fun ls hl => ?_)
          refine lv_goto (tgt := 5) hx hb dX7_atHand_88 (by decide) ?_
          exact ih _ _ _ ⟨z3, hP, hD, hS, (by rw [show nI (7 + 1) = (8 : Int32) from by decide]; exact lv_sub hl [0, 3, 4, 5, 6] rfl)⟩
        · skip
          refine lv_iload_n hx hb dX7_atHand_78 rfl (lv_at hl 3 rfl) ?_
          refine lv_iconst (v := 1) hx hb dX7_atHand_79 (by decide) ?_
          refine lv_iload hx hb dX7_atHand_80 (lv_at hl 2 rfl) ?_
          refine lv_ishl hx hb dX7_atHand_82 ?_
          refine zo_i (v := 128) (by decide) ?_
          refine lv_ior hx hb dX7_atHand_83 ?_
          refine lv_istore_n (lv' := [(3, .int (z3 ||| 128)), (6, .int 0), (5, .ref ta7), (4, .int 7), (0, .ref mr), (1, .int x0), (2, .int x1)]) hx hb dX7_atHand_84 rfl hl (by decide) rfl (fun ls hl => ?_)
          refine lv_iinc (v := 8) (lv' := [(4, .int 8), (3, .int (z3 ||| 128)), (6, .int 0), (5, .ref ta7), (0, .ref mr), (1, .int x0), (2, .int x1)]) hx hb dX7_atHand_85 hl (k := 3) rfl (by decide) (by decide) rfl (fun ls hl => ?_)
          refine lv_goto (tgt := 5) hx hb dX7_atHand_88 (by decide) ?_
          exact ih _ _ _ ⟨(z3 ||| 128), hP, hD, hS, (by rw [show nI (7 + 1) = (8 : Int32) from by decide]; exact lv_sub hl [0, 1, 4, 5, 6] rfl)⟩
      · skip
        refine lv_aload hx hb dX7_atHand_38 (lv_at hl 0 rfl) ?_
        refine lv_iconst (v := 0) hx hb dX7_atHand_40 (by decide) ?_
        refine va_iald hx hb hK (zo_R hR0 hS hAr) 14 11 rfl rfl (by unfold vp_in; decide) dX7_atHand_41 ?_
        refine zo_i (v := (-1)) (by rw [show Int32.toNatClampNeg 0 = 0 from by decide]; exact hb7_0) ?_
        refine lv_iconst (v := (-1)) hx hb dX7_atHand_42 (by decide) ?_
        refine lv_icmp_eq (tgt := 58) hx hb dX7_atHand_43 (by decide) (fun _ => ?_) (fun h => absurd h (by decide))
        refine lv_iconst (v := 1) hx hb dX7_atHand_58 (by decide) ?_
        refine lv_goto (tgt := 63) hx hb dX7_atHand_59 (by decide) ?_
        refine lv_istore (lv' := [(6, .int 1), (5, .ref ta7), (4, .int 7), (3, .int z3), (0, .ref mr), (1, .int x0), (2, .int x1)]) hx hb dX7_atHand_63 hl (by decide) rfl (fun ls hl => ?_)
        refine lv_iload hx hb dX7_atHand_65 (lv_at hl 0 rfl) ?_
        refine lv_if_ne (tgt := 78) hx hb dX7_atHand_67 (by decide) (fun _ => ?_) (fun h => absurd h (by decide))
        refine lv_iload_n hx hb dX7_atHand_78 rfl (lv_at hl 3 rfl) ?_
        refine lv_iconst (v := 1) hx hb dX7_atHand_79 (by decide) ?_
        refine lv_iload hx hb dX7_atHand_80 (lv_at hl 2 rfl) ?_
        refine lv_ishl hx hb dX7_atHand_82 ?_
        refine zo_i (v := 128) (by decide) ?_
        refine lv_ior hx hb dX7_atHand_83 ?_
        refine lv_istore_n (lv' := [(3, .int (z3 ||| 128)), (6, .int 1), (5, .ref ta7), (4, .int 7), (0, .ref mr), (1, .int x0), (2, .int x1)]) hx hb dX7_atHand_84 rfl hl (by decide) rfl (fun ls hl => ?_)
        refine lv_iinc (v := 8) (lv' := [(4, .int 8), (3, .int (z3 ||| 128)), (6, .int 1), (5, .ref ta7), (0, .ref mr), (1, .int x0), (2, .int x1)]) hx hb dX7_atHand_85 hl (k := 3) rfl (by decide) (by decide) rfl (fun ls hl => ?_)
        refine lv_goto (tgt := 5) hx hb dX7_atHand_88 (by decide) ?_
        exact ih _ _ _ ⟨(z3 ||| 128), hP, hD, hS, (by rw [show nI (7 + 1) = (8 : Int32) from by decide]; exact lv_sub hl [0, 1, 4, 5, 6] rfl)⟩
    · obtain ⟨z3, hP, hD, hS, hl⟩ := hI
      have hl : lv_has ls 7 [(4, .int 8), (3, .int z3), (0, .ref mr), (1, .int x0), (2, .int x1)] := by rw [show (8 : Int32) = nI 8 from by decide]; exact hl
      refine lv_iload hx hb dX7_atHand_5 (lv_at hl 0 rfl) ?_
      refine lv_aload_n hx hb dX7_atHand_7 rfl (lv_at hl 2 rfl) ?_
      refine va_get (D := (dC, dI)) (ci := 9) (v := .ref lt) (C := RX7) (T := TX7) (N := 14) hx hb hts zi_X7_atHand_X7 hown hK (zo_R hR0 hS hAr) 0 rfl rfl 1 (by decide) (hts (.fieldLink RX7 18 "LockRoomsModel$Room" "things" "Ljava/util/ArrayList;") (by decide +kernel)) (fun _ h9 => h9) rfl dX7_atHand_8 ?_
      have hPr := ((zo_R hR0 hS hAr)).sub (ws' := [(lt, .inr (1, [.int 10, .ref ota, .int 10]))]) [5] rfl
      have hPc := hP.sub (ws' := []) [] rfl
      have hDc := hD.sub (ws' := []) [] (by decide) rfl
      have hKc := hK.sub (tys' := []) [] rfl
      have hFc := va_free (wc := []) hD hS hA [] rfl
      refine va_calli (va_runV (As := []) (rest := [.int 8]) ⟨hx, hb, hml, hown, hts⟩ (cz_Qsize l dC dI ed H.size lt 10 ota 10) (cwV 0 hts gX7_atHand_Jx4a65c_size_8abf5 rfl rfl rfl (by decide +kernel) ⟨Nat.le_of_ble_eq_true rfl, Nat.le_of_ble_eq_true rfl⟩) ⟨zb_blind, va_recv hK (zo_R hR0 hS hAr) (ci := 1) (q0 := 5) rfl rfl, fun U hU hW => ⟨rfl, zb_mk hU hW hPr hPc hKc hDc hN hH hS hFc zx_e⟩⟩ rfl rfl hl.1 rfl (lv_room (Nat.le_of_ble_eq_true rfl)) dX7_atHand_11 ⟨Nat.le_of_ble_eq_true rfl, Nat.le_of_ble_eq_true rfl⟩) hS (fun q _ h => hFc q h) hFc (fun r58 u t H57 locs ht hvm hw hB hz1 hk1 hS => ?_)
      obtain rfl : r58 = 10 := hw.trans (by decide +kernel)
      have hP := zo_K hP hk1
      refine lv_icmp_ge (tgt := 91) hx hb dX7_atHand_14 (by decide) (fun h => absurd h (by decide)) (fun _ => ?_)
      refine lv_aload_n hx hb dX7_atHand_17 rfl (lv_at hl 2 rfl) ?_
      refine va_get (D := (dC, dI)) (ci := 9) (v := .ref lt) (C := RX7) (T := TX7) (N := 14) hx hb hts zi_X7_atHand_X7 hown hK (zo_R hR0 hS hAr) 0 rfl rfl 1 (by decide) (hts (.fieldLink RX7 18 "LockRoomsModel$Room" "things" "Ljava/util/ArrayList;") (by decide +kernel)) (fun _ h9 => h9) rfl dX7_atHand_18 ?_
      refine lv_iload hx hb dX7_atHand_21 (lv_at hl 0 rfl) ?_
      have hPr := ((zo_R hR0 hS hAr)).sub (ws' := [(lt, .inr (1, [.int 10, .ref ota, .int 10])), (ota, .inl (cOt, 10, .inr (.inr (.inr (.inr fot)))))]) [5, 6] rfl
      have hPc := hP.sub (ws' := []) [] rfl
      have hDc := hD.sub (ws' := []) [] (by decide) rfl
      have hKc := hK.sub (tys' := [(cOt, .object "java/lang/Object")]) [3] rfl
      have hFc := va_free (wc := []) hD hS hA [] rfl
      refine va_callr (va_runV (As := [.int 8]) (rest := []) ⟨hx, hb, hml, hown, hts⟩ (cz_Qget_8_10 l dC dI ed H57.size lt 10 ota cOt fot ta8 hot8) (cwV 1 hts gX7_atHand_Jx4a65c_get_915e3 rfl rfl rfl (by decide +kernel) ⟨Nat.le_of_ble_eq_true rfl, Nat.le_of_ble_eq_true rfl⟩) ⟨zb_blind, va_recv hK (zo_R hR0 hS hAr) (ci := 1) (q0 := 5) rfl rfl, fun U hU hW => ⟨rfl, zb_mk hU hW hPr hPc hKc hDc hN hH hS hFc zx_e⟩⟩ rfl rfl hl.1 rfl (lv_room (Nat.le_of_ble_eq_true rfl)) dX7_atHand_23 ⟨Nat.le_of_ble_eq_true rfl, Nat.le_of_ble_eq_true rfl⟩) hS (fun q _ h => hFc q h) hFc (fun u r60 t H59 locs ht hvm hw hB hz1 hk1 hS => ?_)
      obtain ⟨hq61_0, hP1, hD1, hK1⟩ := hB
      rw [ht] at hP1
      obtain ⟨hP, hD⟩ := va_join (wr := []) (w1 := []) hP hD [] [] rfl rfl (by decide) (by decide) hk1 hFc hP1 hD1
      have hP : va_P (dC, dI) vwCl [] H59 := hP
      have hD : va_D A [] := hD
      obtain rfl : ta8 = r60 := hq61_0.symm
      refine va_castA (nm := "[I") hx hb hown (hts (.classLink RX7 46 "[I") (by decide +kernel)) (zo_R hR0 hS hAr) 15 rfl (show s.vm.findClass "[I" = some cB8 from (hK.2 12 _ rfl).2) dX7_atHand_26 ?_
      refine lv_astore (lv' := [(5, .ref ta8), (4, .int 8), (3, .int z3), (0, .ref mr), (1, .int x0), (2, .int x1)]) hx hb dX7_atHand_29 hl (by decide) rfl (fun ls hl => ?_)
      refine lv_aload hx hb dX7_atHand_31 (lv_at hl 0 rfl) ?_
      refine lv_iconst (v := 3) hx hb dX7_atHand_33 (by decide) ?_
      refine va_iald hx hb hK (zo_R hR0 hS hAr) 15 12 rfl rfl (by unfold vp_in; decide) dX7_atHand_34 ?_
      refine zo_i (v := y8) (by rw [show Int32.toNatClampNeg 3 = 3 from by decide]; exact hb8_3) ?_
      refine lv_if_ne (tgt := 62) hx hb dX7_atHand_35 (by decide) (fun c62 => ?_) (fun c62 => ?_)
      · skip
        refine lv_iconst (v := 0) hx hb dX7_atHand_62 (by decide) ?_
        refine lv_istore (lv' := [(6, .int 0), (5, .ref ta8), (4, .int 8), (3, .int z3), (0, .ref mr), (1, .int x0), (2, .int x1)]) hx hb dX7_atHand_63 hl (by decide) rfl (fun ls hl => ?_)
        refine lv_iload hx hb dX7_atHand_65 (lv_at hl 0 rfl) ?_
        refine lv_if_ne (tgt := 78) hx hb dX7_atHand_67 (by decide) (fun h => absurd h (by decide)) (fun _ => ?_)
        refine lv_aload hx hb dX7_atHand_70 (lv_at hl 1 rfl) ?_
        refine lv_iconst (v := 3) hx hb dX7_atHand_72 (by decide) ?_
        refine va_iald hx hb hK (zo_R hR0 hS hAr) 15 12 rfl rfl (by unfold vp_in; decide) dX7_atHand_73 ?_
        refine zo_i (v := y8) (by rw [show Int32.toNatClampNeg 3 = 3 from by decide]; exact hb8_3) ?_
        refine lv_iconst (v := 1) hx hb dX7_atHand_74 (by decide) ?_
        refine lv_icmp_ne (tgt := 85) hx hb dX7_atHand_75 (by decide) (fun c63 => ?_) (fun c63 => ?_)
        · skip
          refine lv_iinc (v := 9) (lv' := [(4, .int 9), (6, .int 0), (5, .ref ta8), (3, .int z3), (0, .ref mr), (1, .int x0), (2, .int x1)]) hx hb dX7_atHand_85 hl (k := 2) rfl (by decide) (by decide) rfl (fun ls hl => ?_)
          refine lv_goto (tgt := 5) hx hb dX7_atHand_88 (by decide) ?_
          exact ih _ _ _ ⟨z3, hP, hD, hS, (by rw [show nI (8 + 1) = (9 : Int32) from by decide]; exact lv_sub hl [0, 3, 4, 5, 6] rfl)⟩
        · skip
          refine lv_iload_n hx hb dX7_atHand_78 rfl (lv_at hl 3 rfl) ?_
          refine lv_iconst (v := 1) hx hb dX7_atHand_79 (by decide) ?_
          refine lv_iload hx hb dX7_atHand_80 (lv_at hl 2 rfl) ?_
          refine lv_ishl hx hb dX7_atHand_82 ?_
          refine zo_i (v := 256) (by decide) ?_
          refine lv_ior hx hb dX7_atHand_83 ?_
          refine lv_istore_n (lv' := [(3, .int (z3 ||| 256)), (6, .int 0), (5, .ref ta8), (4, .int 8), (0, .ref mr), (1, .int x0), (2, .int x1)]) hx hb dX7_atHand_84 rfl hl (by decide) rfl (fun ls hl => ?_)
          refine lv_iinc (v := 9) (lv' := [(4, .int 9), (3, .int (z3 ||| 256)), (6, .int 0), (5, .ref ta8), (0, .ref mr), (1, .int x0), (2, .int x1)]) hx hb dX7_atHand_85 hl (k := 3) rfl (by decide) (by decide) rfl (fun ls hl => ?_)
          refine lv_goto (tgt := 5) hx hb dX7_atHand_88 (by decide) ?_
          exact ih _ _ _ ⟨(z3 ||| 256), hP, hD, hS, (by rw [show nI (8 + 1) = (9 : Int32) from by decide]; exact lv_sub hl [0, 1, 4, 5, 6] rfl)⟩
      · skip
        refine lv_aload hx hb dX7_atHand_38 (lv_at hl 0 rfl) ?_
        refine lv_iconst (v := 0) hx hb dX7_atHand_40 (by decide) ?_
        refine va_iald hx hb hK (zo_R hR0 hS hAr) 15 12 rfl rfl (by unfold vp_in; decide) dX7_atHand_41 ?_
        refine zo_i (v := (-1)) (by rw [show Int32.toNatClampNeg 0 = 0 from by decide]; exact hb8_0) ?_
        refine lv_iconst (v := (-1)) hx hb dX7_atHand_42 (by decide) ?_
        refine lv_icmp_eq (tgt := 58) hx hb dX7_atHand_43 (by decide) (fun _ => ?_) (fun h => absurd h (by decide))
        refine lv_iconst (v := 1) hx hb dX7_atHand_58 (by decide) ?_
        refine lv_goto (tgt := 63) hx hb dX7_atHand_59 (by decide) ?_
        refine lv_istore (lv' := [(6, .int 1), (5, .ref ta8), (4, .int 8), (3, .int z3), (0, .ref mr), (1, .int x0), (2, .int x1)]) hx hb dX7_atHand_63 hl (by decide) rfl (fun ls hl => ?_)
        refine lv_iload hx hb dX7_atHand_65 (lv_at hl 0 rfl) ?_
        refine lv_if_ne (tgt := 78) hx hb dX7_atHand_67 (by decide) (fun _ => ?_) (fun h => absurd h (by decide))
        refine lv_iload_n hx hb dX7_atHand_78 rfl (lv_at hl 3 rfl) ?_
        refine lv_iconst (v := 1) hx hb dX7_atHand_79 (by decide) ?_
        refine lv_iload hx hb dX7_atHand_80 (lv_at hl 2 rfl) ?_
        refine lv_ishl hx hb dX7_atHand_82 ?_
        refine zo_i (v := 256) (by decide) ?_
        refine lv_ior hx hb dX7_atHand_83 ?_
        refine lv_istore_n (lv' := [(3, .int (z3 ||| 256)), (6, .int 1), (5, .ref ta8), (4, .int 8), (0, .ref mr), (1, .int x0), (2, .int x1)]) hx hb dX7_atHand_84 rfl hl (by decide) rfl (fun ls hl => ?_)
        refine lv_iinc (v := 9) (lv' := [(4, .int 9), (3, .int (z3 ||| 256)), (6, .int 1), (5, .ref ta8), (0, .ref mr), (1, .int x0), (2, .int x1)]) hx hb dX7_atHand_85 hl (k := 3) rfl (by decide) (by decide) rfl (fun ls hl => ?_)
        refine lv_goto (tgt := 5) hx hb dX7_atHand_88 (by decide) ?_
        exact ih _ _ _ ⟨(z3 ||| 256), hP, hD, hS, (by rw [show nI (8 + 1) = (9 : Int32) from by decide]; exact lv_sub hl [0, 1, 4, 5, 6] rfl)⟩
    · obtain ⟨z3, hP, hD, hS, hl⟩ := hI
      have hl : lv_has ls 7 [(4, .int 9), (3, .int z3), (0, .ref mr), (1, .int x0), (2, .int x1)] := by rw [show (9 : Int32) = nI 9 from by decide]; exact hl
      refine lv_iload hx hb dX7_atHand_5 (lv_at hl 0 rfl) ?_
      refine lv_aload_n hx hb dX7_atHand_7 rfl (lv_at hl 2 rfl) ?_
      refine va_get (D := (dC, dI)) (ci := 9) (v := .ref lt) (C := RX7) (T := TX7) (N := 14) hx hb hts zi_X7_atHand_X7 hown hK (zo_R hR0 hS hAr) 0 rfl rfl 1 (by decide) (hts (.fieldLink RX7 18 "LockRoomsModel$Room" "things" "Ljava/util/ArrayList;") (by decide +kernel)) (fun _ h9 => h9) rfl dX7_atHand_8 ?_
      have hPr := ((zo_R hR0 hS hAr)).sub (ws' := [(lt, .inr (1, [.int 10, .ref ota, .int 10]))]) [5] rfl
      have hPc := hP.sub (ws' := []) [] rfl
      have hDc := hD.sub (ws' := []) [] (by decide) rfl
      have hKc := hK.sub (tys' := []) [] rfl
      have hFc := va_free (wc := []) hD hS hA [] rfl
      refine va_calli (va_runV (As := []) (rest := [.int 9]) ⟨hx, hb, hml, hown, hts⟩ (cz_Qsize l dC dI ed H.size lt 10 ota 10) (cwV 0 hts gX7_atHand_Jx4a65c_size_8abf5 rfl rfl rfl (by decide +kernel) ⟨Nat.le_of_ble_eq_true rfl, Nat.le_of_ble_eq_true rfl⟩) ⟨zb_blind, va_recv hK (zo_R hR0 hS hAr) (ci := 1) (q0 := 5) rfl rfl, fun U hU hW => ⟨rfl, zb_mk hU hW hPr hPc hKc hDc hN hH hS hFc zx_e⟩⟩ rfl rfl hl.1 rfl (lv_room (Nat.le_of_ble_eq_true rfl)) dX7_atHand_11 ⟨Nat.le_of_ble_eq_true rfl, Nat.le_of_ble_eq_true rfl⟩) hS (fun q _ h => hFc q h) hFc (fun r65 u t H64 locs ht hvm hw hB hz1 hk1 hS => ?_)
      obtain rfl : r65 = 10 := hw.trans (by decide +kernel)
      have hP := zo_K hP hk1
      refine lv_icmp_ge (tgt := 91) hx hb dX7_atHand_14 (by decide) (fun h => absurd h (by decide)) (fun _ => ?_)
      refine lv_aload_n hx hb dX7_atHand_17 rfl (lv_at hl 2 rfl) ?_
      refine va_get (D := (dC, dI)) (ci := 9) (v := .ref lt) (C := RX7) (T := TX7) (N := 14) hx hb hts zi_X7_atHand_X7 hown hK (zo_R hR0 hS hAr) 0 rfl rfl 1 (by decide) (hts (.fieldLink RX7 18 "LockRoomsModel$Room" "things" "Ljava/util/ArrayList;") (by decide +kernel)) (fun _ h9 => h9) rfl dX7_atHand_18 ?_
      refine lv_iload hx hb dX7_atHand_21 (lv_at hl 0 rfl) ?_
      have hPr := ((zo_R hR0 hS hAr)).sub (ws' := [(lt, .inr (1, [.int 10, .ref ota, .int 10])), (ota, .inl (cOt, 10, .inr (.inr (.inr (.inr fot)))))]) [5, 6] rfl
      have hPc := hP.sub (ws' := []) [] rfl
      have hDc := hD.sub (ws' := []) [] (by decide) rfl
      have hKc := hK.sub (tys' := [(cOt, .object "java/lang/Object")]) [3] rfl
      have hFc := va_free (wc := []) hD hS hA [] rfl
      refine va_callr (va_runV (As := [.int 9]) (rest := []) ⟨hx, hb, hml, hown, hts⟩ (cz_Qget_9_10 l dC dI ed H64.size lt 10 ota cOt fot ta9 hot9) (cwV 1 hts gX7_atHand_Jx4a65c_get_915e3 rfl rfl rfl (by decide +kernel) ⟨Nat.le_of_ble_eq_true rfl, Nat.le_of_ble_eq_true rfl⟩) ⟨zb_blind, va_recv hK (zo_R hR0 hS hAr) (ci := 1) (q0 := 5) rfl rfl, fun U hU hW => ⟨rfl, zb_mk hU hW hPr hPc hKc hDc hN hH hS hFc zx_e⟩⟩ rfl rfl hl.1 rfl (lv_room (Nat.le_of_ble_eq_true rfl)) dX7_atHand_23 ⟨Nat.le_of_ble_eq_true rfl, Nat.le_of_ble_eq_true rfl⟩) hS (fun q _ h => hFc q h) hFc (fun u r67 t H66 locs ht hvm hw hB hz1 hk1 hS => ?_)
      obtain ⟨hq68_0, hP1, hD1, hK1⟩ := hB
      rw [ht] at hP1
      obtain ⟨hP, hD⟩ := va_join (wr := []) (w1 := []) hP hD [] [] rfl rfl (by decide) (by decide) hk1 hFc hP1 hD1
      have hP : va_P (dC, dI) vwCl [] H66 := hP
      have hD : va_D A [] := hD
      obtain rfl : ta9 = r67 := hq68_0.symm
      refine va_castA (nm := "[I") hx hb hown (hts (.classLink RX7 46 "[I") (by decide +kernel)) (zo_R hR0 hS hAr) 16 rfl (show s.vm.findClass "[I" = some cB9 from (hK.2 13 _ rfl).2) dX7_atHand_26 ?_
      refine lv_astore (lv' := [(5, .ref ta9), (4, .int 9), (3, .int z3), (0, .ref mr), (1, .int x0), (2, .int x1)]) hx hb dX7_atHand_29 hl (by decide) rfl (fun ls hl => ?_)
      refine lv_aload hx hb dX7_atHand_31 (lv_at hl 0 rfl) ?_
      refine lv_iconst (v := 3) hx hb dX7_atHand_33 (by decide) ?_
      refine va_iald hx hb hK (zo_R hR0 hS hAr) 16 13 rfl rfl (by unfold vp_in; decide) dX7_atHand_34 ?_
      refine zo_i (v := y9) (by rw [show Int32.toNatClampNeg 3 = 3 from by decide]; exact hb9_3) ?_
      refine lv_if_ne (tgt := 62) hx hb dX7_atHand_35 (by decide) (fun c69 => ?_) (fun c69 => ?_)
      · skip
        refine lv_iconst (v := 0) hx hb dX7_atHand_62 (by decide) ?_
        refine lv_istore (lv' := [(6, .int 0), (5, .ref ta9), (4, .int 9), (3, .int z3), (0, .ref mr), (1, .int x0), (2, .int x1)]) hx hb dX7_atHand_63 hl (by decide) rfl (fun ls hl => ?_)
        refine lv_iload hx hb dX7_atHand_65 (lv_at hl 0 rfl) ?_
        refine lv_if_ne (tgt := 78) hx hb dX7_atHand_67 (by decide) (fun h => absurd h (by decide)) (fun _ => ?_)
        refine lv_aload hx hb dX7_atHand_70 (lv_at hl 1 rfl) ?_
        refine lv_iconst (v := 3) hx hb dX7_atHand_72 (by decide) ?_
        refine va_iald hx hb hK (zo_R hR0 hS hAr) 16 13 rfl rfl (by unfold vp_in; decide) dX7_atHand_73 ?_
        refine zo_i (v := y9) (by rw [show Int32.toNatClampNeg 3 = 3 from by decide]; exact hb9_3) ?_
        refine lv_iconst (v := 1) hx hb dX7_atHand_74 (by decide) ?_
        refine lv_icmp_ne (tgt := 85) hx hb dX7_atHand_75 (by decide) (fun c70 => ?_) (fun c70 => ?_)
        · skip
          refine lv_iinc (v := 10) (lv' := [(4, .int 10), (6, .int 0), (5, .ref ta9), (3, .int z3), (0, .ref mr), (1, .int x0), (2, .int x1)]) hx hb dX7_atHand_85 hl (k := 2) rfl (by decide) (by decide) rfl (fun ls hl => ?_)
          refine lv_goto (tgt := 5) hx hb dX7_atHand_88 (by decide) ?_
          exact ih _ _ _ ⟨z3, hP, hD, hS, (by rw [show nI (9 + 1) = (10 : Int32) from by decide]; exact lv_sub hl [0, 3, 4, 5, 6] rfl)⟩
        · skip
          refine lv_iload_n hx hb dX7_atHand_78 rfl (lv_at hl 3 rfl) ?_
          refine lv_iconst (v := 1) hx hb dX7_atHand_79 (by decide) ?_
          refine lv_iload hx hb dX7_atHand_80 (lv_at hl 2 rfl) ?_
          refine lv_ishl hx hb dX7_atHand_82 ?_
          refine zo_i (v := 512) (by decide) ?_
          refine lv_ior hx hb dX7_atHand_83 ?_
          refine lv_istore_n (lv' := [(3, .int (z3 ||| 512)), (6, .int 0), (5, .ref ta9), (4, .int 9), (0, .ref mr), (1, .int x0), (2, .int x1)]) hx hb dX7_atHand_84 rfl hl (by decide) rfl (fun ls hl => ?_)
          refine lv_iinc (v := 10) (lv' := [(4, .int 10), (3, .int (z3 ||| 512)), (6, .int 0), (5, .ref ta9), (0, .ref mr), (1, .int x0), (2, .int x1)]) hx hb dX7_atHand_85 hl (k := 3) rfl (by decide) (by decide) rfl (fun ls hl => ?_)
          refine lv_goto (tgt := 5) hx hb dX7_atHand_88 (by decide) ?_
          exact ih _ _ _ ⟨(z3 ||| 512), hP, hD, hS, (by rw [show nI (9 + 1) = (10 : Int32) from by decide]; exact lv_sub hl [0, 1, 4, 5, 6] rfl)⟩
      · skip
        refine lv_aload hx hb dX7_atHand_38 (lv_at hl 0 rfl) ?_
        refine lv_iconst (v := 0) hx hb dX7_atHand_40 (by decide) ?_
        refine va_iald hx hb hK (zo_R hR0 hS hAr) 16 13 rfl rfl (by unfold vp_in; decide) dX7_atHand_41 ?_
        refine zo_i (v := (-1)) (by rw [show Int32.toNatClampNeg 0 = 0 from by decide]; exact hb9_0) ?_
        refine lv_iconst (v := (-1)) hx hb dX7_atHand_42 (by decide) ?_
        refine lv_icmp_eq (tgt := 58) hx hb dX7_atHand_43 (by decide) (fun _ => ?_) (fun h => absurd h (by decide))
        refine lv_iconst (v := 1) hx hb dX7_atHand_58 (by decide) ?_
        refine lv_goto (tgt := 63) hx hb dX7_atHand_59 (by decide) ?_
        refine lv_istore (lv' := [(6, .int 1), (5, .ref ta9), (4, .int 9), (3, .int z3), (0, .ref mr), (1, .int x0), (2, .int x1)]) hx hb dX7_atHand_63 hl (by decide) rfl (fun ls hl => ?_)
        refine lv_iload hx hb dX7_atHand_65 (lv_at hl 0 rfl) ?_
        refine lv_if_ne (tgt := 78) hx hb dX7_atHand_67 (by decide) (fun _ => ?_) (fun h => absurd h (by decide))
        refine lv_iload_n hx hb dX7_atHand_78 rfl (lv_at hl 3 rfl) ?_
        refine lv_iconst (v := 1) hx hb dX7_atHand_79 (by decide) ?_
        refine lv_iload hx hb dX7_atHand_80 (lv_at hl 2 rfl) ?_
        refine lv_ishl hx hb dX7_atHand_82 ?_
        refine zo_i (v := 512) (by decide) ?_
        refine lv_ior hx hb dX7_atHand_83 ?_
        refine lv_istore_n (lv' := [(3, .int (z3 ||| 512)), (6, .int 1), (5, .ref ta9), (4, .int 9), (0, .ref mr), (1, .int x0), (2, .int x1)]) hx hb dX7_atHand_84 rfl hl (by decide) rfl (fun ls hl => ?_)
        refine lv_iinc (v := 10) (lv' := [(4, .int 10), (3, .int (z3 ||| 512)), (6, .int 1), (5, .ref ta9), (0, .ref mr), (1, .int x0), (2, .int x1)]) hx hb dX7_atHand_85 hl (k := 3) rfl (by decide) (by decide) rfl (fun ls hl => ?_)
        refine lv_goto (tgt := 5) hx hb dX7_atHand_88 (by decide) ?_
        exact ih _ _ _ ⟨(z3 ||| 512), hP, hD, hS, (by rw [show nI (9 + 1) = (10 : Int32) from by decide]; exact lv_sub hl [0, 1, 4, 5, 6] rfl)⟩
  · obtain ⟨z3, hP, hD, hS, hl⟩ := hI
    have hl : lv_has ls 7 [(4, .int 10), (3, .int z3), (0, .ref mr), (1, .int x0), (2, .int x1)] := by rw [show (10 : Int32) = nI 10 from by decide]; exact hl
    refine lv_iload hx hb dX7_atHand_5 (lv_at hl 0 rfl) ?_
    refine lv_aload_n hx hb dX7_atHand_7 rfl (lv_at hl 2 rfl) ?_
    refine va_get (D := (dC, dI)) (ci := 9) (v := .ref lt) (C := RX7) (T := TX7) (N := 14) hx hb hts zi_X7_atHand_X7 hown hK (zo_R hR0 hS hAr) 0 rfl rfl 1 (by decide) (hts (.fieldLink RX7 18 "LockRoomsModel$Room" "things" "Ljava/util/ArrayList;") (by decide +kernel)) (fun _ h9 => h9) rfl dX7_atHand_8 ?_
    have hPr := ((zo_R hR0 hS hAr)).sub (ws' := [(lt, .inr (1, [.int 10, .ref ota, .int 10]))]) [5] rfl
    have hPc := hP.sub (ws' := []) [] rfl
    have hDc := hD.sub (ws' := []) [] (by decide) rfl
    have hKc := hK.sub (tys' := []) [] rfl
    have hFc := va_free (wc := []) hD hS hA [] rfl
    refine va_calli (va_runV (As := []) (rest := [.int 10]) ⟨hx, hb, hml, hown, hts⟩ (cz_Qsize l dC dI ed H.size lt 10 ota 10) (cwV 0 hts gX7_atHand_Jx4a65c_size_8abf5 rfl rfl rfl (by decide +kernel) ⟨Nat.le_of_ble_eq_true rfl, Nat.le_of_ble_eq_true rfl⟩) ⟨zb_blind, va_recv hK (zo_R hR0 hS hAr) (ci := 1) (q0 := 5) rfl rfl, fun U hU hW => ⟨rfl, zb_mk hU hW hPr hPc hKc hDc hN hH hS hFc zx_e⟩⟩ rfl rfl hl.1 rfl (lv_room (Nat.le_of_ble_eq_true rfl)) dX7_atHand_11 ⟨Nat.le_of_ble_eq_true rfl, Nat.le_of_ble_eq_true rfl⟩) hS (fun q _ h => hFc q h) hFc (fun r72 u t H71 locs ht hvm hw hB hz1 hk1 hS => ?_)
    obtain rfl : r72 = 10 := hw.trans (by decide +kernel)
    have hP := zo_K hP hk1
    refine lv_icmp_ge (tgt := 91) hx hb dX7_atHand_14 (by decide) (fun _ => ?_) (fun h => absurd h (by decide))
    refine lv_iconst (v := 0) hx hb dX7_atHand_91 (by decide) ?_
    refine lv_istore (lv' := [(4, .int 0), (3, .int z3), (0, .ref mr), (1, .int x0), (2, .int x1)]) hx hb dX7_atHand_92 hl (by decide) rfl (fun ls hl => ?_)
    refine lv_iload hx hb dX7_atHand_94 (lv_at hl 0 rfl) ?_
    refine lv_aload_n hx hb dX7_atHand_96 rfl (lv_at hl 2 rfl) ?_
    refine va_get (D := (dC, dI)) (ci := 9) (v := .ref ll) (C := RX7) (T := TX7) (N := 14) hx hb hts zi_X7_atHand_X7 hown hK (zo_R hR0 hS hAr) 0 rfl rfl 0 (by decide) (hts (.fieldLink RX7 12 "LockRoomsModel$Room" "locks" "Ljava/util/ArrayList;") (by decide +kernel)) (fun _ h9 => h9) rfl dX7_atHand_97 ?_
    have hPr := ((zo_R hR0 hS hAr)).sub (ws' := [(ll, .inr (1, [.int 2, .ref ola, .int 2]))]) [1] rfl
    have hPc := hP.sub (ws' := []) [] rfl
    have hDc := hD.sub (ws' := []) [] (by decide) rfl
    have hKc := hK.sub (tys' := []) [] rfl
    have hFc := va_free (wc := []) hD hS hA [] rfl
    refine va_calli (va_runV (As := []) (rest := [.int 0]) ⟨hx, hb, hml, hown, hts⟩ (cz_Qsize l dC dI ed H71.size ll 2 ola 2) (cwV 0 hts gX7_atHand_Jx4a65c_size_8abf5 rfl rfl rfl (by decide +kernel) ⟨Nat.le_of_ble_eq_true rfl, Nat.le_of_ble_eq_true rfl⟩) ⟨zb_blind, va_recv hK (zo_R hR0 hS hAr) (ci := 1) (q0 := 1) rfl rfl, fun U hU hW => ⟨rfl, zb_mk hU hW hPr hPc hKc hDc hN hH hS hFc zx_e⟩⟩ rfl rfl hl.1 rfl (lv_room (Nat.le_of_ble_eq_true rfl)) dX7_atHand_100 ⟨Nat.le_of_ble_eq_true rfl, Nat.le_of_ble_eq_true rfl⟩) hS (fun q _ h => hFc q h) hFc (fun r74 u t H73 locs ht hvm hw hB hz1 hk1 hS => ?_)
    obtain rfl : r74 = 2 := hw.trans (by decide +kernel)
    have hP := zo_K hP hk1
    refine lv_icmp_ge (tgt := 145) hx hb dX7_atHand_103 (by decide) (fun h => absurd h (by decide)) (fun _ => ?_)
    refine lv_iload_n hx hb dX7_atHand_106 rfl (lv_at hl 3 rfl) ?_
    refine lv_iload_n hx hb dX7_atHand_107 rfl (lv_at hl 4 rfl) ?_
    refine lv_iconst (v := (-1)) hx hb dX7_atHand_108 (by decide) ?_
    refine lv_ixor hx hb dX7_atHand_109 ?_
    refine lv_iand hx hb dX7_atHand_110 ?_
    refine lv_iload hx hb dX7_atHand_111 (lv_at hl 0 rfl) ?_
    refine lv_ishr hx hb dX7_atHand_113 ?_
    refine lv_iconst (v := 1) hx hb dX7_atHand_114 (by decide) ?_
    refine lv_iand hx hb dX7_atHand_115 ?_
    refine lv_iconst (v := 1) hx hb dX7_atHand_116 (by decide) ?_
    refine lv_icmp_ne (tgt := 139) hx hb dX7_atHand_117 (by decide) (fun c75 => ?_) (fun c75 => ?_)
    · skip
      refine lv_iinc (v := 1) (lv' := [(4, .int 1), (3, .int z3), (0, .ref mr), (1, .int x0), (2, .int x1)]) hx hb dX7_atHand_139 hl (k := 0) rfl (by decide) (by decide) rfl (fun ls hl => ?_)
      refine lv_goto (tgt := 94) hx hb dX7_atHand_142 (by decide) ?_
      refine lv_iload hx hb dX7_atHand_94 (lv_at hl 0 rfl) ?_
      refine lv_aload_n hx hb dX7_atHand_96 rfl (lv_at hl 2 rfl) ?_
      refine va_get (D := (dC, dI)) (ci := 9) (v := .ref ll) (C := RX7) (T := TX7) (N := 14) hx hb hts zi_X7_atHand_X7 hown hK (zo_R hR0 hS hAr) 0 rfl rfl 0 (by decide) (hts (.fieldLink RX7 12 "LockRoomsModel$Room" "locks" "Ljava/util/ArrayList;") (by decide +kernel)) (fun _ h9 => h9) rfl dX7_atHand_97 ?_
      have hPr := ((zo_R hR0 hS hAr)).sub (ws' := [(ll, .inr (1, [.int 2, .ref ola, .int 2]))]) [1] rfl
      have hPc := hP.sub (ws' := []) [] rfl
      have hDc := hD.sub (ws' := []) [] (by decide) rfl
      have hKc := hK.sub (tys' := []) [] rfl
      have hFc := va_free (wc := []) hD hS hA [] rfl
      refine va_calli (va_runV (As := []) (rest := [.int 1]) ⟨hx, hb, hml, hown, hts⟩ (cz_Qsize l dC dI ed H73.size ll 2 ola 2) (cwV 0 hts gX7_atHand_Jx4a65c_size_8abf5 rfl rfl rfl (by decide +kernel) ⟨Nat.le_of_ble_eq_true rfl, Nat.le_of_ble_eq_true rfl⟩) ⟨zb_blind, va_recv hK (zo_R hR0 hS hAr) (ci := 1) (q0 := 1) rfl rfl, fun U hU hW => ⟨rfl, zb_mk hU hW hPr hPc hKc hDc hN hH hS hFc zx_e⟩⟩ rfl rfl hl.1 rfl (lv_room (Nat.le_of_ble_eq_true rfl)) dX7_atHand_100 ⟨Nat.le_of_ble_eq_true rfl, Nat.le_of_ble_eq_true rfl⟩) hS (fun q _ h => hFc q h) hFc (fun r77 u t H76 locs ht hvm hw hB hz1 hk1 hS => ?_)
      obtain rfl : r77 = 2 := hw.trans (by decide +kernel)
      have hP := zo_K hP hk1
      refine lv_icmp_ge (tgt := 145) hx hb dX7_atHand_103 (by decide) (fun h => absurd h (by decide)) (fun _ => ?_)
      refine lv_iload_n hx hb dX7_atHand_106 rfl (lv_at hl 3 rfl) ?_
      refine lv_iload_n hx hb dX7_atHand_107 rfl (lv_at hl 4 rfl) ?_
      refine lv_iconst (v := (-1)) hx hb dX7_atHand_108 (by decide) ?_
      refine lv_ixor hx hb dX7_atHand_109 ?_
      refine lv_iand hx hb dX7_atHand_110 ?_
      refine lv_iload hx hb dX7_atHand_111 (lv_at hl 0 rfl) ?_
      refine lv_ishr hx hb dX7_atHand_113 ?_
      refine lv_iconst (v := 1) hx hb dX7_atHand_114 (by decide) ?_
      refine lv_iand hx hb dX7_atHand_115 ?_
      refine lv_iconst (v := 1) hx hb dX7_atHand_116 (by decide) ?_
      refine lv_icmp_ne (tgt := 139) hx hb dX7_atHand_117 (by decide) (fun c78 => ?_) (fun c78 => ?_)
      · skip
        refine lv_iinc (v := 2) (lv' := [(4, .int 2), (3, .int z3), (0, .ref mr), (1, .int x0), (2, .int x1)]) hx hb dX7_atHand_139 hl (k := 0) rfl (by decide) (by decide) rfl (fun ls hl => ?_)
        refine lv_goto (tgt := 94) hx hb dX7_atHand_142 (by decide) ?_
        refine lv_iload hx hb dX7_atHand_94 (lv_at hl 0 rfl) ?_
        refine lv_aload_n hx hb dX7_atHand_96 rfl (lv_at hl 2 rfl) ?_
        refine va_get (D := (dC, dI)) (ci := 9) (v := .ref ll) (C := RX7) (T := TX7) (N := 14) hx hb hts zi_X7_atHand_X7 hown hK (zo_R hR0 hS hAr) 0 rfl rfl 0 (by decide) (hts (.fieldLink RX7 12 "LockRoomsModel$Room" "locks" "Ljava/util/ArrayList;") (by decide +kernel)) (fun _ h9 => h9) rfl dX7_atHand_97 ?_
        have hPr := ((zo_R hR0 hS hAr)).sub (ws' := [(ll, .inr (1, [.int 2, .ref ola, .int 2]))]) [1] rfl
        have hPc := hP.sub (ws' := []) [] rfl
        have hDc := hD.sub (ws' := []) [] (by decide) rfl
        have hKc := hK.sub (tys' := []) [] rfl
        have hFc := va_free (wc := []) hD hS hA [] rfl
        refine va_calli (va_runV (As := []) (rest := [.int 2]) ⟨hx, hb, hml, hown, hts⟩ (cz_Qsize l dC dI ed H76.size ll 2 ola 2) (cwV 0 hts gX7_atHand_Jx4a65c_size_8abf5 rfl rfl rfl (by decide +kernel) ⟨Nat.le_of_ble_eq_true rfl, Nat.le_of_ble_eq_true rfl⟩) ⟨zb_blind, va_recv hK (zo_R hR0 hS hAr) (ci := 1) (q0 := 1) rfl rfl, fun U hU hW => ⟨rfl, zb_mk hU hW hPr hPc hKc hDc hN hH hS hFc zx_e⟩⟩ rfl rfl hl.1 rfl (lv_room (Nat.le_of_ble_eq_true rfl)) dX7_atHand_100 ⟨Nat.le_of_ble_eq_true rfl, Nat.le_of_ble_eq_true rfl⟩) hS (fun q _ h => hFc q h) hFc (fun r80 u t H79 locs ht hvm hw hB hz1 hk1 hS => ?_)
        obtain rfl : r80 = 2 := hw.trans (by decide +kernel)
        have hP := zo_K hP hk1
        refine lv_icmp_ge (tgt := 145) hx hb dX7_atHand_103 (by decide) (fun _ => ?_) (fun h => absurd h (by decide))
        refine lv_iload_n hx hb dX7_atHand_145 rfl (lv_at hl 1 rfl) ?_
        refine W.widen (k := 0) (n := 0) (Nat.le_of_ble_eq_true rfl) (Nat.le_of_ble_eq_true rfl) ?_
        exact W.iret hx hb hr (fun t ht hW => ⟨⟨z3, (), rfl, trivial, trivial⟩, hS.F ht⟩) hS.2.2 dX7_atHand_146
      · skip
        refine lv_iload_n hx hb dX7_atHand_120 rfl (lv_at hl 1 rfl) ?_
        refine lv_aload_n hx hb dX7_atHand_121 rfl (lv_at hl 2 rfl) ?_
        refine va_get (D := (dC, dI)) (ci := 9) (v := .ref ll) (C := RX7) (T := TX7) (N := 14) hx hb hts zi_X7_atHand_X7 hown hK (zo_R hR0 hS hAr) 0 rfl rfl 0 (by decide) (hts (.fieldLink RX7 12 "LockRoomsModel$Room" "locks" "Ljava/util/ArrayList;") (by decide +kernel)) (fun _ h9 => h9) rfl dX7_atHand_122 ?_
        refine lv_iload hx hb dX7_atHand_125 (lv_at hl 0 rfl) ?_
        have hPr := ((zo_R hR0 hS hAr)).sub (ws' := [(ll, .inr (1, [.int 2, .ref ola, .int 2])), (ola, .inl (cOl, 10, .inr (.inr (.inr (.inr fol)))))]) [1, 2] rfl
        have hPc := hP.sub (ws' := []) [] rfl
        have hDc := hD.sub (ws' := []) [] (by decide) rfl
        have hKc := hK.sub (tys' := [(cOl, .object "java/lang/Object")]) [0] rfl
        have hFc := va_free (wc := []) hD hS hA [] rfl
        refine va_callr (va_runV (As := [.int 1]) (rest := [.int z3]) ⟨hx, hb, hml, hown, hts⟩ (cz_Qget_1_2 l dC dI ed H76.size ll 2 ola cOl fol la1 hol1) (cwV 1 hts gX7_atHand_Jx4a65c_get_915e3 rfl rfl rfl (by decide +kernel) ⟨Nat.le_of_ble_eq_true rfl, Nat.le_of_ble_eq_true rfl⟩) ⟨zb_blind, va_recv hK (zo_R hR0 hS hAr) (ci := 1) (q0 := 1) rfl rfl, fun U hU hW => ⟨rfl, zb_mk hU hW hPr hPc hKc hDc hN hH hS hFc zx_e⟩⟩ rfl rfl hl.1 rfl (lv_room (Nat.le_of_ble_eq_true rfl)) dX7_atHand_127 ⟨Nat.le_of_ble_eq_true rfl, Nat.le_of_ble_eq_true rfl⟩) hS (fun q _ h => hFc q h) hFc (fun u r82 t H81 locs ht hvm hw hB hz1 hk1 hS => ?_)
        obtain ⟨hq83_0, hP1, hD1, hK1⟩ := hB
        rw [ht] at hP1
        obtain ⟨hP, hD⟩ := va_join (wr := []) (w1 := []) hP hD [] [] rfl rfl (by decide) (by decide) hk1 hFc hP1 hD1
        have hP : va_P (dC, dI) vwCl [] H81 := hP
        have hD : va_D A [] := hD
        obtain rfl : la1 = r82 := hq83_0.symm
        refine va_castA (nm := "[I") hx hb hown (hts (.classLink RX7 46 "[I") (by decide +kernel)) (zo_R hR0 hS hAr) 4 rfl (show s.vm.findClass "[I" = some cA1 from (hK.2 2 _ rfl).2) dX7_atHand_130 ?_
        refine lv_iconst (v := 1) hx hb dX7_atHand_133 (by decide) ?_
        refine va_iald hx hb hK (zo_R hR0 hS hAr) 4 2 rfl rfl (by unfold vp_in; decide) dX7_atHand_134 ?_
        refine zo_i (v := 0) (by rw [show Int32.toNatClampNeg 1 = 1 from by decide]; exact ha1_1) ?_
        refine lv_iconst (v := (-1)) hx hb dX7_atHand_135 (by decide) ?_
        refine lv_ixor hx hb dX7_atHand_136 ?_
        refine zo_i (v := (-1)) (by decide) ?_
        refine lv_iand hx hb dX7_atHand_137 ?_
        refine lv_istore_n (lv' := [(3, .int (z3 &&& (-1))), (4, .int 1), (0, .ref mr), (1, .int x0), (2, .int x1)]) hx hb dX7_atHand_138 rfl hl (by decide) rfl (fun ls hl => ?_)
        refine lv_iinc (v := 2) (lv' := [(4, .int 2), (3, .int (z3 &&& (-1))), (0, .ref mr), (1, .int x0), (2, .int x1)]) hx hb dX7_atHand_139 hl (k := 1) rfl (by decide) (by decide) rfl (fun ls hl => ?_)
        refine lv_goto (tgt := 94) hx hb dX7_atHand_142 (by decide) ?_
        refine lv_iload hx hb dX7_atHand_94 (lv_at hl 0 rfl) ?_
        refine lv_aload_n hx hb dX7_atHand_96 rfl (lv_at hl 2 rfl) ?_
        refine va_get (D := (dC, dI)) (ci := 9) (v := .ref ll) (C := RX7) (T := TX7) (N := 14) hx hb hts zi_X7_atHand_X7 hown hK (zo_R hR0 hS hAr) 0 rfl rfl 0 (by decide) (hts (.fieldLink RX7 12 "LockRoomsModel$Room" "locks" "Ljava/util/ArrayList;") (by decide +kernel)) (fun _ h9 => h9) rfl dX7_atHand_97 ?_
        have hPr := ((zo_R hR0 hS hAr)).sub (ws' := [(ll, .inr (1, [.int 2, .ref ola, .int 2]))]) [1] rfl
        have hPc := hP.sub (ws' := []) [] rfl
        have hDc := hD.sub (ws' := []) [] (by decide) rfl
        have hKc := hK.sub (tys' := []) [] rfl
        have hFc := va_free (wc := []) hD hS hA [] rfl
        refine va_calli (va_runV (As := []) (rest := [.int 2]) ⟨hx, hb, hml, hown, hts⟩ (cz_Qsize l dC dI ed H81.size ll 2 ola 2) (cwV 0 hts gX7_atHand_Jx4a65c_size_8abf5 rfl rfl rfl (by decide +kernel) ⟨Nat.le_of_ble_eq_true rfl, Nat.le_of_ble_eq_true rfl⟩) ⟨zb_blind, va_recv hK (zo_R hR0 hS hAr) (ci := 1) (q0 := 1) rfl rfl, fun U hU hW => ⟨rfl, zb_mk hU hW hPr hPc hKc hDc hN hH hS hFc zx_e⟩⟩ rfl rfl hl.1 rfl (lv_room (Nat.le_of_ble_eq_true rfl)) dX7_atHand_100 ⟨Nat.le_of_ble_eq_true rfl, Nat.le_of_ble_eq_true rfl⟩) hS (fun q _ h => hFc q h) hFc (fun r85 u t H84 locs ht hvm hw hB hz1 hk1 hS => ?_)
        obtain rfl : r85 = 2 := hw.trans (by decide +kernel)
        have hP := zo_K hP hk1
        refine lv_icmp_ge (tgt := 145) hx hb dX7_atHand_103 (by decide) (fun _ => ?_) (fun h => absurd h (by decide))
        refine lv_iload_n hx hb dX7_atHand_145 rfl (lv_at hl 1 rfl) ?_
        refine W.widen (k := 0) (n := 0) (Nat.le_of_ble_eq_true rfl) (Nat.le_of_ble_eq_true rfl) ?_
        exact W.iret hx hb hr (fun t ht hW => ⟨⟨(z3 &&& (-1)), (), rfl, trivial, trivial⟩, hS.F ht⟩) hS.2.2 dX7_atHand_146
    · skip
      refine lv_iload_n hx hb dX7_atHand_120 rfl (lv_at hl 1 rfl) ?_
      refine lv_aload_n hx hb dX7_atHand_121 rfl (lv_at hl 2 rfl) ?_
      refine va_get (D := (dC, dI)) (ci := 9) (v := .ref ll) (C := RX7) (T := TX7) (N := 14) hx hb hts zi_X7_atHand_X7 hown hK (zo_R hR0 hS hAr) 0 rfl rfl 0 (by decide) (hts (.fieldLink RX7 12 "LockRoomsModel$Room" "locks" "Ljava/util/ArrayList;") (by decide +kernel)) (fun _ h9 => h9) rfl dX7_atHand_122 ?_
      refine lv_iload hx hb dX7_atHand_125 (lv_at hl 0 rfl) ?_
      have hPr := ((zo_R hR0 hS hAr)).sub (ws' := [(ll, .inr (1, [.int 2, .ref ola, .int 2])), (ola, .inl (cOl, 10, .inr (.inr (.inr (.inr fol)))))]) [1, 2] rfl
      have hPc := hP.sub (ws' := []) [] rfl
      have hDc := hD.sub (ws' := []) [] (by decide) rfl
      have hKc := hK.sub (tys' := [(cOl, .object "java/lang/Object")]) [0] rfl
      have hFc := va_free (wc := []) hD hS hA [] rfl
      refine va_callr (va_runV (As := [.int 0]) (rest := [.int z3]) ⟨hx, hb, hml, hown, hts⟩ (cz_Qget_0_2 l dC dI ed H73.size ll 2 ola cOl fol la0 hol0) (cwV 1 hts gX7_atHand_Jx4a65c_get_915e3 rfl rfl rfl (by decide +kernel) ⟨Nat.le_of_ble_eq_true rfl, Nat.le_of_ble_eq_true rfl⟩) ⟨zb_blind, va_recv hK (zo_R hR0 hS hAr) (ci := 1) (q0 := 1) rfl rfl, fun U hU hW => ⟨rfl, zb_mk hU hW hPr hPc hKc hDc hN hH hS hFc zx_e⟩⟩ rfl rfl hl.1 rfl (lv_room (Nat.le_of_ble_eq_true rfl)) dX7_atHand_127 ⟨Nat.le_of_ble_eq_true rfl, Nat.le_of_ble_eq_true rfl⟩) hS (fun q _ h => hFc q h) hFc (fun u r87 t H86 locs ht hvm hw hB hz1 hk1 hS => ?_)
      obtain ⟨hq88_0, hP1, hD1, hK1⟩ := hB
      rw [ht] at hP1
      obtain ⟨hP, hD⟩ := va_join (wr := []) (w1 := []) hP hD [] [] rfl rfl (by decide) (by decide) hk1 hFc hP1 hD1
      have hP : va_P (dC, dI) vwCl [] H86 := hP
      have hD : va_D A [] := hD
      obtain rfl : la0 = r87 := hq88_0.symm
      refine va_castA (nm := "[I") hx hb hown (hts (.classLink RX7 46 "[I") (by decide +kernel)) (zo_R hR0 hS hAr) 3 rfl (show s.vm.findClass "[I" = some cA0 from (hK.2 1 _ rfl).2) dX7_atHand_130 ?_
      refine lv_iconst (v := 1) hx hb dX7_atHand_133 (by decide) ?_
      refine va_iald hx hb hK (zo_R hR0 hS hAr) 3 1 rfl rfl (by unfold vp_in; decide) dX7_atHand_134 ?_
      refine zo_i (v := 0) (by rw [show Int32.toNatClampNeg 1 = 1 from by decide]; exact ha0_1) ?_
      refine lv_iconst (v := (-1)) hx hb dX7_atHand_135 (by decide) ?_
      refine lv_ixor hx hb dX7_atHand_136 ?_
      refine zo_i (v := (-1)) (by decide) ?_
      refine lv_iand hx hb dX7_atHand_137 ?_
      refine lv_istore_n (lv' := [(3, .int (z3 &&& (-1))), (4, .int 0), (0, .ref mr), (1, .int x0), (2, .int x1)]) hx hb dX7_atHand_138 rfl hl (by decide) rfl (fun ls hl => ?_)
      refine lv_iinc (v := 1) (lv' := [(4, .int 1), (3, .int (z3 &&& (-1))), (0, .ref mr), (1, .int x0), (2, .int x1)]) hx hb dX7_atHand_139 hl (k := 1) rfl (by decide) (by decide) rfl (fun ls hl => ?_)
      refine lv_goto (tgt := 94) hx hb dX7_atHand_142 (by decide) ?_
      refine lv_iload hx hb dX7_atHand_94 (lv_at hl 0 rfl) ?_
      refine lv_aload_n hx hb dX7_atHand_96 rfl (lv_at hl 2 rfl) ?_
      refine va_get (D := (dC, dI)) (ci := 9) (v := .ref ll) (C := RX7) (T := TX7) (N := 14) hx hb hts zi_X7_atHand_X7 hown hK (zo_R hR0 hS hAr) 0 rfl rfl 0 (by decide) (hts (.fieldLink RX7 12 "LockRoomsModel$Room" "locks" "Ljava/util/ArrayList;") (by decide +kernel)) (fun _ h9 => h9) rfl dX7_atHand_97 ?_
      have hPr := ((zo_R hR0 hS hAr)).sub (ws' := [(ll, .inr (1, [.int 2, .ref ola, .int 2]))]) [1] rfl
      have hPc := hP.sub (ws' := []) [] rfl
      have hDc := hD.sub (ws' := []) [] (by decide) rfl
      have hKc := hK.sub (tys' := []) [] rfl
      have hFc := va_free (wc := []) hD hS hA [] rfl
      refine va_calli (va_runV (As := []) (rest := [.int 1]) ⟨hx, hb, hml, hown, hts⟩ (cz_Qsize l dC dI ed H86.size ll 2 ola 2) (cwV 0 hts gX7_atHand_Jx4a65c_size_8abf5 rfl rfl rfl (by decide +kernel) ⟨Nat.le_of_ble_eq_true rfl, Nat.le_of_ble_eq_true rfl⟩) ⟨zb_blind, va_recv hK (zo_R hR0 hS hAr) (ci := 1) (q0 := 1) rfl rfl, fun U hU hW => ⟨rfl, zb_mk hU hW hPr hPc hKc hDc hN hH hS hFc zx_e⟩⟩ rfl rfl hl.1 rfl (lv_room (Nat.le_of_ble_eq_true rfl)) dX7_atHand_100 ⟨Nat.le_of_ble_eq_true rfl, Nat.le_of_ble_eq_true rfl⟩) hS (fun q _ h => hFc q h) hFc (fun r90 u t H89 locs ht hvm hw hB hz1 hk1 hS => ?_)
      obtain rfl : r90 = 2 := hw.trans (by decide +kernel)
      have hP := zo_K hP hk1
      refine lv_icmp_ge (tgt := 145) hx hb dX7_atHand_103 (by decide) (fun h => absurd h (by decide)) (fun _ => ?_)
      refine lv_iload_n hx hb dX7_atHand_106 rfl (lv_at hl 3 rfl) ?_
      refine lv_iload_n hx hb dX7_atHand_107 rfl (lv_at hl 4 rfl) ?_
      refine lv_iconst (v := (-1)) hx hb dX7_atHand_108 (by decide) ?_
      refine lv_ixor hx hb dX7_atHand_109 ?_
      refine lv_iand hx hb dX7_atHand_110 ?_
      refine lv_iload hx hb dX7_atHand_111 (lv_at hl 0 rfl) ?_
      refine lv_ishr hx hb dX7_atHand_113 ?_
      refine lv_iconst (v := 1) hx hb dX7_atHand_114 (by decide) ?_
      refine lv_iand hx hb dX7_atHand_115 ?_
      refine lv_iconst (v := 1) hx hb dX7_atHand_116 (by decide) ?_
      refine lv_icmp_ne (tgt := 139) hx hb dX7_atHand_117 (by decide) (fun c91 => ?_) (fun c91 => ?_)
      · skip
        refine lv_iinc (v := 2) (lv' := [(4, .int 2), (3, .int (z3 &&& (-1))), (0, .ref mr), (1, .int x0), (2, .int x1)]) hx hb dX7_atHand_139 hl (k := 0) rfl (by decide) (by decide) rfl (fun ls hl => ?_)
        refine lv_goto (tgt := 94) hx hb dX7_atHand_142 (by decide) ?_
        refine lv_iload hx hb dX7_atHand_94 (lv_at hl 0 rfl) ?_
        refine lv_aload_n hx hb dX7_atHand_96 rfl (lv_at hl 2 rfl) ?_
        refine va_get (D := (dC, dI)) (ci := 9) (v := .ref ll) (C := RX7) (T := TX7) (N := 14) hx hb hts zi_X7_atHand_X7 hown hK (zo_R hR0 hS hAr) 0 rfl rfl 0 (by decide) (hts (.fieldLink RX7 12 "LockRoomsModel$Room" "locks" "Ljava/util/ArrayList;") (by decide +kernel)) (fun _ h9 => h9) rfl dX7_atHand_97 ?_
        have hPr := ((zo_R hR0 hS hAr)).sub (ws' := [(ll, .inr (1, [.int 2, .ref ola, .int 2]))]) [1] rfl
        have hPc := hP.sub (ws' := []) [] rfl
        have hDc := hD.sub (ws' := []) [] (by decide) rfl
        have hKc := hK.sub (tys' := []) [] rfl
        have hFc := va_free (wc := []) hD hS hA [] rfl
        refine va_calli (va_runV (As := []) (rest := [.int 2]) ⟨hx, hb, hml, hown, hts⟩ (cz_Qsize l dC dI ed H89.size ll 2 ola 2) (cwV 0 hts gX7_atHand_Jx4a65c_size_8abf5 rfl rfl rfl (by decide +kernel) ⟨Nat.le_of_ble_eq_true rfl, Nat.le_of_ble_eq_true rfl⟩) ⟨zb_blind, va_recv hK (zo_R hR0 hS hAr) (ci := 1) (q0 := 1) rfl rfl, fun U hU hW => ⟨rfl, zb_mk hU hW hPr hPc hKc hDc hN hH hS hFc zx_e⟩⟩ rfl rfl hl.1 rfl (lv_room (Nat.le_of_ble_eq_true rfl)) dX7_atHand_100 ⟨Nat.le_of_ble_eq_true rfl, Nat.le_of_ble_eq_true rfl⟩) hS (fun q _ h => hFc q h) hFc (fun r93 u t H92 locs ht hvm hw hB hz1 hk1 hS => ?_)
        obtain rfl : r93 = 2 := hw.trans (by decide +kernel)
        have hP := zo_K hP hk1
        refine lv_icmp_ge (tgt := 145) hx hb dX7_atHand_103 (by decide) (fun _ => ?_) (fun h => absurd h (by decide))
        refine lv_iload_n hx hb dX7_atHand_145 rfl (lv_at hl 1 rfl) ?_
        refine W.widen (k := 0) (n := 0) (Nat.le_of_ble_eq_true rfl) (Nat.le_of_ble_eq_true rfl) ?_
        exact W.iret hx hb hr (fun t ht hW => ⟨⟨(z3 &&& (-1)), (), rfl, trivial, trivial⟩, hS.F ht⟩) hS.2.2 dX7_atHand_146
      · skip
        refine lv_iload_n hx hb dX7_atHand_120 rfl (lv_at hl 1 rfl) ?_
        refine lv_aload_n hx hb dX7_atHand_121 rfl (lv_at hl 2 rfl) ?_
        refine va_get (D := (dC, dI)) (ci := 9) (v := .ref ll) (C := RX7) (T := TX7) (N := 14) hx hb hts zi_X7_atHand_X7 hown hK (zo_R hR0 hS hAr) 0 rfl rfl 0 (by decide) (hts (.fieldLink RX7 12 "LockRoomsModel$Room" "locks" "Ljava/util/ArrayList;") (by decide +kernel)) (fun _ h9 => h9) rfl dX7_atHand_122 ?_
        refine lv_iload hx hb dX7_atHand_125 (lv_at hl 0 rfl) ?_
        have hPr := ((zo_R hR0 hS hAr)).sub (ws' := [(ll, .inr (1, [.int 2, .ref ola, .int 2])), (ola, .inl (cOl, 10, .inr (.inr (.inr (.inr fol)))))]) [1, 2] rfl
        have hPc := hP.sub (ws' := []) [] rfl
        have hDc := hD.sub (ws' := []) [] (by decide) rfl
        have hKc := hK.sub (tys' := [(cOl, .object "java/lang/Object")]) [0] rfl
        have hFc := va_free (wc := []) hD hS hA [] rfl
        refine va_callr (va_runV (As := [.int 1]) (rest := [.int (z3 &&& (-1))]) ⟨hx, hb, hml, hown, hts⟩ (cz_Qget_1_2 l dC dI ed H89.size ll 2 ola cOl fol la1 hol1) (cwV 1 hts gX7_atHand_Jx4a65c_get_915e3 rfl rfl rfl (by decide +kernel) ⟨Nat.le_of_ble_eq_true rfl, Nat.le_of_ble_eq_true rfl⟩) ⟨zb_blind, va_recv hK (zo_R hR0 hS hAr) (ci := 1) (q0 := 1) rfl rfl, fun U hU hW => ⟨rfl, zb_mk hU hW hPr hPc hKc hDc hN hH hS hFc zx_e⟩⟩ rfl rfl hl.1 rfl (lv_room (Nat.le_of_ble_eq_true rfl)) dX7_atHand_127 ⟨Nat.le_of_ble_eq_true rfl, Nat.le_of_ble_eq_true rfl⟩) hS (fun q _ h => hFc q h) hFc (fun u r95 t H94 locs ht hvm hw hB hz1 hk1 hS => ?_)
        obtain ⟨hq96_0, hP1, hD1, hK1⟩ := hB
        rw [ht] at hP1
        obtain ⟨hP, hD⟩ := va_join (wr := []) (w1 := []) hP hD [] [] rfl rfl (by decide) (by decide) hk1 hFc hP1 hD1
        have hP : va_P (dC, dI) vwCl [] H94 := hP
        have hD : va_D A [] := hD
        obtain rfl : la1 = r95 := hq96_0.symm
        refine va_castA (nm := "[I") hx hb hown (hts (.classLink RX7 46 "[I") (by decide +kernel)) (zo_R hR0 hS hAr) 4 rfl (show s.vm.findClass "[I" = some cA1 from (hK.2 2 _ rfl).2) dX7_atHand_130 ?_
        refine lv_iconst (v := 1) hx hb dX7_atHand_133 (by decide) ?_
        refine va_iald hx hb hK (zo_R hR0 hS hAr) 4 2 rfl rfl (by unfold vp_in; decide) dX7_atHand_134 ?_
        refine zo_i (v := 0) (by rw [show Int32.toNatClampNeg 1 = 1 from by decide]; exact ha1_1) ?_
        refine lv_iconst (v := (-1)) hx hb dX7_atHand_135 (by decide) ?_
        refine lv_ixor hx hb dX7_atHand_136 ?_
        refine zo_i (v := (-1)) (by decide) ?_
        refine lv_iand hx hb dX7_atHand_137 ?_
        refine lv_istore_n (lv' := [(3, .int ((z3 &&& (-1)) &&& (-1))), (4, .int 1), (0, .ref mr), (1, .int x0), (2, .int x1)]) hx hb dX7_atHand_138 rfl hl (by decide) rfl (fun ls hl => ?_)
        refine lv_iinc (v := 2) (lv' := [(4, .int 2), (3, .int ((z3 &&& (-1)) &&& (-1))), (0, .ref mr), (1, .int x0), (2, .int x1)]) hx hb dX7_atHand_139 hl (k := 1) rfl (by decide) (by decide) rfl (fun ls hl => ?_)
        refine lv_goto (tgt := 94) hx hb dX7_atHand_142 (by decide) ?_
        refine lv_iload hx hb dX7_atHand_94 (lv_at hl 0 rfl) ?_
        refine lv_aload_n hx hb dX7_atHand_96 rfl (lv_at hl 2 rfl) ?_
        refine va_get (D := (dC, dI)) (ci := 9) (v := .ref ll) (C := RX7) (T := TX7) (N := 14) hx hb hts zi_X7_atHand_X7 hown hK (zo_R hR0 hS hAr) 0 rfl rfl 0 (by decide) (hts (.fieldLink RX7 12 "LockRoomsModel$Room" "locks" "Ljava/util/ArrayList;") (by decide +kernel)) (fun _ h9 => h9) rfl dX7_atHand_97 ?_
        have hPr := ((zo_R hR0 hS hAr)).sub (ws' := [(ll, .inr (1, [.int 2, .ref ola, .int 2]))]) [1] rfl
        have hPc := hP.sub (ws' := []) [] rfl
        have hDc := hD.sub (ws' := []) [] (by decide) rfl
        have hKc := hK.sub (tys' := []) [] rfl
        have hFc := va_free (wc := []) hD hS hA [] rfl
        refine va_calli (va_runV (As := []) (rest := [.int 2]) ⟨hx, hb, hml, hown, hts⟩ (cz_Qsize l dC dI ed H94.size ll 2 ola 2) (cwV 0 hts gX7_atHand_Jx4a65c_size_8abf5 rfl rfl rfl (by decide +kernel) ⟨Nat.le_of_ble_eq_true rfl, Nat.le_of_ble_eq_true rfl⟩) ⟨zb_blind, va_recv hK (zo_R hR0 hS hAr) (ci := 1) (q0 := 1) rfl rfl, fun U hU hW => ⟨rfl, zb_mk hU hW hPr hPc hKc hDc hN hH hS hFc zx_e⟩⟩ rfl rfl hl.1 rfl (lv_room (Nat.le_of_ble_eq_true rfl)) dX7_atHand_100 ⟨Nat.le_of_ble_eq_true rfl, Nat.le_of_ble_eq_true rfl⟩) hS (fun q _ h => hFc q h) hFc (fun r98 u t H97 locs ht hvm hw hB hz1 hk1 hS => ?_)
        obtain rfl : r98 = 2 := hw.trans (by decide +kernel)
        have hP := zo_K hP hk1
        refine lv_icmp_ge (tgt := 145) hx hb dX7_atHand_103 (by decide) (fun _ => ?_) (fun h => absurd h (by decide))
        refine lv_iload_n hx hb dX7_atHand_145 rfl (lv_at hl 1 rfl) ?_
        refine W.widen (k := 0) (n := 0) (Nat.le_of_ble_eq_true rfl) (Nat.le_of_ble_eq_true rfl) ?_
        exact W.iret hx hb hr (fun t ht hW => ⟨⟨((z3 &&& (-1)) &&& (-1)), (), rfl, trivial, trivial⟩, hS.F ht⟩) hS.2.2 dX7_atHand_146

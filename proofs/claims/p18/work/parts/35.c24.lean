set_option maxHeartbeats 4000000 in
set_option maxRecDepth 100000 in
theorem cz_QbestHint7 (l : Launch) (dC : Nat → ClassId) (dI : Nat → Nat → Nat) (ed sz : Nat) (mr : Nat) (ll : Nat) (lt : Nat) (lp : Nat) (ola : Nat) (cOl : ClassId) (fol : Nat → Option Nat) (la0 : Nat) (la1 : Nat) (cA0 : ClassId) (fa0 : Nat → Int32) (cA1 : ClassId) (fa1 : Nat → Int32) (ota : Nat) (cOt : ClassId) (fot : Nat → Option Nat) (ta0 : Nat) (ta1 : Nat) (ta2 : Nat) (ta3 : Nat) (ta4 : Nat) (ta5 : Nat) (ta6 : Nat) (ta7 : Nat) (ta8 : Nat) (ta9 : Nat) (cB0 : ClassId) (fb0 : Nat → Int32) (cB1 : ClassId) (fb1 : Nat → Int32) (cB2 : ClassId) (fb2 : Nat → Int32) (cB3 : ClassId) (fb3 : Nat → Int32) (cB4 : ClassId) (fb4 : Nat → Int32) (cB5 : ClassId) (fb5 : Nat → Int32) (cB6 : ClassId) (fb6 : Nat → Int32) (cB7 : ClassId) (fb7 : Nat → Int32) (cB8 : ClassId) (fb8 : Nat → Int32) (cB9 : ClassId) (fb9 : Nat → Int32) (hol0 : fol 0 = some la0) (hol1 : fol 1 = some la1) (ha0_0 : fa0 0 = 0) (ha0_1 : fa0 1 = 0) (ha0_4 : fa0 4 = 0) (ha0_8 : fa0 8 = 0) (ha1_0 : fa1 0 = 0) (ha1_1 : fa1 1 = 0) (ha1_4 : fa1 4 = 0) (ha1_8 : fa1 8 = 0) (hot0 : fot 0 = some ta0) (hot1 : fot 1 = some ta1) (hot2 : fot 2 = some ta2) (hot3 : fot 3 = some ta3) (hot4 : fot 4 = some ta4) (hot5 : fot 5 = some ta5) (hot6 : fot 6 = some ta6) (hot7 : fot 7 = some ta7) (hot8 : fot 8 = some ta8) (hot9 : fot 9 = some ta9) (hb0_0 : fb0 0 = (-1)) (hb0_3 : fb0 3 = 0) (hb1_0 : fb1 0 = (-1)) (hb1_3 : fb1 3 = 0) (hb2_0 : fb2 0 = (-1)) (hb2_3 : fb2 3 = 0) (hb3_0 : fb3 0 = (-1)) (hb3_3 : fb3 3 = 0) (hb4_0 : fb4 0 = (-1)) (hb4_3 : fb4 3 = 0) (hb5_0 : fb5 0 = (-1)) (hb5_3 : fb5 3 = 0) (hb6_0 : fb6 0 = (-1)) (hb6_3 : fb6 3 = 0) (hb7_0 : fb7 0 = (-1)) (hb7_3 : fb7 3 = 0) (hb8_0 : fb8 0 = (-1)) (hb8_3 : fb8 3 = 0) (hb9_0 : fb9 0 = (-1)) (hb9_3 : fb9 3 = 0) : Met l yX7_bestHint wsX7_bestHint ({ frames := 7, cells := 2, slots := 2048, locals := 167 } : Jvm.Room) (va_Pc [.ref mr] (zB dC dI ed sz [(mr, .inr (9, [.ref ll, .ref lt, .ref lp, .int 0, .int 0, .int 0, .int 0, .int 0, .int 0, .int 0, .int (-1), .int 0, .int 0, .int 0])), (ll, .inr (1, [.int 2, .ref ola, .int 2])), (ola, .inl (cOl, 10, .inr (.inr (.inr (.inr fol))))), (la0, .inl (cA0, 10, .inl fa0)), (la1, .inl (cA1, 10, .inl fa1)), (lt, .inr (1, [.int 10, .ref ota, .int 10])), (ota, .inl (cOt, 10, .inr (.inr (.inr (.inr fot))))), (ta0, .inl (cB0, 5, .inl fb0)), (ta1, .inl (cB1, 5, .inl fb1)), (ta2, .inl (cB2, 5, .inl fb2)), (ta3, .inl (cB3, 5, .inl fb3)), (ta4, .inl (cB4, 5, .inl fb4)), (ta5, .inl (cB5, 5, .inl fb5)), (ta6, .inl (cB6, 5, .inl fb6)), (ta7, .inl (cB7, 5, .inl fb7)), (ta8, .inl (cB8, 5, .inl fb8)), (ta9, .inl (cB9, 5, .inl fb9))] [] [(cOl, .object "java/lang/Object"), (cA0, .int), (cA1, .int), (cOt, .object "java/lang/Object"), (cB0, .int), (cB1, .int), (cB2, .int), (cB3, .int), (cB4, .int), (cB5, .int), (cB6, .int), (cB7, .int), (cB8, .int), (cB9, .int)])) (va_Qi (fun (r : Int32) (_ : Unit) => r = 0) (fun (_ : Unit) (t : State) => ∃ (rw0 : Nat), ∃ (rw1 : Nat), ∃ (cW0 : ClassId), ∃ (cW1 : ClassId), ∃ (fW0 : Nat → Int32), ∃ (fW1 : Nat → Int32), va_P (dC, dI) vwCl [(rw0, .inl (cW0, 1024, .inl fW0)), (rw1, .inl (cW1, 1024, .inl fW1))] t.heap ∧ va_D (va_A [] sz) [(rw0, .inl (cW0, 1024, .inl fW0)), (rw1, .inl (cW1, 1024, .inl fW1))] ∧ va_K (dC, dI) vwCl [(cW0, .int), (cW1, .int)] t) (va_A [] sz)) 2 2048 (va_A [] sz) := by
  refine Met.ofW (cc := cX7_bestHint) (maxL := 5) (ret := (some .int)) (by decide) rfl ?_
  intro p e s m args below meth c s₁ B hml hv
  obtain ⟨rfl, hsz, hR0, hP, hK, hD0, hN, hH, hX0⟩ := hv
  have hx := B.exec
  have hb := B.bytes
  have hr := B.returns
  have hts := atoms_spec (ws := wsX7_bestHint) B.pre
  have hown : s.vm.findClass RX7 = some m.cls := findClass_of_methodNamed B.named
  have hlocks := B.notSynchronized
  subst hsz
  have hD := hD0.self (sz := s.heap.size)
  have hAr := zx_A hX0 hR0
  generalize hAe : va_A [] s.heap.size = A at hD hAr hH ⊢
  have hA : ∀ q : Nat, s.heap.size ≤ q → A q := fun q h => by rw [← hAe]; exact Or.inr h
  have hS : va_S A s.heap s.heap [] := va_S.rf
  have hl := lv_entry ([.ref mr]) (n := 5) (Nat.le_of_ble_eq_true rfl)
  rw [lg_entry_eq]
  generalize (lg_sl ([.ref mr]) ++ List.replicate (5 - (lg_sl ([.ref mr])).length) Slot.unset).toArray = ls at hl ⊢
  have hl : lv_has ls 5 [(0, .ref mr)] := hl
  refine lv_iconst (v := (-1)) hx hb dX7_bestHint_0 (by decide) ?_
  refine lv_istore_n (lv' := [(1, .int (-1)), (0, .ref mr)]) hx hb dX7_bestHint_1 rfl hl (by decide) rfl (fun ls hl => ?_)
  refine lv_iconst (v := 0) hx hb dX7_bestHint_2 (by decide) ?_
  refine lv_istore_n (lv' := [(2, .int 0), (1, .int (-1)), (0, .ref mr)]) hx hb dX7_bestHint_3 rfl hl (by decide) rfl (fun ls hl => ?_)
  refine lv_iconst (v := 0) hx hb dX7_bestHint_4 (by decide) ?_
  refine lv_istore_n (lv' := [(3, .int 0), (2, .int 0), (1, .int (-1)), (0, .ref mr)]) hx hb dX7_bestHint_5 rfl hl (by decide) rfl (fun ls hl => ?_)
  refine lv_iload_n hx hb dX7_bestHint_6 rfl (lv_at hl 0 rfl) ?_
  refine lv_aload_n hx hb dX7_bestHint_7 rfl (lv_at hl 3 rfl) ?_
  refine va_get (D := (dC, dI)) (ci := 9) (v := .ref ll) (C := RX7) (T := TX7) (N := 14) hx hb hts zi_X7_bestHint_X7 hown hK hR0 0 rfl rfl 0 (by decide) (hts (.fieldLink RX7 12 "LockRoomsModel$Room" "locks" "Ljava/util/ArrayList;") (by decide +kernel)) (fun _ h9 => h9) rfl dX7_bestHint_8 ?_
  have hPr := (hR0).sub (ws' := [(ll, .inr (1, [.int 2, .ref ola, .int 2]))]) [1] rfl
  have hPc := hP.sub (ws' := []) [] rfl
  have hDc := hD.sub (ws' := []) [] (by decide) rfl
  have hKc := hK.sub (tys' := []) [] rfl
  have hFc := va_free (wc := []) hD hS hA [] rfl
  refine va_calli (va_runV (As := []) (rest := [.int 0]) ⟨hx, hb, hml, hown, hts⟩ (cz_Qsize l dC dI ed s.heap.size ll 2 ola 2) (cwV 0 hts gX7_bestHint_Jx4a65c_size_8abf5 rfl rfl rfl (by decide +kernel) ⟨Nat.le_of_ble_eq_true rfl, Nat.le_of_ble_eq_true rfl⟩) ⟨zb_blind, va_recv hK hR0 (ci := 1) (q0 := 1) rfl rfl, fun U hU hW => ⟨rfl, zb_mk hU hW hPr hPc hKc hDc hN hH hS hFc zx_e⟩⟩ rfl rfl hl.1 rfl (lv_room (Nat.le_of_ble_eq_true rfl)) dX7_bestHint_11 ⟨Nat.le_of_ble_eq_true rfl, Nat.le_of_ble_eq_true rfl⟩) hS (fun q _ h => hFc q h) hFc (fun r2 u t H1 locs ht hvm hw hB hz1 hk1 hS => ?_)
  obtain rfl : r2 = 2 := hw.trans (by decide +kernel)
  have hP := zo_K hP hk1
  refine lv_icmp_ge (tgt := 78) hx hb dX7_bestHint_14 (by decide) (fun h => absurd h (by decide)) (fun _ => ?_)
  refine lv_aload_n hx hb dX7_bestHint_17 rfl (lv_at hl 3 rfl) ?_
  refine lv_iload_n hx hb dX7_bestHint_18 rfl (lv_at hl 0 rfl) ?_
  have hPr := ((zo_R hR0 hS hAr)).sub (ws' := [(mr, .inr (9, [.ref ll, .ref lt, .ref lp, .int 0, .int 0, .int 0, .int 0, .int 0, .int 0, .int 0, .int (-1), .int 0, .int 0, .int 0])), (ll, .inr (1, [.int 2, .ref ola, .int 2])), (ola, .inl (cOl, 10, .inr (.inr (.inr (.inr fol))))), (la0, .inl (cA0, 10, .inl fa0)), (lt, .inr (1, [.int 10, .ref ota, .int 10])), (ota, .inl (cOt, 10, .inr (.inr (.inr (.inr fot))))), (ta0, .inl (cB0, 5, .inl fb0)), (ta1, .inl (cB1, 5, .inl fb1)), (ta2, .inl (cB2, 5, .inl fb2)), (ta3, .inl (cB3, 5, .inl fb3)), (ta4, .inl (cB4, 5, .inl fb4)), (ta5, .inl (cB5, 5, .inl fb5)), (ta6, .inl (cB6, 5, .inl fb6)), (ta7, .inl (cB7, 5, .inl fb7)), (ta8, .inl (cB8, 5, .inl fb8)), (ta9, .inl (cB9, 5, .inl fb9))]) [0, 1, 2, 3, 5, 6, 7, 8, 9, 10, 11, 12, 13, 14, 15, 16] rfl
  have hPc := hP.sub (ws' := []) [] rfl
  have hDc := hD.sub (ws' := []) [] (by decide) rfl
  have hKc := hK.sub (tys' := [(cOl, .object "java/lang/Object"), (cA0, .int), (cOt, .object "java/lang/Object"), (cB0, .int), (cB1, .int), (cB2, .int), (cB3, .int), (cB4, .int), (cB5, .int), (cB6, .int), (cB7, .int), (cB8, .int), (cB9, .int)]) [0, 1, 3, 4, 5, 6, 7, 8, 9, 10, 11, 12, 13] rfl
  have hFc := va_free (wc := []) hD hS hA [] rfl
  refine va_calli (va_runV (As := [.int 0]) (rest := []) ⟨hx, hb, hml, hown, hts⟩ (cz_Q7isReady_0 l dC dI ed H1.size mr ll lt lp ola cOl fol la0 cA0 fa0 ota cOt fot ta0 ta1 ta2 ta3 ta4 ta5 ta6 ta7 ta8 ta9 cB0 fb0 cB1 fb1 cB2 fb2 cB3 fb3 cB4 fb4 cB5 fb5 cB6 fb6 cB7 fb7 cB8 fb8 cB9 fb9 hol0 ha0_0 ha0_4 ha0_8 hot0 hot1 hot2 hot3 hot4 hot5 hot6 hot7 hot8 hot9 hb0_3 hb1_3 hb2_3 hb3_3 hb4_3 hb5_3 hb6_3 hb7_3 hb8_3 hb9_3) (cwV 1 hts gX7_bestHint_X7_isReady rfl rfl rfl (by decide +kernel) ⟨Nat.le_of_ble_eq_true rfl, Nat.le_of_ble_eq_true rfl⟩) ⟨zb_blind, va_recv hK (zo_R hR0 hS hAr) (ci := 9) (q0 := 0) rfl rfl, fun U hU hW => ⟨rfl, zb_mk hU hW hPr hPc hKc hDc hN hH hS hFc zx_e⟩⟩ rfl rfl hl.1 rfl (lv_room (Nat.le_of_ble_eq_true rfl)) dX7_bestHint_19 ⟨Nat.le_of_ble_eq_true rfl, Nat.le_of_ble_eq_true rfl⟩) hS (fun q _ h => hFc q h) hFc (fun r4 u t H3 locs ht hvm hw hB hz1 hk1 hS => ?_)
  obtain rfl : r4 = 1 := hw
  have hP := zo_K hP hk1
  refine lv_if_eq (tgt := 44) hx hb dX7_bestHint_22 (by decide) (fun h => absurd h (by decide)) (fun _ => ?_)
  refine lv_aload_n hx hb dX7_bestHint_25 rfl (lv_at hl 3 rfl) ?_
  refine lv_aload_n hx hb dX7_bestHint_26 rfl (lv_at hl 3 rfl) ?_
  have hPr := ((zo_R hR0 hS hAr)).sub (ws' := [(mr, .inr (9, [.ref ll, .ref lt, .ref lp, .int 0, .int 0, .int 0, .int 0, .int 0, .int 0, .int 0, .int (-1), .int 0, .int 0, .int 0])), (ll, .inr (1, [.int 2, .ref ola, .int 2])), (ola, .inl (cOl, 10, .inr (.inr (.inr (.inr fol))))), (la0, .inl (cA0, 10, .inl fa0)), (la1, .inl (cA1, 10, .inl fa1))]) [0, 1, 2, 3, 4] rfl
  have hPc := hP.sub (ws' := []) [] rfl
  have hDc := hD.sub (ws' := []) [] (by decide) rfl
  have hKc := hK.sub (tys' := [(cOl, .object "java/lang/Object"), (cA0, .int), (cA1, .int)]) [0, 1, 2] rfl
  have hFc := va_free (wc := []) hD hS hA [] rfl
  refine va_calli (va_runV (As := []) (rest := [.ref mr]) ⟨hx, hb, hml, hown, hts⟩ (cz_Qopened l dC dI ed H3.size mr ll lt lp ola cOl fol la0 la1 cA0 fa0 cA1 fa1 hol0 hol1 ha0_4 ha1_4) (cwV 0 hts gX7_bestHint_X7_opened rfl rfl rfl (by decide +kernel) ⟨Nat.le_of_ble_eq_true rfl, Nat.le_of_ble_eq_true rfl⟩) ⟨zb_blind, va_recv hK (zo_R hR0 hS hAr) (ci := 9) (q0 := 0) rfl rfl, fun U hU hW => ⟨rfl, zb_mk hU hW hPr hPc hKc hDc hN hH hS hFc zx_e⟩⟩ rfl rfl hl.1 rfl (lv_room (Nat.le_of_ble_eq_true rfl)) dX7_bestHint_27 ⟨Nat.le_of_ble_eq_true rfl, Nat.le_of_ble_eq_true rfl⟩) hS (fun q _ h => hFc q h) hFc (fun r6 u t H5 locs ht hvm hw hB hz1 hk1 hS => ?_)
  obtain rfl : r6 = 0 := hw
  have hP := zo_K hP hk1
  refine lv_iconst (v := 1) hx hb dX7_bestHint_30 (by decide) ?_
  refine lv_iload_n hx hb dX7_bestHint_31 rfl (lv_at hl 0 rfl) ?_
  refine lv_ishl hx hb dX7_bestHint_32 ?_
  refine zo_i (v := 1) (by decide) ?_
  refine lv_ior hx hb dX7_bestHint_33 ?_
  refine zo_i (v := 1) (by decide) ?_
  refine lv_aload_n hx hb dX7_bestHint_34 rfl (lv_at hl 3 rfl) ?_
  have hPr := ((zo_R hR0 hS hAr)).sub (ws' := [(mr, .inr (9, [.ref ll, .ref lt, .ref lp, .int 0, .int 0, .int 0, .int 0, .int 0, .int 0, .int 0, .int (-1), .int 0, .int 0, .int 0])), (ll, .inr (1, [.int 2, .ref ola, .int 2])), (ola, .inl (cOl, 10, .inr (.inr (.inr (.inr fol))))), (la0, .inl (cA0, 10, .inl fa0)), (la1, .inl (cA1, 10, .inl fa1))]) [0, 1, 2, 3, 4] rfl
  have hPc := hP.sub (ws' := []) [] rfl
  have hDc := hD.sub (ws' := []) [] (by decide) rfl
  have hKc := hK.sub (tys' := [(cOl, .object "java/lang/Object"), (cA0, .int), (cA1, .int)]) [0, 1, 2] rfl
  have hFc := va_free (wc := []) hD hS hA [] rfl
  refine va_calli (va_runV (As := []) (rest := [.int 1, .ref mr]) ⟨hx, hb, hml, hown, hts⟩ (cz_Qopened l dC dI ed H5.size mr ll lt lp ola cOl fol la0 la1 cA0 fa0 cA1 fa1 hol0 hol1 ha0_4 ha1_4) (cwV 0 hts gX7_bestHint_X7_opened rfl rfl rfl (by decide +kernel) ⟨Nat.le_of_ble_eq_true rfl, Nat.le_of_ble_eq_true rfl⟩) ⟨zb_blind, va_recv hK (zo_R hR0 hS hAr) (ci := 9) (q0 := 0) rfl rfl, fun U hU hW => ⟨rfl, zb_mk hU hW hPr hPc hKc hDc hN hH hS hFc zx_e⟩⟩ rfl rfl hl.1 rfl (lv_room (Nat.le_of_ble_eq_true rfl)) dX7_bestHint_35 ⟨Nat.le_of_ble_eq_true rfl, Nat.le_of_ble_eq_true rfl⟩) hS (fun q _ h => hFc q h) hFc (fun r8 u t H7 locs ht hvm hw hB hz1 hk1 hS => ?_)
  obtain rfl : r8 = 0 := hw
  have hP := zo_K hP hk1
  have hPr := ((zo_R hR0 hS hAr)).sub (ws' := [(mr, .inr (9, [.ref ll, .ref lt, .ref lp, .int 0, .int 0, .int 0, .int 0, .int 0, .int 0, .int 0, .int (-1), .int 0, .int 0, .int 0])), (ll, .inr (1, [.int 2, .ref ola, .int 2])), (ola, .inl (cOl, 10, .inr (.inr (.inr (.inr fol))))), (la0, .inl (cA0, 10, .inl fa0)), (la1, .inl (cA1, 10, .inl fa1)), (lt, .inr (1, [.int 10, .ref ota, .int 10])), (ota, .inl (cOt, 10, .inr (.inr (.inr (.inr fot))))), (ta0, .inl (cB0, 5, .inl fb0)), (ta1, .inl (cB1, 5, .inl fb1)), (ta2, .inl (cB2, 5, .inl fb2)), (ta3, .inl (cB3, 5, .inl fb3)), (ta4, .inl (cB4, 5, .inl fb4)), (ta5, .inl (cB5, 5, .inl fb5)), (ta6, .inl (cB6, 5, .inl fb6)), (ta7, .inl (cB7, 5, .inl fb7)), (ta8, .inl (cB8, 5, .inl fb8)), (ta9, .inl (cB9, 5, .inl fb9))]) [0, 1, 2, 3, 4, 5, 6, 7, 8, 9, 10, 11, 12, 13, 14, 15, 16] rfl
  have hPc := hP.sub (ws' := []) [] rfl
  have hDc := hD.sub (ws' := []) [] (by decide) rfl
  have hKc := hK.sub (tys' := [(cOl, .object "java/lang/Object"), (cA0, .int), (cA1, .int), (cOt, .object "java/lang/Object"), (cB0, .int), (cB1, .int), (cB2, .int), (cB3, .int), (cB4, .int), (cB5, .int), (cB6, .int), (cB7, .int), (cB8, .int), (cB9, .int)]) [0, 1, 2, 3, 4, 5, 6, 7, 8, 9, 10, 11, 12, 13] rfl
  have hFc := va_free (wc := []) hD hS hA [] rfl
  refine va_calli (va_runV (As := [.int 1, .int 0]) (rest := []) ⟨hx, hb, hml, hown, hts⟩ (cz_Qdepth_1 l dC dI ed H7.size mr ll lt lp ola cOl fol la0 la1 cA0 fa0 cA1 fa1 ota cOt fot ta0 ta1 ta2 ta3 ta4 ta5 ta6 ta7 ta8 ta9 cB0 fb0 0 cB1 fb1 0 cB2 fb2 0 cB3 fb3 0 cB4 fb4 0 cB5 fb5 0 cB6 fb6 0 cB7 fb7 0 cB8 fb8 0 cB9 fb9 0 hol0 hol1 ha0_0 ha0_1 ha0_8 ha1_0 ha1_1 ha1_8 hot0 hot1 hot2 hot3 hot4 hot5 hot6 hot7 hot8 hot9 hb0_0 hb0_3 hb1_0 hb1_3 hb2_0 hb2_3 hb3_0 hb3_3 hb4_0 hb4_3 hb5_0 hb5_3 hb6_0 hb6_3 hb7_0 hb7_3 hb8_0 hb8_3 hb9_0 hb9_3) (cwV 2 hts gX7_bestHint_X7_depth rfl rfl rfl (by decide +kernel) ⟨Nat.le_of_ble_eq_true rfl, Nat.le_of_ble_eq_true rfl⟩) ⟨zb_blind, va_recv hK (zo_R hR0 hS hAr) (ci := 9) (q0 := 0) rfl rfl, fun U hU hW => ⟨rfl, zb_mk hU hW hPr hPc hKc hDc hN hH hS hFc zx_e⟩⟩ rfl rfl hl.1 rfl (lv_room (Nat.le_of_ble_eq_true rfl)) dX7_bestHint_38 ⟨Nat.le_of_ble_eq_true rfl, Nat.le_of_ble_eq_true rfl⟩) hS (fun q _ h => hFc q h) hFc (fun r10 u t H9 locs ht hvm hw hB hz1 hk1 hS => ?_)
  obtain rfl : r10 = 0 := hw
  obtain ⟨rw0_11, cW0_11, fW0_11, hP1, hD1, hK1⟩ := hB
  rw [ht] at hP1
  obtain ⟨hP, hD⟩ := va_join (wr := []) (w1 := [(rw0_11, .inl (cW0_11, 1024, .inl fW0_11))]) hP hD [] [] rfl rfl (by decide) (by decide) hk1 hFc hP1 hD1
  have hP : va_P (dC, dI) vwCl [(rw0_11, .inl (cW0_11, 1024, .inl fW0_11))] H9 := hP
  have hD : va_D A [(rw0_11, .inl (cW0_11, 1024, .inl fW0_11))] := hD
  have hK := hK.app (va_K.moved hvm.symm hK1)
  have hK : va_K (dC, dI) vwCl [(cOl, .object "java/lang/Object"), (cA0, .int), (cA1, .int), (cOt, .object "java/lang/Object"), (cB0, .int), (cB1, .int), (cB2, .int), (cB3, .int), (cB4, .int), (cB5, .int), (cB6, .int), (cB7, .int), (cB8, .int), (cB9, .int), (cW0_11, .int)] s := hK
  refine lv_goto (tgt := 45) hx hb dX7_bestHint_41 (by decide) ?_
  refine lv_istore (lv' := [(4, .int 0), (3, .int 0), (2, .int 0), (1, .int (-1)), (0, .ref mr)]) hx hb dX7_bestHint_45 hl (by decide) rfl (fun ls hl => ?_)
  refine lv_iload hx hb dX7_bestHint_47 (lv_at hl 0 rfl) ?_
  refine lv_iconst (v := (-1)) hx hb dX7_bestHint_49 (by decide) ?_
  refine lv_icmp_eq (tgt := 72) hx hb dX7_bestHint_50 (by decide) (fun h => absurd h (by decide)) (fun _ => ?_)
  refine lv_iload_n hx hb dX7_bestHint_53 rfl (lv_at hl 3 rfl) ?_
  refine lv_iconst (v := (-1)) hx hb dX7_bestHint_54 (by decide) ?_
  refine lv_icmp_eq (tgt := 67) hx hb dX7_bestHint_55 (by decide) (fun _ => ?_) (fun h => absurd h (by decide))
  refine lv_iload_n hx hb dX7_bestHint_67 rfl (lv_at hl 1 rfl) ?_
  refine lv_istore_n (lv' := [(1, .int 0), (4, .int 0), (3, .int 0), (2, .int 0), (0, .ref mr)]) hx hb dX7_bestHint_68 rfl hl (by decide) rfl (fun ls hl => ?_)
  refine lv_iload hx hb dX7_bestHint_69 (lv_at hl 1 rfl) ?_
  refine lv_istore_n (lv' := [(2, .int 0), (1, .int 0), (4, .int 0), (3, .int 0), (0, .ref mr)]) hx hb dX7_bestHint_71 rfl hl (by decide) rfl (fun ls hl => ?_)
  refine lv_iinc (v := 1) (lv' := [(3, .int 1), (2, .int 0), (1, .int 0), (4, .int 0), (0, .ref mr)]) hx hb dX7_bestHint_72 hl (k := 3) rfl (by decide) (by decide) rfl (fun ls hl => ?_)
  refine lv_goto (tgt := 6) hx hb dX7_bestHint_75 (by decide) ?_
  refine lv_iload_n hx hb dX7_bestHint_6 rfl (lv_at hl 0 rfl) ?_
  refine lv_aload_n hx hb dX7_bestHint_7 rfl (lv_at hl 4 rfl) ?_
  refine va_get (D := (dC, dI)) (ci := 9) (v := .ref ll) (C := RX7) (T := TX7) (N := 14) hx hb hts zi_X7_bestHint_X7 hown hK (zo_R hR0 hS hAr) 0 rfl rfl 0 (by decide) (hts (.fieldLink RX7 12 "LockRoomsModel$Room" "locks" "Ljava/util/ArrayList;") (by decide +kernel)) (fun _ h9 => h9) rfl dX7_bestHint_8 ?_
  have hPr := ((zo_R hR0 hS hAr)).sub (ws' := [(ll, .inr (1, [.int 2, .ref ola, .int 2]))]) [1] rfl
  have hPc := hP.sub (ws' := []) [] rfl
  have hDc := hD.sub (ws' := []) [] (by decide) rfl
  have hKc := hK.sub (tys' := []) [] rfl
  have hFc := va_free (wc := []) hD hS hA [] rfl
  refine va_calli (va_runV (As := []) (rest := [.int 1]) ⟨hx, hb, hml, hown, hts⟩ (cz_Qsize l dC dI ed H9.size ll 2 ola 2) (cwV 0 hts gX7_bestHint_Jx4a65c_size_8abf5 rfl rfl rfl (by decide +kernel) ⟨Nat.le_of_ble_eq_true rfl, Nat.le_of_ble_eq_true rfl⟩) ⟨zb_blind, va_recv hK (zo_R hR0 hS hAr) (ci := 1) (q0 := 1) rfl rfl, fun U hU hW => ⟨rfl, zb_mk hU hW hPr hPc hKc hDc hN hH hS hFc zx_e⟩⟩ rfl rfl hl.1 rfl (lv_room (Nat.le_of_ble_eq_true rfl)) dX7_bestHint_11 ⟨Nat.le_of_ble_eq_true rfl, Nat.le_of_ble_eq_true rfl⟩) hS (fun q _ h => hFc q h) hFc (fun r13 u t H12 locs ht hvm hw hB hz1 hk1 hS => ?_)
  obtain rfl : r13 = 2 := hw.trans (by decide +kernel)
  have hP := zo_K hP hk1
  refine lv_icmp_ge (tgt := 78) hx hb dX7_bestHint_14 (by decide) (fun h => absurd h (by decide)) (fun _ => ?_)
  refine lv_aload_n hx hb dX7_bestHint_17 rfl (lv_at hl 4 rfl) ?_
  refine lv_iload_n hx hb dX7_bestHint_18 rfl (lv_at hl 0 rfl) ?_
  have hPr := ((zo_R hR0 hS hAr)).sub (ws' := [(mr, .inr (9, [.ref ll, .ref lt, .ref lp, .int 0, .int 0, .int 0, .int 0, .int 0, .int 0, .int 0, .int (-1), .int 0, .int 0, .int 0])), (ll, .inr (1, [.int 2, .ref ola, .int 2])), (ola, .inl (cOl, 10, .inr (.inr (.inr (.inr fol))))), (la1, .inl (cA1, 10, .inl fa1)), (lt, .inr (1, [.int 10, .ref ota, .int 10])), (ota, .inl (cOt, 10, .inr (.inr (.inr (.inr fot))))), (ta0, .inl (cB0, 5, .inl fb0)), (ta1, .inl (cB1, 5, .inl fb1)), (ta2, .inl (cB2, 5, .inl fb2)), (ta3, .inl (cB3, 5, .inl fb3)), (ta4, .inl (cB4, 5, .inl fb4)), (ta5, .inl (cB5, 5, .inl fb5)), (ta6, .inl (cB6, 5, .inl fb6)), (ta7, .inl (cB7, 5, .inl fb7)), (ta8, .inl (cB8, 5, .inl fb8)), (ta9, .inl (cB9, 5, .inl fb9))]) [0, 1, 2, 4, 5, 6, 7, 8, 9, 10, 11, 12, 13, 14, 15, 16] rfl
  have hPc := hP.sub (ws' := []) [] rfl
  have hDc := hD.sub (ws' := []) [] (by decide) rfl
  have hKc := hK.sub (tys' := [(cOl, .object "java/lang/Object"), (cA1, .int), (cOt, .object "java/lang/Object"), (cB0, .int), (cB1, .int), (cB2, .int), (cB3, .int), (cB4, .int), (cB5, .int), (cB6, .int), (cB7, .int), (cB8, .int), (cB9, .int)]) [0, 2, 3, 4, 5, 6, 7, 8, 9, 10, 11, 12, 13] rfl
  have hFc := va_free (wc := []) hD hS hA [] rfl
  refine va_calli (va_runV (As := [.int 1]) (rest := []) ⟨hx, hb, hml, hown, hts⟩ (cz_Q7isReady_1 l dC dI ed H12.size mr ll lt lp ola cOl fol la1 cA1 fa1 ota cOt fot ta0 ta1 ta2 ta3 ta4 ta5 ta6 ta7 ta8 ta9 cB0 fb0 cB1 fb1 cB2 fb2 cB3 fb3 cB4 fb4 cB5 fb5 cB6 fb6 cB7 fb7 cB8 fb8 cB9 fb9 hol1 ha1_0 ha1_4 ha1_8 hot0 hot1 hot2 hot3 hot4 hot5 hot6 hot7 hot8 hot9 hb0_3 hb1_3 hb2_3 hb3_3 hb4_3 hb5_3 hb6_3 hb7_3 hb8_3 hb9_3) (cwV 1 hts gX7_bestHint_X7_isReady rfl rfl rfl (by decide +kernel) ⟨Nat.le_of_ble_eq_true rfl, Nat.le_of_ble_eq_true rfl⟩) ⟨zb_blind, va_recv hK (zo_R hR0 hS hAr) (ci := 9) (q0 := 0) rfl rfl, fun U hU hW => ⟨rfl, zb_mk hU hW hPr hPc hKc hDc hN hH hS hFc zx_e⟩⟩ rfl rfl hl.1 rfl (lv_room (Nat.le_of_ble_eq_true rfl)) dX7_bestHint_19 ⟨Nat.le_of_ble_eq_true rfl, Nat.le_of_ble_eq_true rfl⟩) hS (fun q _ h => hFc q h) hFc (fun r15 u t H14 locs ht hvm hw hB hz1 hk1 hS => ?_)
  obtain rfl : r15 = 1 := hw
  have hP := zo_K hP hk1
  refine lv_if_eq (tgt := 44) hx hb dX7_bestHint_22 (by decide) (fun h => absurd h (by decide)) (fun _ => ?_)
  refine lv_aload_n hx hb dX7_bestHint_25 rfl (lv_at hl 4 rfl) ?_
  refine lv_aload_n hx hb dX7_bestHint_26 rfl (lv_at hl 4 rfl) ?_
  have hPr := ((zo_R hR0 hS hAr)).sub (ws' := [(mr, .inr (9, [.ref ll, .ref lt, .ref lp, .int 0, .int 0, .int 0, .int 0, .int 0, .int 0, .int 0, .int (-1), .int 0, .int 0, .int 0])), (ll, .inr (1, [.int 2, .ref ola, .int 2])), (ola, .inl (cOl, 10, .inr (.inr (.inr (.inr fol))))), (la0, .inl (cA0, 10, .inl fa0)), (la1, .inl (cA1, 10, .inl fa1))]) [0, 1, 2, 3, 4] rfl
  have hPc := hP.sub (ws' := []) [] rfl
  have hDc := hD.sub (ws' := []) [] (by decide) rfl
  have hKc := hK.sub (tys' := [(cOl, .object "java/lang/Object"), (cA0, .int), (cA1, .int)]) [0, 1, 2] rfl
  have hFc := va_free (wc := []) hD hS hA [] rfl
  refine va_calli (va_runV (As := []) (rest := [.ref mr]) ⟨hx, hb, hml, hown, hts⟩ (cz_Qopened l dC dI ed H14.size mr ll lt lp ola cOl fol la0 la1 cA0 fa0 cA1 fa1 hol0 hol1 ha0_4 ha1_4) (cwV 0 hts gX7_bestHint_X7_opened rfl rfl rfl (by decide +kernel) ⟨Nat.le_of_ble_eq_true rfl, Nat.le_of_ble_eq_true rfl⟩) ⟨zb_blind, va_recv hK (zo_R hR0 hS hAr) (ci := 9) (q0 := 0) rfl rfl, fun U hU hW => ⟨rfl, zb_mk hU hW hPr hPc hKc hDc hN hH hS hFc zx_e⟩⟩ rfl rfl hl.1 rfl (lv_room (Nat.le_of_ble_eq_true rfl)) dX7_bestHint_27 ⟨Nat.le_of_ble_eq_true rfl, Nat.le_of_ble_eq_true rfl⟩) hS (fun q _ h => hFc q h) hFc (fun r17 u t H16 locs ht hvm hw hB hz1 hk1 hS => ?_)
  obtain rfl : r17 = 0 := hw
  have hP := zo_K hP hk1
  refine lv_iconst (v := 1) hx hb dX7_bestHint_30 (by decide) ?_
  refine lv_iload_n hx hb dX7_bestHint_31 rfl (lv_at hl 0 rfl) ?_
  refine lv_ishl hx hb dX7_bestHint_32 ?_
  refine zo_i (v := 2) (by decide) ?_
  refine lv_ior hx hb dX7_bestHint_33 ?_
  refine zo_i (v := 2) (by decide) ?_
  refine lv_aload_n hx hb dX7_bestHint_34 rfl (lv_at hl 4 rfl) ?_
  have hPr := ((zo_R hR0 hS hAr)).sub (ws' := [(mr, .inr (9, [.ref ll, .ref lt, .ref lp, .int 0, .int 0, .int 0, .int 0, .int 0, .int 0, .int 0, .int (-1), .int 0, .int 0, .int 0])), (ll, .inr (1, [.int 2, .ref ola, .int 2])), (ola, .inl (cOl, 10, .inr (.inr (.inr (.inr fol))))), (la0, .inl (cA0, 10, .inl fa0)), (la1, .inl (cA1, 10, .inl fa1))]) [0, 1, 2, 3, 4] rfl
  have hPc := hP.sub (ws' := []) [] rfl
  have hDc := hD.sub (ws' := []) [] (by decide) rfl
  have hKc := hK.sub (tys' := [(cOl, .object "java/lang/Object"), (cA0, .int), (cA1, .int)]) [0, 1, 2] rfl
  have hFc := va_free (wc := []) hD hS hA [] rfl
  refine va_calli (va_runV (As := []) (rest := [.int 2, .ref mr]) ⟨hx, hb, hml, hown, hts⟩ (cz_Qopened l dC dI ed H16.size mr ll lt lp ola cOl fol la0 la1 cA0 fa0 cA1 fa1 hol0 hol1 ha0_4 ha1_4) (cwV 0 hts gX7_bestHint_X7_opened rfl rfl rfl (by decide +kernel) ⟨Nat.le_of_ble_eq_true rfl, Nat.le_of_ble_eq_true rfl⟩) ⟨zb_blind, va_recv hK (zo_R hR0 hS hAr) (ci := 9) (q0 := 0) rfl rfl, fun U hU hW => ⟨rfl, zb_mk hU hW hPr hPc hKc hDc hN hH hS hFc zx_e⟩⟩ rfl rfl hl.1 rfl (lv_room (Nat.le_of_ble_eq_true rfl)) dX7_bestHint_35 ⟨Nat.le_of_ble_eq_true rfl, Nat.le_of_ble_eq_true rfl⟩) hS (fun q _ h => hFc q h) hFc (fun r19 u t H18 locs ht hvm hw hB hz1 hk1 hS => ?_)
  obtain rfl : r19 = 0 := hw
  have hP := zo_K hP hk1
  have hPr := ((zo_R hR0 hS hAr)).sub (ws' := [(mr, .inr (9, [.ref ll, .ref lt, .ref lp, .int 0, .int 0, .int 0, .int 0, .int 0, .int 0, .int 0, .int (-1), .int 0, .int 0, .int 0])), (ll, .inr (1, [.int 2, .ref ola, .int 2])), (ola, .inl (cOl, 10, .inr (.inr (.inr (.inr fol))))), (la0, .inl (cA0, 10, .inl fa0)), (la1, .inl (cA1, 10, .inl fa1)), (lt, .inr (1, [.int 10, .ref ota, .int 10])), (ota, .inl (cOt, 10, .inr (.inr (.inr (.inr fot))))), (ta0, .inl (cB0, 5, .inl fb0)), (ta1, .inl (cB1, 5, .inl fb1)), (ta2, .inl (cB2, 5, .inl fb2)), (ta3, .inl (cB3, 5, .inl fb3)), (ta4, .inl (cB4, 5, .inl fb4)), (ta5, .inl (cB5, 5, .inl fb5)), (ta6, .inl (cB6, 5, .inl fb6)), (ta7, .inl (cB7, 5, .inl fb7)), (ta8, .inl (cB8, 5, .inl fb8)), (ta9, .inl (cB9, 5, .inl fb9))]) [0, 1, 2, 3, 4, 5, 6, 7, 8, 9, 10, 11, 12, 13, 14, 15, 16] rfl
  have hPc := hP.sub (ws' := []) [] rfl
  have hDc := hD.sub (ws' := []) [] (by decide) rfl
  have hKc := hK.sub (tys' := [(cOl, .object "java/lang/Object"), (cA0, .int), (cA1, .int), (cOt, .object "java/lang/Object"), (cB0, .int), (cB1, .int), (cB2, .int), (cB3, .int), (cB4, .int), (cB5, .int), (cB6, .int), (cB7, .int), (cB8, .int), (cB9, .int)]) [0, 1, 2, 3, 4, 5, 6, 7, 8, 9, 10, 11, 12, 13] rfl
  have hFc := va_free (wc := []) hD hS hA [] rfl
  refine va_calli (va_runV (As := [.int 2, .int 0]) (rest := []) ⟨hx, hb, hml, hown, hts⟩ (cz_Qdepth_2 l dC dI ed H18.size mr ll lt lp ola cOl fol la0 la1 cA0 fa0 cA1 fa1 ota cOt fot ta0 ta1 ta2 ta3 ta4 ta5 ta6 ta7 ta8 ta9 cB0 fb0 0 cB1 fb1 0 cB2 fb2 0 cB3 fb3 0 cB4 fb4 0 cB5 fb5 0 cB6 fb6 0 cB7 fb7 0 cB8 fb8 0 cB9 fb9 0 hol0 hol1 ha0_0 ha0_1 ha0_8 ha1_0 ha1_1 ha1_8 hot0 hot1 hot2 hot3 hot4 hot5 hot6 hot7 hot8 hot9 hb0_0 hb0_3 hb1_0 hb1_3 hb2_0 hb2_3 hb3_0 hb3_3 hb4_0 hb4_3 hb5_0 hb5_3 hb6_0 hb6_3 hb7_0 hb7_3 hb8_0 hb8_3 hb9_0 hb9_3) (cwV 2 hts gX7_bestHint_X7_depth rfl rfl rfl (by decide +kernel) ⟨Nat.le_of_ble_eq_true rfl, Nat.le_of_ble_eq_true rfl⟩) ⟨zb_blind, va_recv hK (zo_R hR0 hS hAr) (ci := 9) (q0 := 0) rfl rfl, fun U hU hW => ⟨rfl, zb_mk hU hW hPr hPc hKc hDc hN hH hS hFc zx_e⟩⟩ rfl rfl hl.1 rfl (lv_room (Nat.le_of_ble_eq_true rfl)) dX7_bestHint_38 ⟨Nat.le_of_ble_eq_true rfl, Nat.le_of_ble_eq_true rfl⟩) hS (fun q _ h => hFc q h) hFc (fun r21 u t H20 locs ht hvm hw hB hz1 hk1 hS => ?_)
  obtain rfl : r21 = 1 := hw
  obtain ⟨rw0_22, cW0_22, fW0_22, hP1, hD1, hK1⟩ := hB
  rw [ht] at hP1
  obtain ⟨hP, hD⟩ := va_join (wr := [(rw0_11, .inl (cW0_11, 1024, .inl fW0_11))]) (w1 := [(rw0_22, .inl (cW0_22, 1024, .inl fW0_22))]) hP hD [] [0] rfl rfl (by decide) (by decide) hk1 hFc hP1 hD1
  have hP : va_P (dC, dI) vwCl [(rw0_11, .inl (cW0_11, 1024, .inl fW0_11)), (rw0_22, .inl (cW0_22, 1024, .inl fW0_22))] H20 := hP
  have hD : va_D A [(rw0_11, .inl (cW0_11, 1024, .inl fW0_11)), (rw0_22, .inl (cW0_22, 1024, .inl fW0_22))] := hD
  have hK := hK.app (va_K.moved hvm.symm hK1)
  have hK : va_K (dC, dI) vwCl [(cOl, .object "java/lang/Object"), (cA0, .int), (cA1, .int), (cOt, .object "java/lang/Object"), (cB0, .int), (cB1, .int), (cB2, .int), (cB3, .int), (cB4, .int), (cB5, .int), (cB6, .int), (cB7, .int), (cB8, .int), (cB9, .int), (cW0_11, .int), (cW0_22, .int)] s := hK
  refine lv_goto (tgt := 45) hx hb dX7_bestHint_41 (by decide) ?_
  refine lv_istore (lv' := [(4, .int 1), (3, .int 1), (2, .int 0), (1, .int 0), (0, .ref mr)]) hx hb dX7_bestHint_45 hl (by decide) rfl (fun ls hl => ?_)
  refine lv_iload hx hb dX7_bestHint_47 (lv_at hl 0 rfl) ?_
  refine lv_iconst (v := (-1)) hx hb dX7_bestHint_49 (by decide) ?_
  refine lv_icmp_eq (tgt := 72) hx hb dX7_bestHint_50 (by decide) (fun h => absurd h (by decide)) (fun _ => ?_)
  refine lv_iload_n hx hb dX7_bestHint_53 rfl (lv_at hl 3 rfl) ?_
  refine lv_iconst (v := (-1)) hx hb dX7_bestHint_54 (by decide) ?_
  refine lv_icmp_eq (tgt := 67) hx hb dX7_bestHint_55 (by decide) (fun h => absurd h (by decide)) (fun _ => ?_)
  refine lv_iload hx hb dX7_bestHint_58 (lv_at hl 0 rfl) ?_
  refine lv_iload_n hx hb dX7_bestHint_60 rfl (lv_at hl 2 rfl) ?_
  refine lv_icmp_lt (tgt := 67) hx hb dX7_bestHint_61 (by decide) (fun h => absurd h (by decide)) (fun _ => ?_)
  refine lv_goto (tgt := 72) hx hb dX7_bestHint_64 (by decide) ?_
  refine lv_iinc (v := 2) (lv' := [(3, .int 2), (4, .int 1), (2, .int 0), (1, .int 0), (0, .ref mr)]) hx hb dX7_bestHint_72 hl (k := 1) rfl (by decide) (by decide) rfl (fun ls hl => ?_)
  refine lv_goto (tgt := 6) hx hb dX7_bestHint_75 (by decide) ?_
  refine lv_iload_n hx hb dX7_bestHint_6 rfl (lv_at hl 0 rfl) ?_
  refine lv_aload_n hx hb dX7_bestHint_7 rfl (lv_at hl 4 rfl) ?_
  refine va_get (D := (dC, dI)) (ci := 9) (v := .ref ll) (C := RX7) (T := TX7) (N := 14) hx hb hts zi_X7_bestHint_X7 hown hK (zo_R hR0 hS hAr) 0 rfl rfl 0 (by decide) (hts (.fieldLink RX7 12 "LockRoomsModel$Room" "locks" "Ljava/util/ArrayList;") (by decide +kernel)) (fun _ h9 => h9) rfl dX7_bestHint_8 ?_
  have hPr := ((zo_R hR0 hS hAr)).sub (ws' := [(ll, .inr (1, [.int 2, .ref ola, .int 2]))]) [1] rfl
  have hPc := hP.sub (ws' := []) [] rfl
  have hDc := hD.sub (ws' := []) [] (by decide) rfl
  have hKc := hK.sub (tys' := []) [] rfl
  have hFc := va_free (wc := []) hD hS hA [] rfl
  refine va_calli (va_runV (As := []) (rest := [.int 2]) ⟨hx, hb, hml, hown, hts⟩ (cz_Qsize l dC dI ed H20.size ll 2 ola 2) (cwV 0 hts gX7_bestHint_Jx4a65c_size_8abf5 rfl rfl rfl (by decide +kernel) ⟨Nat.le_of_ble_eq_true rfl, Nat.le_of_ble_eq_true rfl⟩) ⟨zb_blind, va_recv hK (zo_R hR0 hS hAr) (ci := 1) (q0 := 1) rfl rfl, fun U hU hW => ⟨rfl, zb_mk hU hW hPr hPc hKc hDc hN hH hS hFc zx_e⟩⟩ rfl rfl hl.1 rfl (lv_room (Nat.le_of_ble_eq_true rfl)) dX7_bestHint_11 ⟨Nat.le_of_ble_eq_true rfl, Nat.le_of_ble_eq_true rfl⟩) hS (fun q _ h => hFc q h) hFc (fun r24 u t H23 locs ht hvm hw hB hz1 hk1 hS => ?_)
  obtain rfl : r24 = 2 := hw.trans (by decide +kernel)
  have hP := zo_K hP hk1
  refine lv_icmp_ge (tgt := 78) hx hb dX7_bestHint_14 (by decide) (fun _ => ?_) (fun h => absurd h (by decide))
  refine lv_iload_n hx hb dX7_bestHint_78 rfl (lv_at hl 3 rfl) ?_
  refine W.widen (k := 2) (n := 2048) (Nat.le_of_ble_eq_true rfl) (Nat.le_of_ble_eq_true rfl) ?_
  have hP9 := hP.sub (ws' := [(rw0_11, .inl (cW0_11, 1024, .inl fW0_11)), (rw0_22, .inl (cW0_22, 1024, .inl fW0_22))]) [0, 1] rfl
  have hD9 := hD.sub (ws' := [(rw0_11, .inl (cW0_11, 1024, .inl fW0_11)), (rw0_22, .inl (cW0_22, 1024, .inl fW0_22))]) [0, 1] (by decide) rfl
  have hK9 := hK.sub (tys' := [(cW0_11, .int), (cW0_22, .int)]) [14, 15] rfl
  exact W.iret hx hb hr (fun t ht hW => ⟨⟨0, (), rfl, rfl, ⟨rw0_11, rw0_22, cW0_11, cW0_22, fW0_11, fW0_22, by rw [ht]; exact hP9, hD9, va_K.moved hW.alike hK9⟩⟩, hS.F ht⟩) hS.2.2 dX7_bestHint_79
def zQm (x : Int32) : Int32 := if x = 1 then 2 else if x = 2 then 10 else if x = 8 then -1 else if x = 13 then 3 else if x = 17 then 1 else 0
set_option maxHeartbeats 4000000 in
set_option maxRecDepth 100000 in
theorem cz_QmanyNow (l : Launch) (dC : Nat → ClassId) (dI : Nat → Nat → Nat) (ed sz : Nat) (mo : Nat) (mr : Nat) (x9 : Int32) (s9 : Int64) (ll : Nat) (lt : Nat) (lp : Nat) (ola : Nat) (cOl : ClassId) (fol : Nat → Option Nat) (la0 : Nat) (la1 : Nat) (cA0 : ClassId) (fa0 : Nat → Int32) (cA1 : ClassId) (fa1 : Nat → Int32) (ota : Nat) (cOt : ClassId) (fot : Nat → Option Nat) (ta0 : Nat) (ta1 : Nat) (ta2 : Nat) (ta3 : Nat) (ta4 : Nat) (ta5 : Nat) (ta6 : Nat) (ta7 : Nat) (ta8 : Nat) (ta9 : Nat) (cB0 : ClassId) (fb0 : Nat → Int32) (cB1 : ClassId) (fb1 : Nat → Int32) (cB2 : ClassId) (fb2 : Nat → Int32) (cB3 : ClassId) (fb3 : Nat → Int32) (cB4 : ClassId) (fb4 : Nat → Int32) (cB5 : ClassId) (fb5 : Nat → Int32) (cB6 : ClassId) (fb6 : Nat → Int32) (cB7 : ClassId) (fb7 : Nat → Int32) (cB8 : ClassId) (fb8 : Nat → Int32) (cB9 : ClassId) (fb9 : Nat → Int32) (x0 : Int32) (hol0 : fol 0 = some la0) (hol1 : fol 1 = some la1) (ha0_0 : fa0 0 = 0) (ha0_4 : fa0 4 = 0) (ha0_8 : fa0 8 = 0) (ha1_0 : fa1 0 = 0) (ha1_4 : fa1 4 = 0) (ha1_8 : fa1 8 = 0) (hot0 : fot 0 = some ta0) (hot1 : fot 1 = some ta1) (hot2 : fot 2 = some ta2) (hot3 : fot 3 = some ta3) (hot4 : fot 4 = some ta4) (hot5 : fot 5 = some ta5) (hot6 : fot 6 = some ta6) (hot7 : fot 7 = some ta7) (hot8 : fot 8 = some ta8) (hot9 : fot 9 = some ta9) (hb0_3 : fb0 3 = 0) (hb1_3 : fb1 3 = 0) (hb2_3 : fb2 3 = 0) (hb3_3 : fb3 3 = 0) (hb4_3 : fb4 3 = 0) (hb5_3 : fb5 3 = 0) (hb6_3 : fb6 3 = 0) (hb7_3 : fb7 3 = 0) (hb8_3 : fb8 3 = 0) (hb9_3 : fb9 3 = 0) (hr18 : (¬ x0 < 0 ∧ ¬ 18 < x0)) : Met l yX8_manyNow wsX8_manyNow ({ frames := 6, cells := 1, slots := 19, locals := 131 } : Jvm.Room) (va_Pc [.ref mo, .int x0] (zB dC dI ed sz [(mo, .inr (10, [.int x9, .ref mr, .int 1, .long s9])), (mr, .inr (9, [.ref ll, .ref lt, .ref lp, .int 0, .int 0, .int 0, .int 0, .int 0, .int 0, .int 0, .int (-1), .int 0, .int 0, .int 0])), (lp, .inr (1, [.int 0, .ref ed, .int 0])), (ll, .inr (1, [.int 2, .ref ola, .int 2])), (ola, .inl (cOl, 10, .inr (.inr (.inr (.inr fol))))), (la0, .inl (cA0, 10, .inl fa0)), (la1, .inl (cA1, 10, .inl fa1)), (lt, .inr (1, [.int 10, .ref ota, .int 10])), (ota, .inl (cOt, 10, .inr (.inr (.inr (.inr fot))))), (ta0, .inl (cB0, 5, .inl fb0)), (ta1, .inl (cB1, 5, .inl fb1)), (ta2, .inl (cB2, 5, .inl fb2)), (ta3, .inl (cB3, 5, .inl fb3)), (ta4, .inl (cB4, 5, .inl fb4)), (ta5, .inl (cB5, 5, .inl fb5)), (ta6, .inl (cB6, 5, .inl fb6)), (ta7, .inl (cB7, 5, .inl fb7)), (ta8, .inl (cB8, 5, .inl fb8)), (ta9, .inl (cB9, 5, .inl fb9))] [] [(cOl, .object "java/lang/Object"), (cA0, .int), (cA1, .int), (cOt, .object "java/lang/Object"), (cB0, .int), (cB1, .int), (cB2, .int), (cB3, .int), (cB4, .int), (cB5, .int), (cB6, .int), (cB7, .int), (cB8, .int), (cB9, .int)])) (va_Qi (fun (r : Int32) (_ : Unit) => r = zQm x0) (fun (_ : Unit) (_ : State) => True) (va_A [] sz)) 1 19 (va_A [] sz) := by
  refine Met.ofW (cc := cX8_manyNow) (maxL := 3) (ret := (some .int)) (by decide) rfl ?_
  intro p e s m args below meth c s₁ B hml hv
  obtain ⟨rfl, hsz, hR0, hP, hK, hD0, hN, hH, hX0⟩ := hv
  have hx := B.exec
  have hb := B.bytes
  have hr := B.returns
  have hts := atoms_spec (ws := wsX8_manyNow) B.pre
  have hown : s.vm.findClass RX8 = some m.cls := findClass_of_methodNamed B.named
  have hlocks := B.notSynchronized
  subst hsz
  have hD := hD0.self (sz := s.heap.size)
  have hAr := zx_A hX0 hR0
  generalize hAe : va_A [] s.heap.size = A at hD hAr hH ⊢
  have hA : ∀ q : Nat, s.heap.size ≤ q → A q := fun q h => by rw [← hAe]; exact Or.inr h
  have hS : va_S A s.heap s.heap [] := va_S.rf
  have hl := lv_entry ([.ref mo, .int x0]) (n := 3) (Nat.le_of_ble_eq_true rfl)
  rw [lg_entry_eq]
  generalize (lg_sl ([.ref mo, .int x0]) ++ List.replicate (3 - (lg_sl ([.ref mo, .int x0])).length) Slot.unset).toArray = ls at hl ⊢
  have hl : lv_has ls 3 [(0, .ref mo), (1, .int x0)] := hl
  refine lv_bipush (v := 19) hx hb dX8_manyNow_0 (by decide) ?_
  refine va_newa (atype := .int) (a0 := (19, .inl (fun _ => 0))) hx hb (hts (.arrayClass .int) (by decide +kernel)) rfl hK hP hD hS hA (fun cA => rfl) (by decide) (N' := 19) (by decide) (by decide) (Nat.le_of_ble_eq_true rfl) (Nat.le_of_ble_eq_true rfl) dX8_manyNow_2 (fun q1 cA3 H2 hK hP hD hS => ?_)
  have hP : va_P (dC, dI) vwCl [(q1, .inl (cA3, 19, .inl (fun _ => 0)))] H2 := hP
  have hD : va_D A [(q1, .inl (cA3, 19, .inl (fun _ => 0)))] := hD
  refine lv_dup hx hb dX8_manyNow_4 rfl ?_
  refine lv_iconst (v := 0) hx hb dX8_manyNow_5 (by decide) ?_
  refine lv_aload_n hx hb dX8_manyNow_6 rfl (lv_at hl 0 rfl) ?_
  refine va_get (D := (dC, dI)) (ci := 10) (v := .ref mr) (C := RX8) (T := TX8) (N := 4) hx hb hts zi_X8_manyNow_X8 hown hK (zo_R hR0 hS hAr) 0 rfl rfl 1 (by decide) (hts (.fieldLink RX8 10 "LockRoomsModel" "room" "LLockRoomsModel$Room;") (by decide +kernel)) (fun _ h9 => h9) rfl dX8_manyNow_7 ?_
  refine va_getN (D := (dC, dI)) (ci := 9) (v := .int 0) (C := RX7) (T := TX7) (N := 14) hx hb hts zi_X8_manyNow_X7 hown hK (zo_R hR0 hS hAr) 1 rfl rfl 4 (by decide) (va_Nw.use rfl (hN.1 ("LockRoomsModel", 78, "LockRoomsModel$Room", "now", "I", "LockRoomsModel") (List.mem_of_getElem? (i := 5) rfl))) (fun _ h9 => h9) rfl dX8_manyNow_10 ?_
  refine va_iast hx hb hK hP hD hS 0 14 rfl rfl (by unfold vp_in; decide) dX8_manyNow_13 (fun H5 locs hP hD hS => ?_)
  obtain ⟨f6, ef6⟩ : ∃ z : Nat → Int32, z = upd (fun _ => 0) 0 0 := ⟨_, rfl⟩
  have k7 : f6 1 = 0 := by rw [ef6]; exact (pk_un (by decide)).trans (rfl)
  have k8 : f6 2 = 0 := by rw [ef6]; exact (pk_un (by decide)).trans (rfl)
  have k9 : f6 3 = 0 := by rw [ef6]; exact (pk_un (by decide)).trans (rfl)
  have k10 : f6 4 = 0 := by rw [ef6]; exact (pk_un (by decide)).trans (rfl)
  have k11 : f6 5 = 0 := by rw [ef6]; exact (pk_un (by decide)).trans (rfl)
  have k12 : f6 6 = 0 := by rw [ef6]; exact (pk_un (by decide)).trans (rfl)
  have k13 : f6 7 = 0 := by rw [ef6]; exact (pk_un (by decide)).trans (rfl)
  have k14 : f6 8 = 0 := by rw [ef6]; exact (pk_un (by decide)).trans (rfl)
  have k15 : f6 9 = 0 := by rw [ef6]; exact (pk_un (by decide)).trans (rfl)
  have k16 : f6 10 = 0 := by rw [ef6]; exact (pk_un (by decide)).trans (rfl)
  have k17 : f6 11 = 0 := by rw [ef6]; exact (pk_un (by decide)).trans (rfl)
  have k18 : f6 12 = 0 := by rw [ef6]; exact (pk_un (by decide)).trans (rfl)
  have k19 : f6 13 = 0 := by rw [ef6]; exact (pk_un (by decide)).trans (rfl)
  have k20 : f6 14 = 0 := by rw [ef6]; exact (pk_un (by decide)).trans (rfl)
  have k21 : f6 15 = 0 := by rw [ef6]; exact (pk_un (by decide)).trans (rfl)
  have k22 : f6 16 = 0 := by rw [ef6]; exact (pk_un (by decide)).trans (rfl)
  have k23 : f6 17 = 0 := by rw [ef6]; exact (pk_un (by decide)).trans (rfl)
  have k24 : f6 18 = 0 := by rw [ef6]; exact (pk_un (by decide)).trans (rfl)
  have k25 : f6 0 = 0 := by rw [ef6]; exact pk_us
  have hP : va_P (dC, dI) vwCl [(q1, .inl (cA3, 19, .inl f6))] H5 := by rw [ef6]; exact hP
  have hD : va_D A [(q1, .inl (cA3, 19, .inl f6))] := by rw [ef6]; exact hD
  refine lv_dup hx hb dX8_manyNow_14 rfl ?_
  refine lv_iconst (v := 1) hx hb dX8_manyNow_15 (by decide) ?_
  refine lv_aload_n hx hb dX8_manyNow_16 rfl (lv_at hl 0 rfl) ?_
  refine va_get (D := (dC, dI)) (ci := 10) (v := .ref mr) (C := RX8) (T := TX8) (N := 4) hx hb hts zi_X8_manyNow_X8 hown hK (zo_R hR0 hS hAr) 0 rfl rfl 1 (by decide) (hts (.fieldLink RX8 10 "LockRoomsModel" "room" "LLockRoomsModel$Room;") (by decide +kernel)) (fun _ h9 => h9) rfl dX8_manyNow_17 ?_
  refine va_getN (D := (dC, dI)) (ci := 9) (v := .ref ll) (C := RX7) (T := TX7) (N := 14) hx hb hts zi_X8_manyNow_X7 hown hK (zo_R hR0 hS hAr) 1 rfl rfl 0 (by decide) (va_Nw.use rfl (hN.1 ("LockRoomsModel", 24, "LockRoomsModel$Room", "locks", "Ljava/util/ArrayList;", "LockRoomsModel") (List.mem_of_getElem? (i := 1) rfl))) (fun _ h9 => h9) rfl dX8_manyNow_20 ?_
  have hPr := ((zo_R hR0 hS hAr)).sub (ws' := [(ll, .inr (1, [.int 2, .ref ola, .int 2]))]) [3] rfl
  have hPc := hP.sub (ws' := []) [] rfl
  have hDc := hD.sub (ws' := []) [] (by decide) rfl
  have hKc := hK.sub (tys' := []) [] rfl
  have hFc := va_free (wc := []) hD hS hA [] rfl
  refine va_calli (va_runV (As := []) (rest := [.int 1, .ref q1, .ref q1]) ⟨hx, hb, hml, hown, hts⟩ (cz_Qsize l dC dI ed H5.size ll 2 ola 2) (cwV 0 hts gX8_manyNow_Jx4a65c_size_8abf5 rfl rfl rfl (by decide +kernel) ⟨Nat.le_of_ble_eq_true rfl, Nat.le_of_ble_eq_true rfl⟩) ⟨zb_blind, va_recv hK (zo_R hR0 hS hAr) (ci := 1) (q0 := 3) rfl rfl, fun U hU hW => ⟨rfl, zb_mk hU hW hPr hPc hKc hDc hN hH hS hFc zx_e⟩⟩ rfl rfl hl.1 rfl (lv_room (Nat.le_of_ble_eq_true rfl)) dX8_manyNow_23 ⟨Nat.le_of_ble_eq_true rfl, Nat.le_of_ble_eq_true rfl⟩) hS (fun q _ h => hFc q h) hFc (fun r27 u t H26 locs ht hvm hw hB hz1 hk1 hS => ?_)
  obtain rfl : r27 = 2 := hw.trans (by decide +kernel)
  have hP := zo_K hP hk1
  refine va_iast hx hb hK hP hD hS 0 14 rfl rfl (by unfold vp_in; decide) dX8_manyNow_26 (fun H28 locs hP hD hS => ?_)
  obtain ⟨f29, ef29⟩ : ∃ z : Nat → Int32, z = upd f6 1 2 := ⟨_, rfl⟩
  have k30 : f29 2 = 0 := by rw [ef29]; exact (pk_un (by decide)).trans (k8)
  have k31 : f29 3 = 0 := by rw [ef29]; exact (pk_un (by decide)).trans (k9)
  have k32 : f29 4 = 0 := by rw [ef29]; exact (pk_un (by decide)).trans (k10)
  have k33 : f29 5 = 0 := by rw [ef29]; exact (pk_un (by decide)).trans (k11)
  have k34 : f29 6 = 0 := by rw [ef29]; exact (pk_un (by decide)).trans (k12)
  have k35 : f29 7 = 0 := by rw [ef29]; exact (pk_un (by decide)).trans (k13)
  have k36 : f29 8 = 0 := by rw [ef29]; exact (pk_un (by decide)).trans (k14)
  have k37 : f29 9 = 0 := by rw [ef29]; exact (pk_un (by decide)).trans (k15)
  have k38 : f29 10 = 0 := by rw [ef29]; exact (pk_un (by decide)).trans (k16)
  have k39 : f29 11 = 0 := by rw [ef29]; exact (pk_un (by decide)).trans (k17)
  have k40 : f29 12 = 0 := by rw [ef29]; exact (pk_un (by decide)).trans (k18)
  have k41 : f29 13 = 0 := by rw [ef29]; exact (pk_un (by decide)).trans (k19)
  have k42 : f29 14 = 0 := by rw [ef29]; exact (pk_un (by decide)).trans (k20)
  have k43 : f29 15 = 0 := by rw [ef29]; exact (pk_un (by decide)).trans (k21)
  have k44 : f29 16 = 0 := by rw [ef29]; exact (pk_un (by decide)).trans (k22)
  have k45 : f29 17 = 0 := by rw [ef29]; exact (pk_un (by decide)).trans (k23)
  have k46 : f29 18 = 0 := by rw [ef29]; exact (pk_un (by decide)).trans (k24)
  have k47 : f29 0 = 0 := by rw [ef29]; exact (pk_un (by decide)).trans (k25)
  have k48 : f29 1 = 2 := by rw [ef29]; exact pk_us
  have hP : va_P (dC, dI) vwCl [(q1, .inl (cA3, 19, .inl f29))] H28 := by rw [ef29]; exact hP
  have hD : va_D A [(q1, .inl (cA3, 19, .inl f29))] := by rw [ef29]; exact hD
  refine lv_dup hx hb dX8_manyNow_27 rfl ?_
  refine lv_iconst (v := 2) hx hb dX8_manyNow_28 (by decide) ?_
  refine lv_aload_n hx hb dX8_manyNow_29 rfl (lv_at hl 0 rfl) ?_
  refine va_get (D := (dC, dI)) (ci := 10) (v := .ref mr) (C := RX8) (T := TX8) (N := 4) hx hb hts zi_X8_manyNow_X8 hown hK (zo_R hR0 hS hAr) 0 rfl rfl 1 (by decide) (hts (.fieldLink RX8 10 "LockRoomsModel" "room" "LLockRoomsModel$Room;") (by decide +kernel)) (fun _ h9 => h9) rfl dX8_manyNow_30 ?_
  refine va_getN (D := (dC, dI)) (ci := 9) (v := .ref lt) (C := RX7) (T := TX7) (N := 14) hx hb hts zi_X8_manyNow_X7 hown hK (zo_R hR0 hS hAr) 1 rfl rfl 1 (by decide) (va_Nw.use rfl (hN.1 ("LockRoomsModel", 38, "LockRoomsModel$Room", "things", "Ljava/util/ArrayList;", "LockRoomsModel") (List.mem_of_getElem? (i := 2) rfl))) (fun _ h9 => h9) rfl dX8_manyNow_33 ?_
  have hPr := ((zo_R hR0 hS hAr)).sub (ws' := [(lt, .inr (1, [.int 10, .ref ota, .int 10]))]) [7] rfl
  have hPc := hP.sub (ws' := []) [] rfl
  have hDc := hD.sub (ws' := []) [] (by decide) rfl
  have hKc := hK.sub (tys' := []) [] rfl
  have hFc := va_free (wc := []) hD hS hA [] rfl
  refine va_calli (va_runV (As := []) (rest := [.int 2, .ref q1, .ref q1]) ⟨hx, hb, hml, hown, hts⟩ (cz_Qsize l dC dI ed H28.size lt 10 ota 10) (cwV 0 hts gX8_manyNow_Jx4a65c_size_8abf5 rfl rfl rfl (by decide +kernel) ⟨Nat.le_of_ble_eq_true rfl, Nat.le_of_ble_eq_true rfl⟩) ⟨zb_blind, va_recv hK (zo_R hR0 hS hAr) (ci := 1) (q0 := 7) rfl rfl, fun U hU hW => ⟨rfl, zb_mk hU hW hPr hPc hKc hDc hN hH hS hFc zx_e⟩⟩ rfl rfl hl.1 rfl (lv_room (Nat.le_of_ble_eq_true rfl)) dX8_manyNow_36 ⟨Nat.le_of_ble_eq_true rfl, Nat.le_of_ble_eq_true rfl⟩) hS (fun q _ h => hFc q h) hFc (fun r50 u t H49 locs ht hvm hw hB hz1 hk1 hS => ?_)
  obtain rfl : r50 = 10 := hw.trans (by decide +kernel)
  have hP := zo_K hP hk1
  refine va_iast hx hb hK hP hD hS 0 14 rfl rfl (by unfold vp_in; decide) dX8_manyNow_39 (fun H51 locs hP hD hS => ?_)
  obtain ⟨f52, ef52⟩ : ∃ z : Nat → Int32, z = upd f29 2 10 := ⟨_, rfl⟩
  have k53 : f52 3 = 0 := by rw [ef52]; exact (pk_un (by decide)).trans (k31)
  have k54 : f52 4 = 0 := by rw [ef52]; exact (pk_un (by decide)).trans (k32)
  have k55 : f52 5 = 0 := by rw [ef52]; exact (pk_un (by decide)).trans (k33)
  have k56 : f52 6 = 0 := by rw [ef52]; exact (pk_un (by decide)).trans (k34)
  have k57 : f52 7 = 0 := by rw [ef52]; exact (pk_un (by decide)).trans (k35)
  have k58 : f52 8 = 0 := by rw [ef52]; exact (pk_un (by decide)).trans (k36)
  have k59 : f52 9 = 0 := by rw [ef52]; exact (pk_un (by decide)).trans (k37)
  have k60 : f52 10 = 0 := by rw [ef52]; exact (pk_un (by decide)).trans (k38)
  have k61 : f52 11 = 0 := by rw [ef52]; exact (pk_un (by decide)).trans (k39)
  have k62 : f52 12 = 0 := by rw [ef52]; exact (pk_un (by decide)).trans (k40)
  have k63 : f52 13 = 0 := by rw [ef52]; exact (pk_un (by decide)).trans (k41)
  have k64 : f52 14 = 0 := by rw [ef52]; exact (pk_un (by decide)).trans (k42)
  have k65 : f52 15 = 0 := by rw [ef52]; exact (pk_un (by decide)).trans (k43)
  have k66 : f52 16 = 0 := by rw [ef52]; exact (pk_un (by decide)).trans (k44)
  have k67 : f52 17 = 0 := by rw [ef52]; exact (pk_un (by decide)).trans (k45)
  have k68 : f52 18 = 0 := by rw [ef52]; exact (pk_un (by decide)).trans (k46)
  have k69 : f52 0 = 0 := by rw [ef52]; exact (pk_un (by decide)).trans (k47)
  have k70 : f52 1 = 2 := by rw [ef52]; exact (pk_un (by decide)).trans (k48)
  have k71 : f52 2 = 10 := by rw [ef52]; exact pk_us
  have hP : va_P (dC, dI) vwCl [(q1, .inl (cA3, 19, .inl f52))] H51 := by rw [ef52]; exact hP
  have hD : va_D A [(q1, .inl (cA3, 19, .inl f52))] := by rw [ef52]; exact hD
  refine lv_dup hx hb dX8_manyNow_40 rfl ?_
  refine lv_iconst (v := 3) hx hb dX8_manyNow_41 (by decide) ?_
  refine lv_aload_n hx hb dX8_manyNow_42 rfl (lv_at hl 0 rfl) ?_
  refine va_get (D := (dC, dI)) (ci := 10) (v := .ref mr) (C := RX8) (T := TX8) (N := 4) hx hb hts zi_X8_manyNow_X8 hown hK (zo_R hR0 hS hAr) 0 rfl rfl 1 (by decide) (hts (.fieldLink RX8 10 "LockRoomsModel" "room" "LLockRoomsModel$Room;") (by decide +kernel)) (fun _ h9 => h9) rfl dX8_manyNow_43 ?_
  refine va_getN (D := (dC, dI)) (ci := 9) (v := .ref lp) (C := RX7) (T := TX7) (N := 14) hx hb hts zi_X8_manyNow_X7 hown hK (zo_R hR0 hS hAr) 1 rfl rfl 2 (by decide) (va_Nw.use rfl (hN.1 ("LockRoomsModel", 59, "LockRoomsModel$Room", "players", "Ljava/util/ArrayList;", "LockRoomsModel") (List.mem_of_getElem? (i := 3) rfl))) (fun _ h9 => h9) rfl dX8_manyNow_46 ?_
  have hPr := ((zo_R hR0 hS hAr)).sub (ws' := [(lp, .inr (1, [.int 0, .ref ed, .int 0]))]) [2] rfl
  have hPc := hP.sub (ws' := []) [] rfl
  have hDc := hD.sub (ws' := []) [] (by decide) rfl
  have hKc := hK.sub (tys' := []) [] rfl
  have hFc := va_free (wc := []) hD hS hA [] rfl
  refine va_calli (va_runV (As := []) (rest := [.int 3, .ref q1, .ref q1]) ⟨hx, hb, hml, hown, hts⟩ (cz_Qsize l dC dI ed H51.size lp 0 ed 0) (cwV 0 hts gX8_manyNow_Jx4a65c_size_8abf5 rfl rfl rfl (by decide +kernel) ⟨Nat.le_of_ble_eq_true rfl, Nat.le_of_ble_eq_true rfl⟩) ⟨zb_blind, va_recv hK (zo_R hR0 hS hAr) (ci := 1) (q0 := 2) rfl rfl, fun U hU hW => ⟨rfl, zb_mk hU hW hPr hPc hKc hDc hN hH hS hFc zx_e⟩⟩ rfl rfl hl.1 rfl (lv_room (Nat.le_of_ble_eq_true rfl)) dX8_manyNow_49 ⟨Nat.le_of_ble_eq_true rfl, Nat.le_of_ble_eq_true rfl⟩) hS (fun q _ h => hFc q h) hFc (fun r73 u t H72 locs ht hvm hw hB hz1 hk1 hS => ?_)
  obtain rfl : r73 = 0 := hw.trans (by decide +kernel)
  have hP := zo_K hP hk1
  refine va_iast hx hb hK hP hD hS 0 14 rfl rfl (by unfold vp_in; decide) dX8_manyNow_52 (fun H74 locs hP hD hS => ?_)
  obtain ⟨f75, ef75⟩ : ∃ z : Nat → Int32, z = upd f52 3 0 := ⟨_, rfl⟩
  have k76 : f75 4 = 0 := by rw [ef75]; exact (pk_un (by decide)).trans (k54)
  have k77 : f75 5 = 0 := by rw [ef75]; exact (pk_un (by decide)).trans (k55)
  have k78 : f75 6 = 0 := by rw [ef75]; exact (pk_un (by decide)).trans (k56)
  have k79 : f75 7 = 0 := by rw [ef75]; exact (pk_un (by decide)).trans (k57)
  have k80 : f75 8 = 0 := by rw [ef75]; exact (pk_un (by decide)).trans (k58)
  have k81 : f75 9 = 0 := by rw [ef75]; exact (pk_un (by decide)).trans (k59)
  have k82 : f75 10 = 0 := by rw [ef75]; exact (pk_un (by decide)).trans (k60)
  have k83 : f75 11 = 0 := by rw [ef75]; exact (pk_un (by decide)).trans (k61)
  have k84 : f75 12 = 0 := by rw [ef75]; exact (pk_un (by decide)).trans (k62)
  have k85 : f75 13 = 0 := by rw [ef75]; exact (pk_un (by decide)).trans (k63)
  have k86 : f75 14 = 0 := by rw [ef75]; exact (pk_un (by decide)).trans (k64)
  have k87 : f75 15 = 0 := by rw [ef75]; exact (pk_un (by decide)).trans (k65)
  have k88 : f75 16 = 0 := by rw [ef75]; exact (pk_un (by decide)).trans (k66)
  have k89 : f75 17 = 0 := by rw [ef75]; exact (pk_un (by decide)).trans (k67)
  have k90 : f75 18 = 0 := by rw [ef75]; exact (pk_un (by decide)).trans (k68)
  have k91 : f75 0 = 0 := by rw [ef75]; exact (pk_un (by decide)).trans (k69)
  have k92 : f75 1 = 2 := by rw [ef75]; exact (pk_un (by decide)).trans (k70)
  have k93 : f75 2 = 10 := by rw [ef75]; exact (pk_un (by decide)).trans (k71)
  have k94 : f75 3 = 0 := by rw [ef75]; exact pk_us
  have hP : va_P (dC, dI) vwCl [(q1, .inl (cA3, 19, .inl f75))] H74 := by rw [ef75]; exact hP
  have hD : va_D A [(q1, .inl (cA3, 19, .inl f75))] := by rw [ef75]; exact hD
  refine lv_dup hx hb dX8_manyNow_53 rfl ?_
  refine lv_iconst (v := 4) hx hb dX8_manyNow_54 (by decide) ?_
  refine lv_aload_n hx hb dX8_manyNow_55 rfl (lv_at hl 0 rfl) ?_
  refine va_get (D := (dC, dI)) (ci := 10) (v := .ref mr) (C := RX8) (T := TX8) (N := 4) hx hb hts zi_X8_manyNow_X8 hown hK (zo_R hR0 hS hAr) 0 rfl rfl 1 (by decide) (hts (.fieldLink RX8 10 "LockRoomsModel" "room" "LLockRoomsModel$Room;") (by decide +kernel)) (fun _ h9 => h9) rfl dX8_manyNow_56 ?_
  refine va_getN (D := (dC, dI)) (ci := 9) (v := .int 0) (C := RX7) (T := TX7) (N := 14) hx hb hts zi_X8_manyNow_X7 hown hK (zo_R hR0 hS hAr) 1 rfl rfl 5 (by decide) (va_Nw.use rfl (hN.1 ("LockRoomsModel", 45, "LockRoomsModel$Room", "isRunning", "Z", "LockRoomsModel") (List.mem_of_getElem? (i := 6) rfl))) (fun _ h9 => h9) rfl dX8_manyNow_59 ?_
  refine lv_if_eq (tgt := 69) hx hb dX8_manyNow_62 (by decide) (fun _ => ?_) (fun h => absurd h (by decide))
  refine lv_iconst (v := 0) hx hb dX8_manyNow_69 (by decide) ?_
  refine va_iast hx hb hK hP hD hS 0 14 rfl rfl (by unfold vp_in; decide) dX8_manyNow_70 (fun H95 locs hP hD hS => ?_)
  obtain ⟨f96, ef96⟩ : ∃ z : Nat → Int32, z = upd f75 4 0 := ⟨_, rfl⟩
  have k97 : f96 5 = 0 := by rw [ef96]; exact (pk_un (by decide)).trans (k77)
  have k98 : f96 6 = 0 := by rw [ef96]; exact (pk_un (by decide)).trans (k78)
  have k99 : f96 7 = 0 := by rw [ef96]; exact (pk_un (by decide)).trans (k79)
  have k100 : f96 8 = 0 := by rw [ef96]; exact (pk_un (by decide)).trans (k80)
  have k101 : f96 9 = 0 := by rw [ef96]; exact (pk_un (by decide)).trans (k81)
  have k102 : f96 10 = 0 := by rw [ef96]; exact (pk_un (by decide)).trans (k82)
  have k103 : f96 11 = 0 := by rw [ef96]; exact (pk_un (by decide)).trans (k83)
  have k104 : f96 12 = 0 := by rw [ef96]; exact (pk_un (by decide)).trans (k84)
  have k105 : f96 13 = 0 := by rw [ef96]; exact (pk_un (by decide)).trans (k85)
  have k106 : f96 14 = 0 := by rw [ef96]; exact (pk_un (by decide)).trans (k86)
  have k107 : f96 15 = 0 := by rw [ef96]; exact (pk_un (by decide)).trans (k87)
  have k108 : f96 16 = 0 := by rw [ef96]; exact (pk_un (by decide)).trans (k88)
  have k109 : f96 17 = 0 := by rw [ef96]; exact (pk_un (by decide)).trans (k89)
  have k110 : f96 18 = 0 := by rw [ef96]; exact (pk_un (by decide)).trans (k90)
  have k111 : f96 0 = 0 := by rw [ef96]; exact (pk_un (by decide)).trans (k91)
  have k112 : f96 1 = 2 := by rw [ef96]; exact (pk_un (by decide)).trans (k92)
  have k113 : f96 2 = 10 := by rw [ef96]; exact (pk_un (by decide)).trans (k93)
  have k114 : f96 3 = 0 := by rw [ef96]; exact (pk_un (by decide)).trans (k94)
  have k115 : f96 4 = 0 := by rw [ef96]; exact pk_us
  have hP : va_P (dC, dI) vwCl [(q1, .inl (cA3, 19, .inl f96))] H95 := by rw [ef96]; exact hP
  have hD : va_D A [(q1, .inl (cA3, 19, .inl f96))] := by rw [ef96]; exact hD
  refine lv_dup hx hb dX8_manyNow_71 rfl ?_
  refine lv_iconst (v := 5) hx hb dX8_manyNow_72 (by decide) ?_
  refine lv_aload_n hx hb dX8_manyNow_73 rfl (lv_at hl 0 rfl) ?_
  refine va_get (D := (dC, dI)) (ci := 10) (v := .ref mr) (C := RX8) (T := TX8) (N := 4) hx hb hts zi_X8_manyNow_X8 hown hK (zo_R hR0 hS hAr) 0 rfl rfl 1 (by decide) (hts (.fieldLink RX8 10 "LockRoomsModel" "room" "LLockRoomsModel$Room;") (by decide +kernel)) (fun _ h9 => h9) rfl dX8_manyNow_74 ?_
  refine va_getN (D := (dC, dI)) (ci := 9) (v := .int 0) (C := RX7) (T := TX7) (N := 14) hx hb hts zi_X8_manyNow_X7 hown hK (zo_R hR0 hS hAr) 1 rfl rfl 6 (by decide) (va_Nw.use rfl (hN.1 ("LockRoomsModel", 69, "LockRoomsModel$Room", "time", "I", "LockRoomsModel") (List.mem_of_getElem? (i := 7) rfl))) (fun _ h9 => h9) rfl dX8_manyNow_77 ?_
  refine va_iast hx hb hK hP hD hS 0 14 rfl rfl (by unfold vp_in; decide) dX8_manyNow_80 (fun H116 locs hP hD hS => ?_)
  obtain ⟨f117, ef117⟩ : ∃ z : Nat → Int32, z = upd f96 5 0 := ⟨_, rfl⟩
  have k118 : f117 6 = 0 := by rw [ef117]; exact (pk_un (by decide)).trans (k98)
  have k119 : f117 7 = 0 := by rw [ef117]; exact (pk_un (by decide)).trans (k99)
  have k120 : f117 8 = 0 := by rw [ef117]; exact (pk_un (by decide)).trans (k100)
  have k121 : f117 9 = 0 := by rw [ef117]; exact (pk_un (by decide)).trans (k101)
  have k122 : f117 10 = 0 := by rw [ef117]; exact (pk_un (by decide)).trans (k102)
  have k123 : f117 11 = 0 := by rw [ef117]; exact (pk_un (by decide)).trans (k103)
  have k124 : f117 12 = 0 := by rw [ef117]; exact (pk_un (by decide)).trans (k104)
  have k125 : f117 13 = 0 := by rw [ef117]; exact (pk_un (by decide)).trans (k105)
  have k126 : f117 14 = 0 := by rw [ef117]; exact (pk_un (by decide)).trans (k106)
  have k127 : f117 15 = 0 := by rw [ef117]; exact (pk_un (by decide)).trans (k107)
  have k128 : f117 16 = 0 := by rw [ef117]; exact (pk_un (by decide)).trans (k108)
  have k129 : f117 17 = 0 := by rw [ef117]; exact (pk_un (by decide)).trans (k109)
  have k130 : f117 18 = 0 := by rw [ef117]; exact (pk_un (by decide)).trans (k110)
  have k131 : f117 0 = 0 := by rw [ef117]; exact (pk_un (by decide)).trans (k111)
  have k132 : f117 1 = 2 := by rw [ef117]; exact (pk_un (by decide)).trans (k112)
  have k133 : f117 2 = 10 := by rw [ef117]; exact (pk_un (by decide)).trans (k113)
  have k134 : f117 3 = 0 := by rw [ef117]; exact (pk_un (by decide)).trans (k114)
  have k135 : f117 4 = 0 := by rw [ef117]; exact (pk_un (by decide)).trans (k115)
  have k136 : f117 5 = 0 := by rw [ef117]; exact pk_us
  have hP : va_P (dC, dI) vwCl [(q1, .inl (cA3, 19, .inl f117))] H116 := by rw [ef117]; exact hP
  have hD : va_D A [(q1, .inl (cA3, 19, .inl f117))] := by rw [ef117]; exact hD
  refine lv_dup hx hb dX8_manyNow_81 rfl ?_
  refine lv_bipush (v := 6) hx hb dX8_manyNow_82 (by decide) ?_
  refine lv_aload_n hx hb dX8_manyNow_84 rfl (lv_at hl 0 rfl) ?_
  refine va_get (D := (dC, dI)) (ci := 10) (v := .ref mr) (C := RX8) (T := TX8) (N := 4) hx hb hts zi_X8_manyNow_X8 hown hK (zo_R hR0 hS hAr) 0 rfl rfl 1 (by decide) (hts (.fieldLink RX8 10 "LockRoomsModel" "room" "LLockRoomsModel$Room;") (by decide +kernel)) (fun _ h9 => h9) rfl dX8_manyNow_85 ?_
  refine va_getN (D := (dC, dI)) (ci := 9) (v := .int 0) (C := RX7) (T := TX7) (N := 14) hx hb hts zi_X8_manyNow_X7 hown hK (zo_R hR0 hS hAr) 1 rfl rfl 8 (by decide) (va_Nw.use rfl (hN.1 ("LockRoomsModel", 122, "LockRoomsModel$Room", "solved", "I", "LockRoomsModel") (List.mem_of_getElem? (i := 9) rfl))) (fun _ h9 => h9) rfl dX8_manyNow_88 ?_
  refine va_iast hx hb hK hP hD hS 0 14 rfl rfl (by unfold vp_in; decide) dX8_manyNow_91 (fun H137 locs hP hD hS => ?_)
  obtain ⟨f138, ef138⟩ : ∃ z : Nat → Int32, z = upd f117 6 0 := ⟨_, rfl⟩
  have k139 : f138 7 = 0 := by rw [ef138]; exact (pk_un (by decide)).trans (k119)
  have k140 : f138 8 = 0 := by rw [ef138]; exact (pk_un (by decide)).trans (k120)
  have k141 : f138 9 = 0 := by rw [ef138]; exact (pk_un (by decide)).trans (k121)
  have k142 : f138 10 = 0 := by rw [ef138]; exact (pk_un (by decide)).trans (k122)
  have k143 : f138 11 = 0 := by rw [ef138]; exact (pk_un (by decide)).trans (k123)
  have k144 : f138 12 = 0 := by rw [ef138]; exact (pk_un (by decide)).trans (k124)
  have k145 : f138 13 = 0 := by rw [ef138]; exact (pk_un (by decide)).trans (k125)
  have k146 : f138 14 = 0 := by rw [ef138]; exact (pk_un (by decide)).trans (k126)
  have k147 : f138 15 = 0 := by rw [ef138]; exact (pk_un (by decide)).trans (k127)
  have k148 : f138 16 = 0 := by rw [ef138]; exact (pk_un (by decide)).trans (k128)
  have k149 : f138 17 = 0 := by rw [ef138]; exact (pk_un (by decide)).trans (k129)
  have k150 : f138 18 = 0 := by rw [ef138]; exact (pk_un (by decide)).trans (k130)
  have k151 : f138 0 = 0 := by rw [ef138]; exact (pk_un (by decide)).trans (k131)
  have k152 : f138 1 = 2 := by rw [ef138]; exact (pk_un (by decide)).trans (k132)
  have k153 : f138 2 = 10 := by rw [ef138]; exact (pk_un (by decide)).trans (k133)
  have k154 : f138 3 = 0 := by rw [ef138]; exact (pk_un (by decide)).trans (k134)
  have k155 : f138 4 = 0 := by rw [ef138]; exact (pk_un (by decide)).trans (k135)
  have k156 : f138 5 = 0 := by rw [ef138]; exact (pk_un (by decide)).trans (k136)
  have k157 : f138 6 = 0 := by rw [ef138]; exact pk_us
  have hP : va_P (dC, dI) vwCl [(q1, .inl (cA3, 19, .inl f138))] H137 := by rw [ef138]; exact hP
  have hD : va_D A [(q1, .inl (cA3, 19, .inl f138))] := by rw [ef138]; exact hD
  refine lv_dup hx hb dX8_manyNow_92 rfl ?_
  refine lv_bipush (v := 7) hx hb dX8_manyNow_93 (by decide) ?_
  refine lv_aload_n hx hb dX8_manyNow_95 rfl (lv_at hl 0 rfl) ?_
  refine va_get (D := (dC, dI)) (ci := 10) (v := .ref mr) (C := RX8) (T := TX8) (N := 4) hx hb hts zi_X8_manyNow_X8 hown hK (zo_R hR0 hS hAr) 0 rfl rfl 1 (by decide) (hts (.fieldLink RX8 10 "LockRoomsModel" "room" "LLockRoomsModel$Room;") (by decide +kernel)) (fun _ h9 => h9) rfl dX8_manyNow_96 ?_
  refine va_getN (D := (dC, dI)) (ci := 9) (v := .int 0) (C := RX7) (T := TX7) (N := 14) hx hb hts zi_X8_manyNow_X7 hown hK (zo_R hR0 hS hAr) 1 rfl rfl 9 (by decide) (va_Nw.use rfl (hN.1 ("LockRoomsModel", 125, "LockRoomsModel$Room", "lost", "I", "LockRoomsModel") (List.mem_of_getElem? (i := 10) rfl))) (fun _ h9 => h9) rfl dX8_manyNow_99 ?_
  refine va_iast hx hb hK hP hD hS 0 14 rfl rfl (by unfold vp_in; decide) dX8_manyNow_102 (fun H158 locs hP hD hS => ?_)
  obtain ⟨f159, ef159⟩ : ∃ z : Nat → Int32, z = upd f138 7 0 := ⟨_, rfl⟩
  have k160 : f159 8 = 0 := by rw [ef159]; exact (pk_un (by decide)).trans (k140)
  have k161 : f159 9 = 0 := by rw [ef159]; exact (pk_un (by decide)).trans (k141)
  have k162 : f159 10 = 0 := by rw [ef159]; exact (pk_un (by decide)).trans (k142)
  have k163 : f159 11 = 0 := by rw [ef159]; exact (pk_un (by decide)).trans (k143)
  have k164 : f159 12 = 0 := by rw [ef159]; exact (pk_un (by decide)).trans (k144)
  have k165 : f159 13 = 0 := by rw [ef159]; exact (pk_un (by decide)).trans (k145)
  have k166 : f159 14 = 0 := by rw [ef159]; exact (pk_un (by decide)).trans (k146)
  have k167 : f159 15 = 0 := by rw [ef159]; exact (pk_un (by decide)).trans (k147)
  have k168 : f159 16 = 0 := by rw [ef159]; exact (pk_un (by decide)).trans (k148)
  have k169 : f159 17 = 0 := by rw [ef159]; exact (pk_un (by decide)).trans (k149)
  have k170 : f159 18 = 0 := by rw [ef159]; exact (pk_un (by decide)).trans (k150)
  have k171 : f159 0 = 0 := by rw [ef159]; exact (pk_un (by decide)).trans (k151)
  have k172 : f159 1 = 2 := by rw [ef159]; exact (pk_un (by decide)).trans (k152)
  have k173 : f159 2 = 10 := by rw [ef159]; exact (pk_un (by decide)).trans (k153)
  have k174 : f159 3 = 0 := by rw [ef159]; exact (pk_un (by decide)).trans (k154)
  have k175 : f159 4 = 0 := by rw [ef159]; exact (pk_un (by decide)).trans (k155)
  have k176 : f159 5 = 0 := by rw [ef159]; exact (pk_un (by decide)).trans (k156)
  have k177 : f159 6 = 0 := by rw [ef159]; exact (pk_un (by decide)).trans (k157)
  have k178 : f159 7 = 0 := by rw [ef159]; exact pk_us
  have hP : va_P (dC, dI) vwCl [(q1, .inl (cA3, 19, .inl f159))] H158 := by rw [ef159]; exact hP
  have hD : va_D A [(q1, .inl (cA3, 19, .inl f159))] := by rw [ef159]; exact hD
  refine lv_dup hx hb dX8_manyNow_103 rfl ?_
  refine lv_bipush (v := 8) hx hb dX8_manyNow_104 (by decide) ?_
  refine lv_aload_n hx hb dX8_manyNow_106 rfl (lv_at hl 0 rfl) ?_
  refine va_get (D := (dC, dI)) (ci := 10) (v := .ref mr) (C := RX8) (T := TX8) (N := 4) hx hb hts zi_X8_manyNow_X8 hown hK (zo_R hR0 hS hAr) 0 rfl rfl 1 (by decide) (hts (.fieldLink RX8 10 "LockRoomsModel" "room" "LLockRoomsModel$Room;") (by decide +kernel)) (fun _ h9 => h9) rfl dX8_manyNow_107 ?_
  refine va_getN (D := (dC, dI)) (ci := 9) (v := .int (-1)) (C := RX7) (T := TX7) (N := 14) hx hb hts zi_X8_manyNow_X7 hown hK (zo_R hR0 hS hAr) 1 rfl rfl 10 (by decide) (va_Nw.use rfl (hN.1 ("LockRoomsModel", 128, "LockRoomsModel$Room", "record", "I", "LockRoomsModel") (List.mem_of_getElem? (i := 11) rfl))) (fun _ h9 => h9) rfl dX8_manyNow_110 ?_
  refine va_iast hx hb hK hP hD hS 0 14 rfl rfl (by unfold vp_in; decide) dX8_manyNow_113 (fun H179 locs hP hD hS => ?_)
  obtain ⟨f180, ef180⟩ : ∃ z : Nat → Int32, z = upd f159 8 (-1) := ⟨_, rfl⟩
  have k181 : f180 9 = 0 := by rw [ef180]; exact (pk_un (by decide)).trans (k161)
  have k182 : f180 10 = 0 := by rw [ef180]; exact (pk_un (by decide)).trans (k162)
  have k183 : f180 11 = 0 := by rw [ef180]; exact (pk_un (by decide)).trans (k163)
  have k184 : f180 12 = 0 := by rw [ef180]; exact (pk_un (by decide)).trans (k164)
  have k185 : f180 13 = 0 := by rw [ef180]; exact (pk_un (by decide)).trans (k165)
  have k186 : f180 14 = 0 := by rw [ef180]; exact (pk_un (by decide)).trans (k166)
  have k187 : f180 15 = 0 := by rw [ef180]; exact (pk_un (by decide)).trans (k167)
  have k188 : f180 16 = 0 := by rw [ef180]; exact (pk_un (by decide)).trans (k168)
  have k189 : f180 17 = 0 := by rw [ef180]; exact (pk_un (by decide)).trans (k169)
  have k190 : f180 18 = 0 := by rw [ef180]; exact (pk_un (by decide)).trans (k170)
  have k191 : f180 0 = 0 := by rw [ef180]; exact (pk_un (by decide)).trans (k171)
  have k192 : f180 1 = 2 := by rw [ef180]; exact (pk_un (by decide)).trans (k172)
  have k193 : f180 2 = 10 := by rw [ef180]; exact (pk_un (by decide)).trans (k173)
  have k194 : f180 3 = 0 := by rw [ef180]; exact (pk_un (by decide)).trans (k174)
  have k195 : f180 4 = 0 := by rw [ef180]; exact (pk_un (by decide)).trans (k175)
  have k196 : f180 5 = 0 := by rw [ef180]; exact (pk_un (by decide)).trans (k176)
  have k197 : f180 6 = 0 := by rw [ef180]; exact (pk_un (by decide)).trans (k177)
  have k198 : f180 7 = 0 := by rw [ef180]; exact (pk_un (by decide)).trans (k178)
  have k199 : f180 8 = (-1) := by rw [ef180]; exact pk_us
  have hP : va_P (dC, dI) vwCl [(q1, .inl (cA3, 19, .inl f180))] H179 := by rw [ef180]; exact hP
  have hD : va_D A [(q1, .inl (cA3, 19, .inl f180))] := by rw [ef180]; exact hD
  refine lv_dup hx hb dX8_manyNow_114 rfl ?_
  refine lv_bipush (v := 9) hx hb dX8_manyNow_115 (by decide) ?_
  refine lv_aload_n hx hb dX8_manyNow_117 rfl (lv_at hl 0 rfl) ?_
  refine va_get (D := (dC, dI)) (ci := 10) (v := .ref mr) (C := RX8) (T := TX8) (N := 4) hx hb hts zi_X8_manyNow_X8 hown hK (zo_R hR0 hS hAr) 0 rfl rfl 1 (by decide) (hts (.fieldLink RX8 10 "LockRoomsModel" "room" "LLockRoomsModel$Room;") (by decide +kernel)) (fun _ h9 => h9) rfl dX8_manyNow_118 ?_
  refine va_getN (D := (dC, dI)) (ci := 9) (v := .int 0) (C := RX7) (T := TX7) (N := 14) hx hb hts zi_X8_manyNow_X7 hown hK (zo_R hR0 hS hAr) 1 rfl rfl 11 (by decide) (va_Nw.use rfl (hN.1 ("LockRoomsModel", 75, "LockRoomsModel$Room", "coins", "I", "LockRoomsModel") (List.mem_of_getElem? (i := 12) rfl))) (fun _ h9 => h9) rfl dX8_manyNow_121 ?_
  refine va_iast hx hb hK hP hD hS 0 14 rfl rfl (by unfold vp_in; decide) dX8_manyNow_124 (fun H200 locs hP hD hS => ?_)
  obtain ⟨f201, ef201⟩ : ∃ z : Nat → Int32, z = upd f180 9 0 := ⟨_, rfl⟩
  have k202 : f201 10 = 0 := by rw [ef201]; exact (pk_un (by decide)).trans (k182)
  have k203 : f201 11 = 0 := by rw [ef201]; exact (pk_un (by decide)).trans (k183)
  have k204 : f201 12 = 0 := by rw [ef201]; exact (pk_un (by decide)).trans (k184)
  have k205 : f201 13 = 0 := by rw [ef201]; exact (pk_un (by decide)).trans (k185)
  have k206 : f201 14 = 0 := by rw [ef201]; exact (pk_un (by decide)).trans (k186)
  have k207 : f201 15 = 0 := by rw [ef201]; exact (pk_un (by decide)).trans (k187)
  have k208 : f201 16 = 0 := by rw [ef201]; exact (pk_un (by decide)).trans (k188)
  have k209 : f201 17 = 0 := by rw [ef201]; exact (pk_un (by decide)).trans (k189)
  have k210 : f201 18 = 0 := by rw [ef201]; exact (pk_un (by decide)).trans (k190)
  have k211 : f201 0 = 0 := by rw [ef201]; exact (pk_un (by decide)).trans (k191)
  have k212 : f201 1 = 2 := by rw [ef201]; exact (pk_un (by decide)).trans (k192)
  have k213 : f201 2 = 10 := by rw [ef201]; exact (pk_un (by decide)).trans (k193)
  have k214 : f201 3 = 0 := by rw [ef201]; exact (pk_un (by decide)).trans (k194)
  have k215 : f201 4 = 0 := by rw [ef201]; exact (pk_un (by decide)).trans (k195)
  have k216 : f201 5 = 0 := by rw [ef201]; exact (pk_un (by decide)).trans (k196)
  have k217 : f201 6 = 0 := by rw [ef201]; exact (pk_un (by decide)).trans (k197)
  have k218 : f201 7 = 0 := by rw [ef201]; exact (pk_un (by decide)).trans (k198)
  have k219 : f201 8 = (-1) := by rw [ef201]; exact (pk_un (by decide)).trans (k199)
  have k220 : f201 9 = 0 := by rw [ef201]; exact pk_us
  have hP : va_P (dC, dI) vwCl [(q1, .inl (cA3, 19, .inl f201))] H200 := by rw [ef201]; exact hP
  have hD : va_D A [(q1, .inl (cA3, 19, .inl f201))] := by rw [ef201]; exact hD
  refine lv_dup hx hb dX8_manyNow_125 rfl ?_
  refine lv_bipush (v := 10) hx hb dX8_manyNow_126 (by decide) ?_
  refine lv_aload_n hx hb dX8_manyNow_128 rfl (lv_at hl 0 rfl) ?_
  refine va_get (D := (dC, dI)) (ci := 10) (v := .ref mr) (C := RX8) (T := TX8) (N := 4) hx hb hts zi_X8_manyNow_X8 hown hK (zo_R hR0 hS hAr) 0 rfl rfl 1 (by decide) (hts (.fieldLink RX8 10 "LockRoomsModel" "room" "LLockRoomsModel$Room;") (by decide +kernel)) (fun _ h9 => h9) rfl dX8_manyNow_129 ?_
  refine va_getN (D := (dC, dI)) (ci := 9) (v := .int 0) (C := RX7) (T := TX7) (N := 14) hx hb hts zi_X8_manyNow_X7 hown hK (zo_R hR0 hS hAr) 1 rfl rfl 7 (by decide) (va_Nw.use rfl (hN.1 ("LockRoomsModel", 72, "LockRoomsModel$Room", "hints", "I", "LockRoomsModel") (List.mem_of_getElem? (i := 8) rfl))) (fun _ h9 => h9) rfl dX8_manyNow_132 ?_
  refine va_iast hx hb hK hP hD hS 0 14 rfl rfl (by unfold vp_in; decide) dX8_manyNow_135 (fun H221 locs hP hD hS => ?_)
  obtain ⟨f222, ef222⟩ : ∃ z : Nat → Int32, z = upd f201 10 0 := ⟨_, rfl⟩
  have k223 : f222 11 = 0 := by rw [ef222]; exact (pk_un (by decide)).trans (k203)
  have k224 : f222 12 = 0 := by rw [ef222]; exact (pk_un (by decide)).trans (k204)
  have k225 : f222 13 = 0 := by rw [ef222]; exact (pk_un (by decide)).trans (k205)
  have k226 : f222 14 = 0 := by rw [ef222]; exact (pk_un (by decide)).trans (k206)
  have k227 : f222 15 = 0 := by rw [ef222]; exact (pk_un (by decide)).trans (k207)
  have k228 : f222 16 = 0 := by rw [ef222]; exact (pk_un (by decide)).trans (k208)
  have k229 : f222 17 = 0 := by rw [ef222]; exact (pk_un (by decide)).trans (k209)
  have k230 : f222 18 = 0 := by rw [ef222]; exact (pk_un (by decide)).trans (k210)
  have k231 : f222 0 = 0 := by rw [ef222]; exact (pk_un (by decide)).trans (k211)
  have k232 : f222 1 = 2 := by rw [ef222]; exact (pk_un (by decide)).trans (k212)
  have k233 : f222 2 = 10 := by rw [ef222]; exact (pk_un (by decide)).trans (k213)
  have k234 : f222 3 = 0 := by rw [ef222]; exact (pk_un (by decide)).trans (k214)
  have k235 : f222 4 = 0 := by rw [ef222]; exact (pk_un (by decide)).trans (k215)
  have k236 : f222 5 = 0 := by rw [ef222]; exact (pk_un (by decide)).trans (k216)
  have k237 : f222 6 = 0 := by rw [ef222]; exact (pk_un (by decide)).trans (k217)
  have k238 : f222 7 = 0 := by rw [ef222]; exact (pk_un (by decide)).trans (k218)
  have k239 : f222 8 = (-1) := by rw [ef222]; exact (pk_un (by decide)).trans (k219)
  have k240 : f222 9 = 0 := by rw [ef222]; exact (pk_un (by decide)).trans (k220)
  have k241 : f222 10 = 0 := by rw [ef222]; exact pk_us
  have hP : va_P (dC, dI) vwCl [(q1, .inl (cA3, 19, .inl f222))] H221 := by rw [ef222]; exact hP
  have hD : va_D A [(q1, .inl (cA3, 19, .inl f222))] := by rw [ef222]; exact hD
  refine lv_dup hx hb dX8_manyNow_136 rfl ?_
  refine lv_bipush (v := 11) hx hb dX8_manyNow_137 (by decide) ?_
  refine lv_aload_n hx hb dX8_manyNow_139 rfl (lv_at hl 0 rfl) ?_
  refine va_get (D := (dC, dI)) (ci := 10) (v := .ref mr) (C := RX8) (T := TX8) (N := 4) hx hb hts zi_X8_manyNow_X8 hown hK (zo_R hR0 hS hAr) 0 rfl rfl 1 (by decide) (hts (.fieldLink RX8 10 "LockRoomsModel" "room" "LLockRoomsModel$Room;") (by decide +kernel)) (fun _ h9 => h9) rfl dX8_manyNow_140 ?_
  refine va_getN (D := (dC, dI)) (ci := 9) (v := .int 0) (C := RX7) (T := TX7) (N := 14) hx hb hts zi_X8_manyNow_X7 hown hK (zo_R hR0 hS hAr) 1 rfl rfl 3 (by decide) (va_Nw.use rfl (hN.1 ("LockRoomsModel", 52, "LockRoomsModel$Room", "exit", "I", "LockRoomsModel") (List.mem_of_getElem? (i := 4) rfl))) (fun _ h9 => h9) rfl dX8_manyNow_143 ?_
  refine va_iast hx hb hK hP hD hS 0 14 rfl rfl (by unfold vp_in; decide) dX8_manyNow_146 (fun H242 locs hP hD hS => ?_)
  obtain ⟨f243, ef243⟩ : ∃ z : Nat → Int32, z = upd f222 11 0 := ⟨_, rfl⟩
  have k244 : f243 12 = 0 := by rw [ef243]; exact (pk_un (by decide)).trans (k224)
  have k245 : f243 13 = 0 := by rw [ef243]; exact (pk_un (by decide)).trans (k225)
  have k246 : f243 14 = 0 := by rw [ef243]; exact (pk_un (by decide)).trans (k226)
  have k247 : f243 15 = 0 := by rw [ef243]; exact (pk_un (by decide)).trans (k227)
  have k248 : f243 16 = 0 := by rw [ef243]; exact (pk_un (by decide)).trans (k228)
  have k249 : f243 17 = 0 := by rw [ef243]; exact (pk_un (by decide)).trans (k229)
  have k250 : f243 18 = 0 := by rw [ef243]; exact (pk_un (by decide)).trans (k230)
  have k251 : f243 0 = 0 := by rw [ef243]; exact (pk_un (by decide)).trans (k231)
  have k252 : f243 1 = 2 := by rw [ef243]; exact (pk_un (by decide)).trans (k232)
  have k253 : f243 2 = 10 := by rw [ef243]; exact (pk_un (by decide)).trans (k233)
  have k254 : f243 3 = 0 := by rw [ef243]; exact (pk_un (by decide)).trans (k234)
  have k255 : f243 4 = 0 := by rw [ef243]; exact (pk_un (by decide)).trans (k235)
  have k256 : f243 5 = 0 := by rw [ef243]; exact (pk_un (by decide)).trans (k236)
  have k257 : f243 6 = 0 := by rw [ef243]; exact (pk_un (by decide)).trans (k237)
  have k258 : f243 7 = 0 := by rw [ef243]; exact (pk_un (by decide)).trans (k238)
  have k259 : f243 8 = (-1) := by rw [ef243]; exact (pk_un (by decide)).trans (k239)
  have k260 : f243 9 = 0 := by rw [ef243]; exact (pk_un (by decide)).trans (k240)
  have k261 : f243 10 = 0 := by rw [ef243]; exact (pk_un (by decide)).trans (k241)
  have k262 : f243 11 = 0 := by rw [ef243]; exact pk_us
  have hP : va_P (dC, dI) vwCl [(q1, .inl (cA3, 19, .inl f243))] H242 := by rw [ef243]; exact hP
  have hD : va_D A [(q1, .inl (cA3, 19, .inl f243))] := by rw [ef243]; exact hD
  refine lv_dup hx hb dX8_manyNow_147 rfl ?_
  refine lv_bipush (v := 12) hx hb dX8_manyNow_148 (by decide) ?_
  refine lv_aload_n hx hb dX8_manyNow_150 rfl (lv_at hl 0 rfl) ?_
  refine va_get (D := (dC, dI)) (ci := 10) (v := .ref mr) (C := RX8) (T := TX8) (N := 4) hx hb hts zi_X8_manyNow_X8 hown hK (zo_R hR0 hS hAr) 0 rfl rfl 1 (by decide) (hts (.fieldLink RX8 10 "LockRoomsModel" "room" "LLockRoomsModel$Room;") (by decide +kernel)) (fun _ h9 => h9) rfl dX8_manyNow_151 ?_
  have hPr := ((zo_R hR0 hS hAr)).sub (ws' := [(mr, .inr (9, [.ref ll, .ref lt, .ref lp, .int 0, .int 0, .int 0, .int 0, .int 0, .int 0, .int 0, .int (-1), .int 0, .int 0, .int 0])), (ll, .inr (1, [.int 2, .ref ola, .int 2])), (ola, .inl (cOl, 10, .inr (.inr (.inr (.inr fol))))), (la0, .inl (cA0, 10, .inl fa0)), (la1, .inl (cA1, 10, .inl fa1))]) [1, 3, 4, 5, 6] rfl
  have hPc := hP.sub (ws' := []) [] rfl
  have hDc := hD.sub (ws' := []) [] (by decide) rfl
  have hKc := hK.sub (tys' := [(cOl, .object "java/lang/Object"), (cA0, .int), (cA1, .int)]) [0, 1, 2] rfl
  have hFc := va_free (wc := []) hD hS hA [] rfl
  refine va_calli (va_runV (As := []) (rest := [.int 12, .ref q1, .ref q1]) ⟨hx, hb, hml, hown, hts⟩ (cz_Qopened l dC dI ed H242.size mr ll lt lp ola cOl fol la0 la1 cA0 fa0 cA1 fa1 hol0 hol1 ha0_4 ha1_4) (cwV 0 hts gX8_manyNow_X7_opened rfl rfl rfl (by decide +kernel) ⟨Nat.le_of_ble_eq_true rfl, Nat.le_of_ble_eq_true rfl⟩) ⟨zb_blind, va_recv hK (zo_R hR0 hS hAr) (ci := 9) (q0 := 1) rfl rfl, fun U hU hW => ⟨rfl, zb_mk hU hW hPr hPc hKc hDc hN hH hS hFc zx_e⟩⟩ rfl rfl hl.1 rfl (lv_room (Nat.le_of_ble_eq_true rfl)) dX8_manyNow_154 ⟨Nat.le_of_ble_eq_true rfl, Nat.le_of_ble_eq_true rfl⟩) hS (fun q _ h => hFc q h) hFc (fun r264 u t H263 locs ht hvm hw hB hz1 hk1 hS => ?_)
  obtain rfl : r264 = 0 := hw
  have hP := zo_K hP hk1
  refine va_iast hx hb hK hP hD hS 0 14 rfl rfl (by unfold vp_in; decide) dX8_manyNow_157 (fun H265 locs hP hD hS => ?_)
  obtain ⟨f266, ef266⟩ : ∃ z : Nat → Int32, z = upd f243 12 0 := ⟨_, rfl⟩
  have k267 : f266 13 = 0 := by rw [ef266]; exact (pk_un (by decide)).trans (k245)
  have k268 : f266 14 = 0 := by rw [ef266]; exact (pk_un (by decide)).trans (k246)
  have k269 : f266 15 = 0 := by rw [ef266]; exact (pk_un (by decide)).trans (k247)
  have k270 : f266 16 = 0 := by rw [ef266]; exact (pk_un (by decide)).trans (k248)
  have k271 : f266 17 = 0 := by rw [ef266]; exact (pk_un (by decide)).trans (k249)
  have k272 : f266 18 = 0 := by rw [ef266]; exact (pk_un (by decide)).trans (k250)
  have k273 : f266 0 = 0 := by rw [ef266]; exact (pk_un (by decide)).trans (k251)
  have k274 : f266 1 = 2 := by rw [ef266]; exact (pk_un (by decide)).trans (k252)
  have k275 : f266 2 = 10 := by rw [ef266]; exact (pk_un (by decide)).trans (k253)
  have k276 : f266 3 = 0 := by rw [ef266]; exact (pk_un (by decide)).trans (k254)
  have k277 : f266 4 = 0 := by rw [ef266]; exact (pk_un (by decide)).trans (k255)
  have k278 : f266 5 = 0 := by rw [ef266]; exact (pk_un (by decide)).trans (k256)
  have k279 : f266 6 = 0 := by rw [ef266]; exact (pk_un (by decide)).trans (k257)
  have k280 : f266 7 = 0 := by rw [ef266]; exact (pk_un (by decide)).trans (k258)
  have k281 : f266 8 = (-1) := by rw [ef266]; exact (pk_un (by decide)).trans (k259)
  have k282 : f266 9 = 0 := by rw [ef266]; exact (pk_un (by decide)).trans (k260)
  have k283 : f266 10 = 0 := by rw [ef266]; exact (pk_un (by decide)).trans (k261)
  have k284 : f266 11 = 0 := by rw [ef266]; exact (pk_un (by decide)).trans (k262)
  have k285 : f266 12 = 0 := by rw [ef266]; exact pk_us
  have hP : va_P (dC, dI) vwCl [(q1, .inl (cA3, 19, .inl f266))] H265 := by rw [ef266]; exact hP
  have hD : va_D A [(q1, .inl (cA3, 19, .inl f266))] := by rw [ef266]; exact hD
  refine lv_dup hx hb dX8_manyNow_158 rfl ?_
  refine lv_bipush (v := 13) hx hb dX8_manyNow_159 (by decide) ?_
  refine lv_aload_n hx hb dX8_manyNow_161 rfl (lv_at hl 0 rfl) ?_
  refine va_get (D := (dC, dI)) (ci := 10) (v := .ref mr) (C := RX8) (T := TX8) (N := 4) hx hb hts zi_X8_manyNow_X8 hown hK (zo_R hR0 hS hAr) 0 rfl rfl 1 (by decide) (hts (.fieldLink RX8 10 "LockRoomsModel" "room" "LLockRoomsModel$Room;") (by decide +kernel)) (fun _ h9 => h9) rfl dX8_manyNow_162 ?_
  have hPr := ((zo_R hR0 hS hAr)).sub (ws' := [(mr, .inr (9, [.ref ll, .ref lt, .ref lp, .int 0, .int 0, .int 0, .int 0, .int 0, .int 0, .int 0, .int (-1), .int 0, .int 0, .int 0])), (ll, .inr (1, [.int 2, .ref ola, .int 2])), (ola, .inl (cOl, 10, .inr (.inr (.inr (.inr fol))))), (la0, .inl (cA0, 10, .inl fa0)), (la1, .inl (cA1, 10, .inl fa1)), (lt, .inr (1, [.int 10, .ref ota, .int 10])), (ota, .inl (cOt, 10, .inr (.inr (.inr (.inr fot))))), (ta0, .inl (cB0, 5, .inl fb0)), (ta1, .inl (cB1, 5, .inl fb1)), (ta2, .inl (cB2, 5, .inl fb2)), (ta3, .inl (cB3, 5, .inl fb3)), (ta4, .inl (cB4, 5, .inl fb4)), (ta5, .inl (cB5, 5, .inl fb5)), (ta6, .inl (cB6, 5, .inl fb6)), (ta7, .inl (cB7, 5, .inl fb7)), (ta8, .inl (cB8, 5, .inl fb8)), (ta9, .inl (cB9, 5, .inl fb9))]) [1, 3, 4, 5, 6, 7, 8, 9, 10, 11, 12, 13, 14, 15, 16, 17, 18] rfl
  have hPc := hP.sub (ws' := []) [] rfl
  have hDc := hD.sub (ws' := []) [] (by decide) rfl
  have hKc := hK.sub (tys' := [(cOl, .object "java/lang/Object"), (cA0, .int), (cA1, .int), (cOt, .object "java/lang/Object"), (cB0, .int), (cB1, .int), (cB2, .int), (cB3, .int), (cB4, .int), (cB5, .int), (cB6, .int), (cB7, .int), (cB8, .int), (cB9, .int)]) [0, 1, 2, 3, 4, 5, 6, 7, 8, 9, 10, 11, 12, 13] rfl
  have hFc := va_free (wc := []) hD hS hA [] rfl
  refine va_calli (va_runV (As := []) (rest := [.int 13, .ref q1, .ref q1]) ⟨hx, hb, hml, hown, hts⟩ (cz_Qready l dC dI ed H265.size mr ll lt lp ola cOl fol la0 la1 cA0 fa0 cA1 fa1 ota cOt fot ta0 ta1 ta2 ta3 ta4 ta5 ta6 ta7 ta8 ta9 cB0 fb0 cB1 fb1 cB2 fb2 cB3 fb3 cB4 fb4 cB5 fb5 cB6 fb6 cB7 fb7 cB8 fb8 cB9 fb9 hol0 hol1 ha0_0 ha0_4 ha0_8 ha1_0 ha1_4 ha1_8 hot0 hot1 hot2 hot3 hot4 hot5 hot6 hot7 hot8 hot9 hb0_3 hb1_3 hb2_3 hb3_3 hb4_3 hb5_3 hb6_3 hb7_3 hb8_3 hb9_3) (cwV 0 hts gX8_manyNow_X7_ready rfl rfl rfl (by decide +kernel) ⟨Nat.le_of_ble_eq_true rfl, Nat.le_of_ble_eq_true rfl⟩) ⟨zb_blind, va_recv hK (zo_R hR0 hS hAr) (ci := 9) (q0 := 1) rfl rfl, fun U hU hW => ⟨rfl, zb_mk hU hW hPr hPc hKc hDc hN hH hS hFc zx_e⟩⟩ rfl rfl hl.1 rfl (lv_room (Nat.le_of_ble_eq_true rfl)) dX8_manyNow_165 ⟨Nat.le_of_ble_eq_true rfl, Nat.le_of_ble_eq_true rfl⟩) hS (fun q _ h => hFc q h) hFc (fun r287 u t H286 locs ht hvm hw hB hz1 hk1 hS => ?_)
  obtain rfl : r287 = 3 := hw
  have hP := zo_K hP hk1
  refine va_iast hx hb hK hP hD hS 0 14 rfl rfl (by unfold vp_in; decide) dX8_manyNow_168 (fun H288 locs hP hD hS => ?_)
  obtain ⟨f289, ef289⟩ : ∃ z : Nat → Int32, z = upd f266 13 3 := ⟨_, rfl⟩
  have k290 : f289 14 = 0 := by rw [ef289]; exact (pk_un (by decide)).trans (k268)
  have k291 : f289 15 = 0 := by rw [ef289]; exact (pk_un (by decide)).trans (k269)
  have k292 : f289 16 = 0 := by rw [ef289]; exact (pk_un (by decide)).trans (k270)
  have k293 : f289 17 = 0 := by rw [ef289]; exact (pk_un (by decide)).trans (k271)
  have k294 : f289 18 = 0 := by rw [ef289]; exact (pk_un (by decide)).trans (k272)
  have k295 : f289 0 = 0 := by rw [ef289]; exact (pk_un (by decide)).trans (k273)
  have k296 : f289 1 = 2 := by rw [ef289]; exact (pk_un (by decide)).trans (k274)
  have k297 : f289 2 = 10 := by rw [ef289]; exact (pk_un (by decide)).trans (k275)
  have k298 : f289 3 = 0 := by rw [ef289]; exact (pk_un (by decide)).trans (k276)
  have k299 : f289 4 = 0 := by rw [ef289]; exact (pk_un (by decide)).trans (k277)
  have k300 : f289 5 = 0 := by rw [ef289]; exact (pk_un (by decide)).trans (k278)
  have k301 : f289 6 = 0 := by rw [ef289]; exact (pk_un (by decide)).trans (k279)
  have k302 : f289 7 = 0 := by rw [ef289]; exact (pk_un (by decide)).trans (k280)
  have k303 : f289 8 = (-1) := by rw [ef289]; exact (pk_un (by decide)).trans (k281)
  have k304 : f289 9 = 0 := by rw [ef289]; exact (pk_un (by decide)).trans (k282)
  have k305 : f289 10 = 0 := by rw [ef289]; exact (pk_un (by decide)).trans (k283)
  have k306 : f289 11 = 0 := by rw [ef289]; exact (pk_un (by decide)).trans (k284)
  have k307 : f289 12 = 0 := by rw [ef289]; exact (pk_un (by decide)).trans (k285)
  have k308 : f289 13 = 3 := by rw [ef289]; exact pk_us
  have hP : va_P (dC, dI) vwCl [(q1, .inl (cA3, 19, .inl f289))] H288 := by rw [ef289]; exact hP
  have hD : va_D A [(q1, .inl (cA3, 19, .inl f289))] := by rw [ef289]; exact hD
  refine lv_dup hx hb dX8_manyNow_169 rfl ?_
  refine lv_bipush (v := 14) hx hb dX8_manyNow_170 (by decide) ?_
  refine lv_aload_n hx hb dX8_manyNow_172 rfl (lv_at hl 0 rfl) ?_
  refine va_get (D := (dC, dI)) (ci := 10) (v := .ref mr) (C := RX8) (T := TX8) (N := 4) hx hb hts zi_X8_manyNow_X8 hown hK (zo_R hR0 hS hAr) 0 rfl rfl 1 (by decide) (hts (.fieldLink RX8 10 "LockRoomsModel" "room" "LLockRoomsModel$Room;") (by decide +kernel)) (fun _ h9 => h9) rfl dX8_manyNow_173 ?_
  refine lv_iconst (v := 1) hx hb dX8_manyNow_176 (by decide) ?_
  have hPr := ((zo_R hR0 hS hAr)).sub (ws' := [(mr, .inr (9, [.ref ll, .ref lt, .ref lp, .int 0, .int 0, .int 0, .int 0, .int 0, .int 0, .int 0, .int (-1), .int 0, .int 0, .int 0])), (lt, .inr (1, [.int 10, .ref ota, .int 10])), (ota, .inl (cOt, 10, .inr (.inr (.inr (.inr fot))))), (ta0, .inl (cB0, 5, .inl fb0)), (ta1, .inl (cB1, 5, .inl fb1)), (ta2, .inl (cB2, 5, .inl fb2)), (ta3, .inl (cB3, 5, .inl fb3)), (ta4, .inl (cB4, 5, .inl fb4)), (ta5, .inl (cB5, 5, .inl fb5)), (ta6, .inl (cB6, 5, .inl fb6)), (ta7, .inl (cB7, 5, .inl fb7)), (ta8, .inl (cB8, 5, .inl fb8)), (ta9, .inl (cB9, 5, .inl fb9))]) [1, 7, 8, 9, 10, 11, 12, 13, 14, 15, 16, 17, 18] rfl
  have hPc := hP.sub (ws' := []) [] rfl
  have hDc := hD.sub (ws' := []) [] (by decide) rfl
  have hKc := hK.sub (tys' := [(cOt, .object "java/lang/Object"), (cB0, .int), (cB1, .int), (cB2, .int), (cB3, .int), (cB4, .int), (cB5, .int), (cB6, .int), (cB7, .int), (cB8, .int), (cB9, .int)]) [3, 4, 5, 6, 7, 8, 9, 10, 11, 12, 13] rfl
  have hFc := va_free (wc := []) hD hS hA [] rfl
  refine va_calli (va_runV (As := [.int 1]) (rest := [.int 14, .ref q1, .ref q1]) ⟨hx, hb, hml, hown, hts⟩ (cz_QinState_1 l dC dI ed H288.size mr ll lt lp ota cOt fot ta0 ta1 ta2 ta3 ta4 ta5 ta6 ta7 ta8 ta9 cB0 fb0 cB1 fb1 cB2 fb2 cB3 fb3 cB4 fb4 cB5 fb5 cB6 fb6 cB7 fb7 cB8 fb8 cB9 fb9 hot0 hot1 hot2 hot3 hot4 hot5 hot6 hot7 hot8 hot9 hb0_3 hb1_3 hb2_3 hb3_3 hb4_3 hb5_3 hb6_3 hb7_3 hb8_3 hb9_3) (cwV 1 hts gX8_manyNow_X7_inState rfl rfl rfl (by decide +kernel) ⟨Nat.le_of_ble_eq_true rfl, Nat.le_of_ble_eq_true rfl⟩) ⟨zb_blind, va_recv hK (zo_R hR0 hS hAr) (ci := 9) (q0 := 1) rfl rfl, fun U hU hW => ⟨rfl, zb_mk hU hW hPr hPc hKc hDc hN hH hS hFc zx_e⟩⟩ rfl rfl hl.1 rfl (lv_room (Nat.le_of_ble_eq_true rfl)) dX8_manyNow_177 ⟨Nat.le_of_ble_eq_true rfl, Nat.le_of_ble_eq_true rfl⟩) hS (fun q _ h => hFc q h) hFc (fun r310 u t H309 locs ht hvm hw hB hz1 hk1 hS => ?_)
  obtain rfl : r310 = 0 := hw
  have hP := zo_K hP hk1
  refine va_iast hx hb hK hP hD hS 0 14 rfl rfl (by unfold vp_in; decide) dX8_manyNow_180 (fun H311 locs hP hD hS => ?_)
  obtain ⟨f312, ef312⟩ : ∃ z : Nat → Int32, z = upd f289 14 0 := ⟨_, rfl⟩
  have k313 : f312 15 = 0 := by rw [ef312]; exact (pk_un (by decide)).trans (k291)
  have k314 : f312 16 = 0 := by rw [ef312]; exact (pk_un (by decide)).trans (k292)
  have k315 : f312 17 = 0 := by rw [ef312]; exact (pk_un (by decide)).trans (k293)
  have k316 : f312 18 = 0 := by rw [ef312]; exact (pk_un (by decide)).trans (k294)
  have k317 : f312 0 = 0 := by rw [ef312]; exact (pk_un (by decide)).trans (k295)
  have k318 : f312 1 = 2 := by rw [ef312]; exact (pk_un (by decide)).trans (k296)
  have k319 : f312 2 = 10 := by rw [ef312]; exact (pk_un (by decide)).trans (k297)
  have k320 : f312 3 = 0 := by rw [ef312]; exact (pk_un (by decide)).trans (k298)
  have k321 : f312 4 = 0 := by rw [ef312]; exact (pk_un (by decide)).trans (k299)
  have k322 : f312 5 = 0 := by rw [ef312]; exact (pk_un (by decide)).trans (k300)
  have k323 : f312 6 = 0 := by rw [ef312]; exact (pk_un (by decide)).trans (k301)
  have k324 : f312 7 = 0 := by rw [ef312]; exact (pk_un (by decide)).trans (k302)
  have k325 : f312 8 = (-1) := by rw [ef312]; exact (pk_un (by decide)).trans (k303)
  have k326 : f312 9 = 0 := by rw [ef312]; exact (pk_un (by decide)).trans (k304)
  have k327 : f312 10 = 0 := by rw [ef312]; exact (pk_un (by decide)).trans (k305)
  have k328 : f312 11 = 0 := by rw [ef312]; exact (pk_un (by decide)).trans (k306)
  have k329 : f312 12 = 0 := by rw [ef312]; exact (pk_un (by decide)).trans (k307)
  have k330 : f312 13 = 3 := by rw [ef312]; exact (pk_un (by decide)).trans (k308)
  have k331 : f312 14 = 0 := by rw [ef312]; exact pk_us
  have hP : va_P (dC, dI) vwCl [(q1, .inl (cA3, 19, .inl f312))] H311 := by rw [ef312]; exact hP
  have hD : va_D A [(q1, .inl (cA3, 19, .inl f312))] := by rw [ef312]; exact hD
  refine lv_dup hx hb dX8_manyNow_181 rfl ?_
  refine lv_bipush (v := 15) hx hb dX8_manyNow_182 (by decide) ?_
  refine lv_aload_n hx hb dX8_manyNow_184 rfl (lv_at hl 0 rfl) ?_
  refine va_get (D := (dC, dI)) (ci := 10) (v := .ref mr) (C := RX8) (T := TX8) (N := 4) hx hb hts zi_X8_manyNow_X8 hown hK (zo_R hR0 hS hAr) 0 rfl rfl 1 (by decide) (hts (.fieldLink RX8 10 "LockRoomsModel" "room" "LLockRoomsModel$Room;") (by decide +kernel)) (fun _ h9 => h9) rfl dX8_manyNow_185 ?_
  refine lv_iconst (v := 2) hx hb dX8_manyNow_188 (by decide) ?_
  have hPr := ((zo_R hR0 hS hAr)).sub (ws' := [(mr, .inr (9, [.ref ll, .ref lt, .ref lp, .int 0, .int 0, .int 0, .int 0, .int 0, .int 0, .int 0, .int (-1), .int 0, .int 0, .int 0])), (lt, .inr (1, [.int 10, .ref ota, .int 10])), (ota, .inl (cOt, 10, .inr (.inr (.inr (.inr fot))))), (ta0, .inl (cB0, 5, .inl fb0)), (ta1, .inl (cB1, 5, .inl fb1)), (ta2, .inl (cB2, 5, .inl fb2)), (ta3, .inl (cB3, 5, .inl fb3)), (ta4, .inl (cB4, 5, .inl fb4)), (ta5, .inl (cB5, 5, .inl fb5)), (ta6, .inl (cB6, 5, .inl fb6)), (ta7, .inl (cB7, 5, .inl fb7)), (ta8, .inl (cB8, 5, .inl fb8)), (ta9, .inl (cB9, 5, .inl fb9))]) [1, 7, 8, 9, 10, 11, 12, 13, 14, 15, 16, 17, 18] rfl
  have hPc := hP.sub (ws' := []) [] rfl
  have hDc := hD.sub (ws' := []) [] (by decide) rfl
  have hKc := hK.sub (tys' := [(cOt, .object "java/lang/Object"), (cB0, .int), (cB1, .int), (cB2, .int), (cB3, .int), (cB4, .int), (cB5, .int), (cB6, .int), (cB7, .int), (cB8, .int), (cB9, .int)]) [3, 4, 5, 6, 7, 8, 9, 10, 11, 12, 13] rfl
  have hFc := va_free (wc := []) hD hS hA [] rfl
  refine va_calli (va_runV (As := [.int 2]) (rest := [.int 15, .ref q1, .ref q1]) ⟨hx, hb, hml, hown, hts⟩ (cz_QinState_2 l dC dI ed H311.size mr ll lt lp ota cOt fot ta0 ta1 ta2 ta3 ta4 ta5 ta6 ta7 ta8 ta9 cB0 fb0 cB1 fb1 cB2 fb2 cB3 fb3 cB4 fb4 cB5 fb5 cB6 fb6 cB7 fb7 cB8 fb8 cB9 fb9 hot0 hot1 hot2 hot3 hot4 hot5 hot6 hot7 hot8 hot9 hb0_3 hb1_3 hb2_3 hb3_3 hb4_3 hb5_3 hb6_3 hb7_3 hb8_3 hb9_3) (cwV 1 hts gX8_manyNow_X7_inState rfl rfl rfl (by decide +kernel) ⟨Nat.le_of_ble_eq_true rfl, Nat.le_of_ble_eq_true rfl⟩) ⟨zb_blind, va_recv hK (zo_R hR0 hS hAr) (ci := 9) (q0 := 1) rfl rfl, fun U hU hW => ⟨rfl, zb_mk hU hW hPr hPc hKc hDc hN hH hS hFc zx_e⟩⟩ rfl rfl hl.1 rfl (lv_room (Nat.le_of_ble_eq_true rfl)) dX8_manyNow_189 ⟨Nat.le_of_ble_eq_true rfl, Nat.le_of_ble_eq_true rfl⟩) hS (fun q _ h => hFc q h) hFc (fun r333 u t H332 locs ht hvm hw hB hz1 hk1 hS => ?_)
  obtain rfl : r333 = 0 := hw
  have hP := zo_K hP hk1
  refine va_iast hx hb hK hP hD hS 0 14 rfl rfl (by unfold vp_in; decide) dX8_manyNow_192 (fun H334 locs hP hD hS => ?_)
  obtain ⟨f335, ef335⟩ : ∃ z : Nat → Int32, z = upd f312 15 0 := ⟨_, rfl⟩
  have k336 : f335 16 = 0 := by rw [ef335]; exact (pk_un (by decide)).trans (k314)
  have k337 : f335 17 = 0 := by rw [ef335]; exact (pk_un (by decide)).trans (k315)
  have k338 : f335 18 = 0 := by rw [ef335]; exact (pk_un (by decide)).trans (k316)
  have k339 : f335 0 = 0 := by rw [ef335]; exact (pk_un (by decide)).trans (k317)
  have k340 : f335 1 = 2 := by rw [ef335]; exact (pk_un (by decide)).trans (k318)
  have k341 : f335 2 = 10 := by rw [ef335]; exact (pk_un (by decide)).trans (k319)
  have k342 : f335 3 = 0 := by rw [ef335]; exact (pk_un (by decide)).trans (k320)
  have k343 : f335 4 = 0 := by rw [ef335]; exact (pk_un (by decide)).trans (k321)
  have k344 : f335 5 = 0 := by rw [ef335]; exact (pk_un (by decide)).trans (k322)
  have k345 : f335 6 = 0 := by rw [ef335]; exact (pk_un (by decide)).trans (k323)
  have k346 : f335 7 = 0 := by rw [ef335]; exact (pk_un (by decide)).trans (k324)
  have k347 : f335 8 = (-1) := by rw [ef335]; exact (pk_un (by decide)).trans (k325)
  have k348 : f335 9 = 0 := by rw [ef335]; exact (pk_un (by decide)).trans (k326)
  have k349 : f335 10 = 0 := by rw [ef335]; exact (pk_un (by decide)).trans (k327)
  have k350 : f335 11 = 0 := by rw [ef335]; exact (pk_un (by decide)).trans (k328)
  have k351 : f335 12 = 0 := by rw [ef335]; exact (pk_un (by decide)).trans (k329)
  have k352 : f335 13 = 3 := by rw [ef335]; exact (pk_un (by decide)).trans (k330)
  have k353 : f335 14 = 0 := by rw [ef335]; exact (pk_un (by decide)).trans (k331)
  have k354 : f335 15 = 0 := by rw [ef335]; exact pk_us
  have hP : va_P (dC, dI) vwCl [(q1, .inl (cA3, 19, .inl f335))] H334 := by rw [ef335]; exact hP
  have hD : va_D A [(q1, .inl (cA3, 19, .inl f335))] := by rw [ef335]; exact hD
  refine lv_dup hx hb dX8_manyNow_193 rfl ?_
  refine lv_bipush (v := 16) hx hb dX8_manyNow_194 (by decide) ?_
  refine lv_aload_n hx hb dX8_manyNow_196 rfl (lv_at hl 0 rfl) ?_
  refine va_get (D := (dC, dI)) (ci := 10) (v := .ref mr) (C := RX8) (T := TX8) (N := 4) hx hb hts zi_X8_manyNow_X8 hown hK (zo_R hR0 hS hAr) 0 rfl rfl 1 (by decide) (hts (.fieldLink RX8 10 "LockRoomsModel" "room" "LLockRoomsModel$Room;") (by decide +kernel)) (fun _ h9 => h9) rfl dX8_manyNow_197 ?_
  refine lv_iconst (v := 3) hx hb dX8_manyNow_200 (by decide) ?_
  have hPr := ((zo_R hR0 hS hAr)).sub (ws' := [(mr, .inr (9, [.ref ll, .ref lt, .ref lp, .int 0, .int 0, .int 0, .int 0, .int 0, .int 0, .int 0, .int (-1), .int 0, .int 0, .int 0])), (lt, .inr (1, [.int 10, .ref ota, .int 10])), (ota, .inl (cOt, 10, .inr (.inr (.inr (.inr fot))))), (ta0, .inl (cB0, 5, .inl fb0)), (ta1, .inl (cB1, 5, .inl fb1)), (ta2, .inl (cB2, 5, .inl fb2)), (ta3, .inl (cB3, 5, .inl fb3)), (ta4, .inl (cB4, 5, .inl fb4)), (ta5, .inl (cB5, 5, .inl fb5)), (ta6, .inl (cB6, 5, .inl fb6)), (ta7, .inl (cB7, 5, .inl fb7)), (ta8, .inl (cB8, 5, .inl fb8)), (ta9, .inl (cB9, 5, .inl fb9))]) [1, 7, 8, 9, 10, 11, 12, 13, 14, 15, 16, 17, 18] rfl
  have hPc := hP.sub (ws' := []) [] rfl
  have hDc := hD.sub (ws' := []) [] (by decide) rfl
  have hKc := hK.sub (tys' := [(cOt, .object "java/lang/Object"), (cB0, .int), (cB1, .int), (cB2, .int), (cB3, .int), (cB4, .int), (cB5, .int), (cB6, .int), (cB7, .int), (cB8, .int), (cB9, .int)]) [3, 4, 5, 6, 7, 8, 9, 10, 11, 12, 13] rfl
  have hFc := va_free (wc := []) hD hS hA [] rfl
  refine va_calli (va_runV (As := [.int 3]) (rest := [.int 16, .ref q1, .ref q1]) ⟨hx, hb, hml, hown, hts⟩ (cz_QinState_3 l dC dI ed H334.size mr ll lt lp ota cOt fot ta0 ta1 ta2 ta3 ta4 ta5 ta6 ta7 ta8 ta9 cB0 fb0 cB1 fb1 cB2 fb2 cB3 fb3 cB4 fb4 cB5 fb5 cB6 fb6 cB7 fb7 cB8 fb8 cB9 fb9 hot0 hot1 hot2 hot3 hot4 hot5 hot6 hot7 hot8 hot9 hb0_3 hb1_3 hb2_3 hb3_3 hb4_3 hb5_3 hb6_3 hb7_3 hb8_3 hb9_3) (cwV 1 hts gX8_manyNow_X7_inState rfl rfl rfl (by decide +kernel) ⟨Nat.le_of_ble_eq_true rfl, Nat.le_of_ble_eq_true rfl⟩) ⟨zb_blind, va_recv hK (zo_R hR0 hS hAr) (ci := 9) (q0 := 1) rfl rfl, fun U hU hW => ⟨rfl, zb_mk hU hW hPr hPc hKc hDc hN hH hS hFc zx_e⟩⟩ rfl rfl hl.1 rfl (lv_room (Nat.le_of_ble_eq_true rfl)) dX8_manyNow_201 ⟨Nat.le_of_ble_eq_true rfl, Nat.le_of_ble_eq_true rfl⟩) hS (fun q _ h => hFc q h) hFc (fun r356 u t H355 locs ht hvm hw hB hz1 hk1 hS => ?_)
  obtain rfl : r356 = 0 := hw
  have hP := zo_K hP hk1
  refine va_iast hx hb hK hP hD hS 0 14 rfl rfl (by unfold vp_in; decide) dX8_manyNow_204 (fun H357 locs hP hD hS => ?_)
  obtain ⟨f358, ef358⟩ : ∃ z : Nat → Int32, z = upd f335 16 0 := ⟨_, rfl⟩
  have k359 : f358 17 = 0 := by rw [ef358]; exact (pk_un (by decide)).trans (k337)
  have k360 : f358 18 = 0 := by rw [ef358]; exact (pk_un (by decide)).trans (k338)
  have k361 : f358 0 = 0 := by rw [ef358]; exact (pk_un (by decide)).trans (k339)
  have k362 : f358 1 = 2 := by rw [ef358]; exact (pk_un (by decide)).trans (k340)
  have k363 : f358 2 = 10 := by rw [ef358]; exact (pk_un (by decide)).trans (k341)
  have k364 : f358 3 = 0 := by rw [ef358]; exact (pk_un (by decide)).trans (k342)
  have k365 : f358 4 = 0 := by rw [ef358]; exact (pk_un (by decide)).trans (k343)
  have k366 : f358 5 = 0 := by rw [ef358]; exact (pk_un (by decide)).trans (k344)
  have k367 : f358 6 = 0 := by rw [ef358]; exact (pk_un (by decide)).trans (k345)
  have k368 : f358 7 = 0 := by rw [ef358]; exact (pk_un (by decide)).trans (k346)
  have k369 : f358 8 = (-1) := by rw [ef358]; exact (pk_un (by decide)).trans (k347)
  have k370 : f358 9 = 0 := by rw [ef358]; exact (pk_un (by decide)).trans (k348)
  have k371 : f358 10 = 0 := by rw [ef358]; exact (pk_un (by decide)).trans (k349)
  have k372 : f358 11 = 0 := by rw [ef358]; exact (pk_un (by decide)).trans (k350)
  have k373 : f358 12 = 0 := by rw [ef358]; exact (pk_un (by decide)).trans (k351)
  have k374 : f358 13 = 3 := by rw [ef358]; exact (pk_un (by decide)).trans (k352)
  have k375 : f358 14 = 0 := by rw [ef358]; exact (pk_un (by decide)).trans (k353)
  have k376 : f358 15 = 0 := by rw [ef358]; exact (pk_un (by decide)).trans (k354)
  have k377 : f358 16 = 0 := by rw [ef358]; exact pk_us
  have hP : va_P (dC, dI) vwCl [(q1, .inl (cA3, 19, .inl f358))] H357 := by rw [ef358]; exact hP
  have hD : va_D A [(q1, .inl (cA3, 19, .inl f358))] := by rw [ef358]; exact hD
  refine lv_dup hx hb dX8_manyNow_205 rfl ?_
  refine lv_bipush (v := 17) hx hb dX8_manyNow_206 (by decide) ?_
  refine lv_aload_n hx hb dX8_manyNow_208 rfl (lv_at hl 0 rfl) ?_
  refine va_get (D := (dC, dI)) (ci := 10) (v := .int 1) (C := RX8) (T := TX8) (N := 4) hx hb hts zi_X8_manyNow_X8 hown hK (zo_R hR0 hS hAr) 0 rfl rfl 2 (by decide) (hts (.fieldLink RX8 16 "LockRoomsModel" "hasPower" "Z") (by decide +kernel)) (fun _ h9 => h9) rfl dX8_manyNow_209 ?_
  refine lv_if_eq (tgt := 219) hx hb dX8_manyNow_212 (by decide) (fun h => absurd h (by decide)) (fun _ => ?_)
  refine lv_iconst (v := 1) hx hb dX8_manyNow_215 (by decide) ?_
  refine lv_goto (tgt := 220) hx hb dX8_manyNow_216 (by decide) ?_
  refine va_iast hx hb hK hP hD hS 0 14 rfl rfl (by unfold vp_in; decide) dX8_manyNow_220 (fun H378 locs hP hD hS => ?_)
  obtain ⟨f379, ef379⟩ : ∃ z : Nat → Int32, z = upd f358 17 1 := ⟨_, rfl⟩
  have k380 : f379 18 = 0 := by rw [ef379]; exact (pk_un (by decide)).trans (k360)
  have k381 : f379 0 = 0 := by rw [ef379]; exact (pk_un (by decide)).trans (k361)
  have k382 : f379 1 = 2 := by rw [ef379]; exact (pk_un (by decide)).trans (k362)
  have k383 : f379 2 = 10 := by rw [ef379]; exact (pk_un (by decide)).trans (k363)
  have k384 : f379 3 = 0 := by rw [ef379]; exact (pk_un (by decide)).trans (k364)
  have k385 : f379 4 = 0 := by rw [ef379]; exact (pk_un (by decide)).trans (k365)
  have k386 : f379 5 = 0 := by rw [ef379]; exact (pk_un (by decide)).trans (k366)
  have k387 : f379 6 = 0 := by rw [ef379]; exact (pk_un (by decide)).trans (k367)
  have k388 : f379 7 = 0 := by rw [ef379]; exact (pk_un (by decide)).trans (k368)
  have k389 : f379 8 = (-1) := by rw [ef379]; exact (pk_un (by decide)).trans (k369)
  have k390 : f379 9 = 0 := by rw [ef379]; exact (pk_un (by decide)).trans (k370)
  have k391 : f379 10 = 0 := by rw [ef379]; exact (pk_un (by decide)).trans (k371)
  have k392 : f379 11 = 0 := by rw [ef379]; exact (pk_un (by decide)).trans (k372)
  have k393 : f379 12 = 0 := by rw [ef379]; exact (pk_un (by decide)).trans (k373)
  have k394 : f379 13 = 3 := by rw [ef379]; exact (pk_un (by decide)).trans (k374)
  have k395 : f379 14 = 0 := by rw [ef379]; exact (pk_un (by decide)).trans (k375)
  have k396 : f379 15 = 0 := by rw [ef379]; exact (pk_un (by decide)).trans (k376)
  have k397 : f379 16 = 0 := by rw [ef379]; exact (pk_un (by decide)).trans (k377)
  have k398 : f379 17 = 1 := by rw [ef379]; exact pk_us
  have hP : va_P (dC, dI) vwCl [(q1, .inl (cA3, 19, .inl f379))] H378 := by rw [ef379]; exact hP
  have hD : va_D A [(q1, .inl (cA3, 19, .inl f379))] := by rw [ef379]; exact hD
  refine lv_dup hx hb dX8_manyNow_221 rfl ?_
  refine lv_bipush (v := 18) hx hb dX8_manyNow_222 (by decide) ?_
  refine lv_aload_n hx hb dX8_manyNow_224 rfl (lv_at hl 0 rfl) ?_
  refine va_get (D := (dC, dI)) (ci := 10) (v := .ref mr) (C := RX8) (T := TX8) (N := 4) hx hb hts zi_X8_manyNow_X8 hown hK (zo_R hR0 hS hAr) 0 rfl rfl 1 (by decide) (hts (.fieldLink RX8 10 "LockRoomsModel" "room" "LLockRoomsModel$Room;") (by decide +kernel)) (fun _ h9 => h9) rfl dX8_manyNow_225 ?_
  refine va_getN (D := (dC, dI)) (ci := 9) (v := .int 0) (C := RX7) (T := TX7) (N := 14) hx hb hts zi_X8_manyNow_X7 hown hK (zo_R hR0 hS hAr) 1 rfl rfl 12 (by decide) (va_Nw.use rfl (hN.1 ("LockRoomsModel", 137, "LockRoomsModel$Room", "idled", "I", "LockRoomsModel") (List.mem_of_getElem? (i := 13) rfl))) (fun _ h9 => h9) rfl dX8_manyNow_228 ?_
  refine va_iast hx hb hK hP hD hS 0 14 rfl rfl (by unfold vp_in; decide) dX8_manyNow_231 (fun H399 locs hP hD hS => ?_)
  obtain ⟨f400, ef400⟩ : ∃ z : Nat → Int32, z = upd f379 18 0 := ⟨_, rfl⟩
  have k401 : f400 0 = 0 := by rw [ef400]; exact (pk_un (by decide)).trans (k381)
  have k402 : f400 1 = 2 := by rw [ef400]; exact (pk_un (by decide)).trans (k382)
  have k403 : f400 2 = 10 := by rw [ef400]; exact (pk_un (by decide)).trans (k383)
  have k404 : f400 3 = 0 := by rw [ef400]; exact (pk_un (by decide)).trans (k384)
  have k405 : f400 4 = 0 := by rw [ef400]; exact (pk_un (by decide)).trans (k385)
  have k406 : f400 5 = 0 := by rw [ef400]; exact (pk_un (by decide)).trans (k386)
  have k407 : f400 6 = 0 := by rw [ef400]; exact (pk_un (by decide)).trans (k387)
  have k408 : f400 7 = 0 := by rw [ef400]; exact (pk_un (by decide)).trans (k388)
  have k409 : f400 8 = (-1) := by rw [ef400]; exact (pk_un (by decide)).trans (k389)
  have k410 : f400 9 = 0 := by rw [ef400]; exact (pk_un (by decide)).trans (k390)
  have k411 : f400 10 = 0 := by rw [ef400]; exact (pk_un (by decide)).trans (k391)
  have k412 : f400 11 = 0 := by rw [ef400]; exact (pk_un (by decide)).trans (k392)
  have k413 : f400 12 = 0 := by rw [ef400]; exact (pk_un (by decide)).trans (k393)
  have k414 : f400 13 = 3 := by rw [ef400]; exact (pk_un (by decide)).trans (k394)
  have k415 : f400 14 = 0 := by rw [ef400]; exact (pk_un (by decide)).trans (k395)
  have k416 : f400 15 = 0 := by rw [ef400]; exact (pk_un (by decide)).trans (k396)
  have k417 : f400 16 = 0 := by rw [ef400]; exact (pk_un (by decide)).trans (k397)
  have k418 : f400 17 = 1 := by rw [ef400]; exact (pk_un (by decide)).trans (k398)
  have k419 : f400 18 = 0 := by rw [ef400]; exact pk_us
  have hP : va_P (dC, dI) vwCl [(q1, .inl (cA3, 19, .inl f400))] H399 := by rw [ef400]; exact hP
  have hD : va_D A [(q1, .inl (cA3, 19, .inl f400))] := by rw [ef400]; exact hD
  refine lv_astore_n (lv' := [(2, .ref q1), (0, .ref mo), (1, .int x0)]) hx hb dX8_manyNow_232 rfl hl (by decide) rfl (fun ls hl => ?_)
  refine lv_aload_n hx hb dX8_manyNow_233 rfl (lv_at hl 0 rfl) ?_
  refine lv_iload_n hx hb dX8_manyNow_234 rfl (lv_at hl 2 rfl) ?_
  rcases zm_19 hr18 with rfl | rfl | rfl | rfl | rfl | rfl | rfl | rfl | rfl | rfl | rfl | rfl | rfl | rfl | rfl | rfl | rfl | rfl | rfl
  · skip
    refine va_iald hx hb hK hP 0 14 rfl rfl (by unfold vp_in; decide) dX8_manyNow_235 ?_
    refine zo_i (v := 0) (by rw [show Int32.toNatClampNeg 0 = 0 from by decide]; exact k401) ?_
    refine W.widen (k := 1) (n := 19) (Nat.le_of_ble_eq_true rfl) (Nat.le_of_ble_eq_true rfl) ?_
    exact W.iret hx hb hr (fun t ht hW => ⟨⟨0, (), rfl, (by decide), trivial⟩, hS.F ht⟩) hS.2.2 dX8_manyNow_236
  · skip
    refine va_iald hx hb hK hP 0 14 rfl rfl (by unfold vp_in; decide) dX8_manyNow_235 ?_
    refine zo_i (v := 2) (by rw [show Int32.toNatClampNeg 1 = 1 from by decide]; exact k402) ?_
    refine W.widen (k := 1) (n := 19) (Nat.le_of_ble_eq_true rfl) (Nat.le_of_ble_eq_true rfl) ?_
    exact W.iret hx hb hr (fun t ht hW => ⟨⟨2, (), rfl, (by decide), trivial⟩, hS.F ht⟩) hS.2.2 dX8_manyNow_236
  · skip
    refine va_iald hx hb hK hP 0 14 rfl rfl (by unfold vp_in; decide) dX8_manyNow_235 ?_
    refine zo_i (v := 10) (by rw [show Int32.toNatClampNeg 2 = 2 from by decide]; exact k403) ?_
    refine W.widen (k := 1) (n := 19) (Nat.le_of_ble_eq_true rfl) (Nat.le_of_ble_eq_true rfl) ?_
    exact W.iret hx hb hr (fun t ht hW => ⟨⟨10, (), rfl, (by decide), trivial⟩, hS.F ht⟩) hS.2.2 dX8_manyNow_236
  · skip
    refine va_iald hx hb hK hP 0 14 rfl rfl (by unfold vp_in; decide) dX8_manyNow_235 ?_
    refine zo_i (v := 0) (by rw [show Int32.toNatClampNeg 3 = 3 from by decide]; exact k404) ?_
    refine W.widen (k := 1) (n := 19) (Nat.le_of_ble_eq_true rfl) (Nat.le_of_ble_eq_true rfl) ?_
    exact W.iret hx hb hr (fun t ht hW => ⟨⟨0, (), rfl, (by decide), trivial⟩, hS.F ht⟩) hS.2.2 dX8_manyNow_236
  · skip
    refine va_iald hx hb hK hP 0 14 rfl rfl (by unfold vp_in; decide) dX8_manyNow_235 ?_
    refine zo_i (v := 0) (by rw [show Int32.toNatClampNeg 4 = 4 from by decide]; exact k405) ?_
    refine W.widen (k := 1) (n := 19) (Nat.le_of_ble_eq_true rfl) (Nat.le_of_ble_eq_true rfl) ?_
    exact W.iret hx hb hr (fun t ht hW => ⟨⟨0, (), rfl, (by decide), trivial⟩, hS.F ht⟩) hS.2.2 dX8_manyNow_236
  · skip
    refine va_iald hx hb hK hP 0 14 rfl rfl (by unfold vp_in; decide) dX8_manyNow_235 ?_
    refine zo_i (v := 0) (by rw [show Int32.toNatClampNeg 5 = 5 from by decide]; exact k406) ?_
    refine W.widen (k := 1) (n := 19) (Nat.le_of_ble_eq_true rfl) (Nat.le_of_ble_eq_true rfl) ?_
    exact W.iret hx hb hr (fun t ht hW => ⟨⟨0, (), rfl, (by decide), trivial⟩, hS.F ht⟩) hS.2.2 dX8_manyNow_236
  · skip
    refine va_iald hx hb hK hP 0 14 rfl rfl (by unfold vp_in; decide) dX8_manyNow_235 ?_
    refine zo_i (v := 0) (by rw [show Int32.toNatClampNeg 6 = 6 from by decide]; exact k407) ?_
    refine W.widen (k := 1) (n := 19) (Nat.le_of_ble_eq_true rfl) (Nat.le_of_ble_eq_true rfl) ?_
    exact W.iret hx hb hr (fun t ht hW => ⟨⟨0, (), rfl, (by decide), trivial⟩, hS.F ht⟩) hS.2.2 dX8_manyNow_236
  · skip
    refine va_iald hx hb hK hP 0 14 rfl rfl (by unfold vp_in; decide) dX8_manyNow_235 ?_
    refine zo_i (v := 0) (by rw [show Int32.toNatClampNeg 7 = 7 from by decide]; exact k408) ?_
    refine W.widen (k := 1) (n := 19) (Nat.le_of_ble_eq_true rfl) (Nat.le_of_ble_eq_true rfl) ?_
    exact W.iret hx hb hr (fun t ht hW => ⟨⟨0, (), rfl, (by decide), trivial⟩, hS.F ht⟩) hS.2.2 dX8_manyNow_236
  · skip
    refine va_iald hx hb hK hP 0 14 rfl rfl (by unfold vp_in; decide) dX8_manyNow_235 ?_
    refine zo_i (v := (-1)) (by rw [show Int32.toNatClampNeg 8 = 8 from by decide]; exact k409) ?_
    refine W.widen (k := 1) (n := 19) (Nat.le_of_ble_eq_true rfl) (Nat.le_of_ble_eq_true rfl) ?_
    exact W.iret hx hb hr (fun t ht hW => ⟨⟨(-1), (), rfl, (by decide), trivial⟩, hS.F ht⟩) hS.2.2 dX8_manyNow_236
  · skip
    refine va_iald hx hb hK hP 0 14 rfl rfl (by unfold vp_in; decide) dX8_manyNow_235 ?_
    refine zo_i (v := 0) (by rw [show Int32.toNatClampNeg 9 = 9 from by decide]; exact k410) ?_
    refine W.widen (k := 1) (n := 19) (Nat.le_of_ble_eq_true rfl) (Nat.le_of_ble_eq_true rfl) ?_
    exact W.iret hx hb hr (fun t ht hW => ⟨⟨0, (), rfl, (by decide), trivial⟩, hS.F ht⟩) hS.2.2 dX8_manyNow_236
  · skip
    refine va_iald hx hb hK hP 0 14 rfl rfl (by unfold vp_in; decide) dX8_manyNow_235 ?_
    refine zo_i (v := 0) (by rw [show Int32.toNatClampNeg 10 = 10 from by decide]; exact k411) ?_
    refine W.widen (k := 1) (n := 19) (Nat.le_of_ble_eq_true rfl) (Nat.le_of_ble_eq_true rfl) ?_
    exact W.iret hx hb hr (fun t ht hW => ⟨⟨0, (), rfl, (by decide), trivial⟩, hS.F ht⟩) hS.2.2 dX8_manyNow_236
  · skip
    refine va_iald hx hb hK hP 0 14 rfl rfl (by unfold vp_in; decide) dX8_manyNow_235 ?_
    refine zo_i (v := 0) (by rw [show Int32.toNatClampNeg 11 = 11 from by decide]; exact k412) ?_
    refine W.widen (k := 1) (n := 19) (Nat.le_of_ble_eq_true rfl) (Nat.le_of_ble_eq_true rfl) ?_
    exact W.iret hx hb hr (fun t ht hW => ⟨⟨0, (), rfl, (by decide), trivial⟩, hS.F ht⟩) hS.2.2 dX8_manyNow_236
  · skip
    refine va_iald hx hb hK hP 0 14 rfl rfl (by unfold vp_in; decide) dX8_manyNow_235 ?_
    refine zo_i (v := 0) (by rw [show Int32.toNatClampNeg 12 = 12 from by decide]; exact k413) ?_
    refine W.widen (k := 1) (n := 19) (Nat.le_of_ble_eq_true rfl) (Nat.le_of_ble_eq_true rfl) ?_
    exact W.iret hx hb hr (fun t ht hW => ⟨⟨0, (), rfl, (by decide), trivial⟩, hS.F ht⟩) hS.2.2 dX8_manyNow_236
  · skip
    refine va_iald hx hb hK hP 0 14 rfl rfl (by unfold vp_in; decide) dX8_manyNow_235 ?_
    refine zo_i (v := 3) (by rw [show Int32.toNatClampNeg 13 = 13 from by decide]; exact k414) ?_
    refine W.widen (k := 1) (n := 19) (Nat.le_of_ble_eq_true rfl) (Nat.le_of_ble_eq_true rfl) ?_
    exact W.iret hx hb hr (fun t ht hW => ⟨⟨3, (), rfl, (by decide), trivial⟩, hS.F ht⟩) hS.2.2 dX8_manyNow_236
  · skip
    refine va_iald hx hb hK hP 0 14 rfl rfl (by unfold vp_in; decide) dX8_manyNow_235 ?_
    refine zo_i (v := 0) (by rw [show Int32.toNatClampNeg 14 = 14 from by decide]; exact k415) ?_
    refine W.widen (k := 1) (n := 19) (Nat.le_of_ble_eq_true rfl) (Nat.le_of_ble_eq_true rfl) ?_
    exact W.iret hx hb hr (fun t ht hW => ⟨⟨0, (), rfl, (by decide), trivial⟩, hS.F ht⟩) hS.2.2 dX8_manyNow_236
  · skip
    refine va_iald hx hb hK hP 0 14 rfl rfl (by unfold vp_in; decide) dX8_manyNow_235 ?_
    refine zo_i (v := 0) (by rw [show Int32.toNatClampNeg 15 = 15 from by decide]; exact k416) ?_
    refine W.widen (k := 1) (n := 19) (Nat.le_of_ble_eq_true rfl) (Nat.le_of_ble_eq_true rfl) ?_
    exact W.iret hx hb hr (fun t ht hW => ⟨⟨0, (), rfl, (by decide), trivial⟩, hS.F ht⟩) hS.2.2 dX8_manyNow_236
  · skip
    refine va_iald hx hb hK hP 0 14 rfl rfl (by unfold vp_in; decide) dX8_manyNow_235 ?_
    refine zo_i (v := 0) (by rw [show Int32.toNatClampNeg 16 = 16 from by decide]; exact k417) ?_
    refine W.widen (k := 1) (n := 19) (Nat.le_of_ble_eq_true rfl) (Nat.le_of_ble_eq_true rfl) ?_
    exact W.iret hx hb hr (fun t ht hW => ⟨⟨0, (), rfl, (by decide), trivial⟩, hS.F ht⟩) hS.2.2 dX8_manyNow_236
  · skip
    refine va_iald hx hb hK hP 0 14 rfl rfl (by unfold vp_in; decide) dX8_manyNow_235 ?_
    refine zo_i (v := 1) (by rw [show Int32.toNatClampNeg 17 = 17 from by decide]; exact k418) ?_
    refine W.widen (k := 1) (n := 19) (Nat.le_of_ble_eq_true rfl) (Nat.le_of_ble_eq_true rfl) ?_
    exact W.iret hx hb hr (fun t ht hW => ⟨⟨1, (), rfl, (by decide), trivial⟩, hS.F ht⟩) hS.2.2 dX8_manyNow_236
  · skip
    refine va_iald hx hb hK hP 0 14 rfl rfl (by unfold vp_in; decide) dX8_manyNow_235 ?_
    refine zo_i (v := 0) (by rw [show Int32.toNatClampNeg 18 = 18 from by decide]; exact k419) ?_
    refine W.widen (k := 1) (n := 19) (Nat.le_of_ble_eq_true rfl) (Nat.le_of_ble_eq_true rfl) ?_
    exact W.iret hx hb hr (fun t ht hW => ⟨⟨0, (), rfl, (by decide), trivial⟩, hS.F ht⟩) hS.2.2 dX8_manyNow_236

set_option maxHeartbeats 4000000 in
set_option maxRecDepth 100000 in
theorem cz_Qnext7_0 (l : Launch) (dC : Nat → ClassId) (dI : Nat → Nat → Nat) (ed sz : Nat) (mr : Nat) (ll : Nat) (lt : Nat) (lp : Nat) (ola : Nat) (cOl : ClassId) (fol : Nat → Option Nat) (la0 : Nat) (la1 : Nat) (cA0 : ClassId) (fa0 : Nat → Int32) (cA1 : ClassId) (fa1 : Nat → Int32) (ota : Nat) (cOt : ClassId) (fot : Nat → Option Nat) (ta0 : Nat) (ta1 : Nat) (ta2 : Nat) (ta3 : Nat) (ta4 : Nat) (ta5 : Nat) (ta6 : Nat) (ta7 : Nat) (ta8 : Nat) (ta9 : Nat) (cB0 : ClassId) (fb0 : Nat → Int32) (y0 : Int32) (cB1 : ClassId) (fb1 : Nat → Int32) (y1 : Int32) (cB2 : ClassId) (fb2 : Nat → Int32) (y2 : Int32) (cB3 : ClassId) (fb3 : Nat → Int32) (y3 : Int32) (cB4 : ClassId) (fb4 : Nat → Int32) (y4 : Int32) (cB5 : ClassId) (fb5 : Nat → Int32) (y5 : Int32) (cB6 : ClassId) (fb6 : Nat → Int32) (y6 : Int32) (cB7 : ClassId) (fb7 : Nat → Int32) (y7 : Int32) (cB8 : ClassId) (fb8 : Nat → Int32) (y8 : Int32) (cB9 : ClassId) (fb9 : Nat → Int32) (y9 : Int32) (hol0 : fol 0 = some la0) (hol1 : fol 1 = some la1) (ha0_0 : fa0 0 = 0) (ha0_1 : fa0 1 = 0) (ha0_8 : fa0 8 = 0) (ha1_0 : fa1 0 = 0) (ha1_1 : fa1 1 = 0) (ha1_8 : fa1 8 = 0) (hot0 : fot 0 = some ta0) (hot1 : fot 1 = some ta1) (hot2 : fot 2 = some ta2) (hot3 : fot 3 = some ta3) (hot4 : fot 4 = some ta4) (hot5 : fot 5 = some ta5) (hot6 : fot 6 = some ta6) (hot7 : fot 7 = some ta7) (hot8 : fot 8 = some ta8) (hot9 : fot 9 = some ta9) (hb0_0 : fb0 0 = (-1)) (hb0_3 : fb0 3 = y0) (hb1_0 : fb1 0 = (-1)) (hb1_3 : fb1 3 = y1) (hb2_0 : fb2 0 = (-1)) (hb2_3 : fb2 3 = y2) (hb3_0 : fb3 0 = (-1)) (hb3_3 : fb3 3 = y3) (hb4_0 : fb4 0 = (-1)) (hb4_3 : fb4 3 = y4) (hb5_0 : fb5 0 = (-1)) (hb5_3 : fb5 3 = y5) (hb6_0 : fb6 0 = (-1)) (hb6_3 : fb6 3 = y6) (hb7_0 : fb7 0 = (-1)) (hb7_3 : fb7 3 = y7) (hb8_0 : fb8 0 = (-1)) (hb8_3 : fb8 3 = y8) (hb9_0 : fb9 0 = (-1)) (hb9_3 : fb9 3 = y9) : Met l yX7_next wsX7_next ({ frames := 4, cells := 0, slots := 0, locals := 90 } : Jvm.Room) (va_Pc [.ref mr, .int 0, .int 0] (zB dC dI ed sz [(mr, .inr (9, [.ref ll, .ref lt, .ref lp, .int 0, .int 0, .int 0, .int 0, .int 0, .int 0, .int 0, .int (-1), .int 0, .int 0, .int 0])), (ll, .inr (1, [.int 2, .ref ola, .int 2])), (ola, .inl (cOl, 10, .inr (.inr (.inr (.inr fol))))), (la0, .inl (cA0, 10, .inl fa0)), (la1, .inl (cA1, 10, .inl fa1)), (lt, .inr (1, [.int 10, .ref ota, .int 10])), (ota, .inl (cOt, 10, .inr (.inr (.inr (.inr fot))))), (ta0, .inl (cB0, 5, .inl fb0)), (ta1, .inl (cB1, 5, .inl fb1)), (ta2, .inl (cB2, 5, .inl fb2)), (ta3, .inl (cB3, 5, .inl fb3)), (ta4, .inl (cB4, 5, .inl fb4)), (ta5, .inl (cB5, 5, .inl fb5)), (ta6, .inl (cB6, 5, .inl fb6)), (ta7, .inl (cB7, 5, .inl fb7)), (ta8, .inl (cB8, 5, .inl fb8)), (ta9, .inl (cB9, 5, .inl fb9))] [] [(cOl, .object "java/lang/Object"), (cA0, .int), (cA1, .int), (cOt, .object "java/lang/Object"), (cB0, .int), (cB1, .int), (cB2, .int), (cB3, .int), (cB4, .int), (cB5, .int), (cB6, .int), (cB7, .int), (cB8, .int), (cB9, .int)])) (va_Qi (fun (r : Int32) (_ : Unit) => r = 3) (fun (_ : Unit) (_ : State) => True) (va_A [] sz)) 0 0 (va_A [] sz) := by
  refine Met.ofW (cc := cX7_next) (maxL := 7) (ret := (some .int)) (by decide) rfl ?_
  intro p e s m args below meth c s₁ B hml hv
  obtain ⟨rfl, hsz, hR0, hP, hK, hD0, hN, hH, hX0⟩ := hv
  have hx := B.exec
  have hb := B.bytes
  have hr := B.returns
  have hts := atoms_spec (ws := wsX7_next) B.pre
  have hown : s.vm.findClass RX7 = some m.cls := findClass_of_methodNamed B.named
  have hlocks := B.notSynchronized
  subst hsz
  have hD := hD0.self (sz := s.heap.size)
  have hAr := zx_A hX0 hR0
  generalize hAe : va_A [] s.heap.size = A at hD hAr hH ⊢
  have hA : ∀ q : Nat, s.heap.size ≤ q → A q := fun q h => by rw [← hAe]; exact Or.inr h
  have hS : va_S A s.heap s.heap [] := va_S.rf
  have hl := lv_entry ([.ref mr, .int 0, .int 0]) (n := 7) (Nat.le_of_ble_eq_true rfl)
  rw [lg_entry_eq]
  generalize (lg_sl ([.ref mr, .int 0, .int 0]) ++ List.replicate (7 - (lg_sl ([.ref mr, .int 0, .int 0])).length) Slot.unset).toArray = ls at hl ⊢
  have hl : lv_has ls 7 [(0, .ref mr), (1, .int 0), (2, .int 0)] := hl
  refine lv_aload_n hx hb dX7_next_0 rfl (lv_at hl 0 rfl) ?_
  refine lv_iload_n hx hb dX7_next_1 rfl (lv_at hl 1 rfl) ?_
  refine lv_iload_n hx hb dX7_next_2 rfl (lv_at hl 2 rfl) ?_
  have hPr := (hR0).sub (ws' := [(mr, .inr (9, [.ref ll, .ref lt, .ref lp, .int 0, .int 0, .int 0, .int 0, .int 0, .int 0, .int 0, .int (-1), .int 0, .int 0, .int 0])), (ll, .inr (1, [.int 2, .ref ola, .int 2])), (ola, .inl (cOl, 10, .inr (.inr (.inr (.inr fol))))), (la0, .inl (cA0, 10, .inl fa0)), (la1, .inl (cA1, 10, .inl fa1)), (lt, .inr (1, [.int 10, .ref ota, .int 10])), (ota, .inl (cOt, 10, .inr (.inr (.inr (.inr fot))))), (ta0, .inl (cB0, 5, .inl fb0)), (ta1, .inl (cB1, 5, .inl fb1)), (ta2, .inl (cB2, 5, .inl fb2)), (ta3, .inl (cB3, 5, .inl fb3)), (ta4, .inl (cB4, 5, .inl fb4)), (ta5, .inl (cB5, 5, .inl fb5)), (ta6, .inl (cB6, 5, .inl fb6)), (ta7, .inl (cB7, 5, .inl fb7)), (ta8, .inl (cB8, 5, .inl fb8)), (ta9, .inl (cB9, 5, .inl fb9))]) [0, 1, 2, 3, 4, 5, 6, 7, 8, 9, 10, 11, 12, 13, 14, 15, 16] rfl
  have hPc := hP.sub (ws' := []) [] rfl
  have hDc := hD.sub (ws' := []) [] (by decide) rfl
  have hKc := hK.sub (tys' := [(cOl, .object "java/lang/Object"), (cA0, .int), (cA1, .int), (cOt, .object "java/lang/Object"), (cB0, .int), (cB1, .int), (cB2, .int), (cB3, .int), (cB4, .int), (cB5, .int), (cB6, .int), (cB7, .int), (cB8, .int), (cB9, .int)]) [0, 1, 2, 3, 4, 5, 6, 7, 8, 9, 10, 11, 12, 13] rfl
  have hFc := va_free (wc := []) hD hS hA [] rfl
  refine va_calli (va_runV (As := [.int 0, .int 0]) (rest := []) ⟨hx, hb, hml, hown, hts⟩ (cz_QatHand l dC dI ed s.heap.size mr ll lt lp ola cOl fol la0 la1 cA0 fa0 cA1 fa1 ota cOt fot ta0 ta1 ta2 ta3 ta4 ta5 ta6 ta7 ta8 ta9 cB0 fb0 y0 cB1 fb1 y1 cB2 fb2 y2 cB3 fb3 y3 cB4 fb4 y4 cB5 fb5 y5 cB6 fb6 y6 cB7 fb7 y7 cB8 fb8 y8 cB9 fb9 y9 0 0 hol0 hol1 ha0_1 ha1_1 hot0 hot1 hot2 hot3 hot4 hot5 hot6 hot7 hot8 hot9 hb0_0 hb0_3 hb1_0 hb1_3 hb2_0 hb2_3 hb3_0 hb3_3 hb4_0 hb4_3 hb5_0 hb5_3 hb6_0 hb6_3 hb7_0 hb7_3 hb8_0 hb8_3 hb9_0 hb9_3) (cwV 2 hts gX7_next_X7_atHand rfl rfl rfl (by decide +kernel) ⟨Nat.le_of_ble_eq_true rfl, Nat.le_of_ble_eq_true rfl⟩) ⟨zb_blind, va_recv hK hR0 (ci := 9) (q0 := 0) rfl rfl, fun U hU hW => ⟨rfl, zb_mk hU hW hPr hPc hKc hDc hN hH hS hFc zx_e⟩⟩ rfl rfl hl.1 rfl (lv_room (Nat.le_of_ble_eq_true rfl)) dX7_next_3 ⟨Nat.le_of_ble_eq_true rfl, Nat.le_of_ble_eq_true rfl⟩) hS (fun q _ h => hFc q h) hFc (fun r2 u t H1 locs ht hvm hw hB hz1 hk1 hS => ?_)
  have w3 := hw
  have hP := zo_K hP hk1
  refine lv_istore_n (lv' := [(3, .int r2), (0, .ref mr), (1, .int 0), (2, .int 0)]) hx hb dX7_next_6 rfl hl (by decide) rfl (fun ls hl => ?_)
  refine lv_iconst (v := 0) hx hb dX7_next_7 (by decide) ?_
  refine lv_istore (lv' := [(4, .int 0), (3, .int r2), (0, .ref mr), (1, .int 0), (2, .int 0)]) hx hb dX7_next_8 hl (by decide) rfl (fun ls hl => ?_)
  refine lv_iconst (v := 0) hx hb dX7_next_10 (by decide) ?_
  refine lv_istore (lv' := [(5, .int 0), (4, .int 0), (3, .int r2), (0, .ref mr), (1, .int 0), (2, .int 0)]) hx hb dX7_next_11 hl (by decide) rfl (fun ls hl => ?_)
  refine lv_iload hx hb dX7_next_13 (lv_at hl 0 rfl) ?_
  refine lv_aload_n hx hb dX7_next_15 rfl (lv_at hl 3 rfl) ?_
  refine va_get (D := (dC, dI)) (ci := 9) (v := .ref ll) (C := RX7) (T := TX7) (N := 14) hx hb hts zi_X7_next_X7 hown hK (zo_R hR0 hS hAr) 0 rfl rfl 0 (by decide) (hts (.fieldLink RX7 12 "LockRoomsModel$Room" "locks" "Ljava/util/ArrayList;") (by decide +kernel)) (fun _ h9 => h9) rfl dX7_next_16 ?_
  have hPr := ((zo_R hR0 hS hAr)).sub (ws' := [(ll, .inr (1, [.int 2, .ref ola, .int 2]))]) [1] rfl
  have hPc := hP.sub (ws' := []) [] rfl
  have hDc := hD.sub (ws' := []) [] (by decide) rfl
  have hKc := hK.sub (tys' := []) [] rfl
  have hFc := va_free (wc := []) hD hS hA [] rfl
  refine va_calli (va_runV (As := []) (rest := [.int 0]) ⟨hx, hb, hml, hown, hts⟩ (cz_Qsize l dC dI ed H1.size ll 2 ola 2) (cwV 0 hts gX7_next_Jx4a65c_size_8abf5 rfl rfl rfl (by decide +kernel) ⟨Nat.le_of_ble_eq_true rfl, Nat.le_of_ble_eq_true rfl⟩) ⟨zb_blind, va_recv hK (zo_R hR0 hS hAr) (ci := 1) (q0 := 1) rfl rfl, fun U hU hW => ⟨rfl, zb_mk hU hW hPr hPc hKc hDc hN hH hS hFc zx_e⟩⟩ rfl rfl hl.1 rfl (lv_room (Nat.le_of_ble_eq_true rfl)) dX7_next_19 ⟨Nat.le_of_ble_eq_true rfl, Nat.le_of_ble_eq_true rfl⟩) hS (fun q _ h => hFc q h) hFc (fun r5 u t H4 locs ht hvm hw hB hz1 hk1 hS => ?_)
  obtain rfl : r5 = 2 := hw.trans (by decide +kernel)
  have hP := zo_K hP hk1
  refine lv_icmp_ge (tgt := 82) hx hb dX7_next_22 (by decide) (fun h => absurd h (by decide)) (fun _ => ?_)
  refine lv_aload_n hx hb dX7_next_25 rfl (lv_at hl 3 rfl) ?_
  refine va_get (D := (dC, dI)) (ci := 9) (v := .ref ll) (C := RX7) (T := TX7) (N := 14) hx hb hts zi_X7_next_X7 hown hK (zo_R hR0 hS hAr) 0 rfl rfl 0 (by decide) (hts (.fieldLink RX7 12 "LockRoomsModel$Room" "locks" "Ljava/util/ArrayList;") (by decide +kernel)) (fun _ h9 => h9) rfl dX7_next_26 ?_
  refine lv_iload hx hb dX7_next_29 (lv_at hl 0 rfl) ?_
  have hPr := ((zo_R hR0 hS hAr)).sub (ws' := [(ll, .inr (1, [.int 2, .ref ola, .int 2])), (ola, .inl (cOl, 10, .inr (.inr (.inr (.inr fol)))))]) [1, 2] rfl
  have hPc := hP.sub (ws' := []) [] rfl
  have hDc := hD.sub (ws' := []) [] (by decide) rfl
  have hKc := hK.sub (tys' := [(cOl, .object "java/lang/Object")]) [0] rfl
  have hFc := va_free (wc := []) hD hS hA [] rfl
  refine va_callr (va_runV (As := [.int 0]) (rest := []) ⟨hx, hb, hml, hown, hts⟩ (cz_Qget_0_2 l dC dI ed H4.size ll 2 ola cOl fol la0 hol0) (cwV 1 hts gX7_next_Jx4a65c_get_915e3 rfl rfl rfl (by decide +kernel) ⟨Nat.le_of_ble_eq_true rfl, Nat.le_of_ble_eq_true rfl⟩) ⟨zb_blind, va_recv hK (zo_R hR0 hS hAr) (ci := 1) (q0 := 1) rfl rfl, fun U hU hW => ⟨rfl, zb_mk hU hW hPr hPc hKc hDc hN hH hS hFc zx_e⟩⟩ rfl rfl hl.1 rfl (lv_room (Nat.le_of_ble_eq_true rfl)) dX7_next_31 ⟨Nat.le_of_ble_eq_true rfl, Nat.le_of_ble_eq_true rfl⟩) hS (fun q _ h => hFc q h) hFc (fun u r7 t H6 locs ht hvm hw hB hz1 hk1 hS => ?_)
  obtain ⟨hq8_0, hP1, hD1, hK1⟩ := hB
  rw [ht] at hP1
  obtain ⟨hP, hD⟩ := va_join (wr := []) (w1 := []) hP hD [] [] rfl rfl (by decide) (by decide) hk1 hFc hP1 hD1
  have hP : va_P (dC, dI) vwCl [] H6 := hP
  have hD : va_D A [] := hD
  obtain rfl : la0 = r7 := hq8_0.symm
  refine va_castA (nm := "[I") hx hb hown (hts (.classLink RX7 46 "[I") (by decide +kernel)) (zo_R hR0 hS hAr) 3 rfl (show s.vm.findClass "[I" = some cA0 from (hK.2 1 _ rfl).2) dX7_next_34 ?_
  refine lv_astore (lv' := [(6, .ref la0), (5, .int 0), (4, .int 0), (3, .int r2), (0, .ref mr), (1, .int 0), (2, .int 0)]) hx hb dX7_next_37 hl (by decide) rfl (fun ls hl => ?_)
  refine lv_iload_n hx hb dX7_next_39 rfl (lv_at hl 5 rfl) ?_
  refine lv_iload hx hb dX7_next_40 (lv_at hl 1 rfl) ?_
  refine lv_ishr hx hb dX7_next_42 ?_
  refine zo_i (v := 0) (by decide) ?_
  refine lv_iconst (v := 1) hx hb dX7_next_43 (by decide) ?_
  refine lv_iand hx hb dX7_next_44 ?_
  refine zo_i (v := 0) q_0and ?_
  refine lv_if_ne (tgt := 76) hx hb dX7_next_45 (by decide) (fun h => absurd h (by decide)) (fun _ => ?_)
  refine lv_aload hx hb dX7_next_48 (lv_at hl 0 rfl) ?_
  refine lv_bipush (v := 8) hx hb dX7_next_50 (by decide) ?_
  refine va_iald hx hb hK (zo_R hR0 hS hAr) 3 1 rfl rfl (by unfold vp_in; decide) dX7_next_52 ?_
  refine zo_i (v := 0) (by rw [show Int32.toNatClampNeg 8 = 8 from by decide]; exact ha0_8) ?_
  refine lv_if_ne (tgt := 76) hx hb dX7_next_53 (by decide) (fun h => absurd h (by decide)) (fun _ => ?_)
  refine lv_aload hx hb dX7_next_56 (lv_at hl 0 rfl) ?_
  refine lv_iconst (v := 0) hx hb dX7_next_58 (by decide) ?_
  refine va_iald hx hb hK (zo_R hR0 hS hAr) 3 1 rfl rfl (by unfold vp_in; decide) dX7_next_59 ?_
  refine zo_i (v := 0) (by rw [show Int32.toNatClampNeg 0 = 0 from by decide]; exact ha0_0) ?_
  refine lv_iload_n hx hb dX7_next_60 rfl (lv_at hl 3 rfl) ?_
  refine lv_iconst (v := (-1)) hx hb dX7_next_61 (by decide) ?_
  refine lv_ixor hx hb dX7_next_62 ?_
  refine lv_iand hx hb dX7_next_63 ?_
  refine zo_i (v := 0) q_0and ?_
  refine lv_if_ne (tgt := 76) hx hb dX7_next_64 (by decide) (fun h => absurd h (by decide)) (fun _ => ?_)
  refine lv_iload hx hb dX7_next_67 (lv_at hl 2 rfl) ?_
  refine lv_iconst (v := 1) hx hb dX7_next_69 (by decide) ?_
  refine lv_iload hx hb dX7_next_70 (lv_at hl 1 rfl) ?_
  refine lv_ishl hx hb dX7_next_72 ?_
  refine zo_i (v := 1) (by decide) ?_
  refine lv_ior hx hb dX7_next_73 ?_
  refine zo_i (v := 1) (by decide) ?_
  refine lv_istore (lv' := [(4, .int 1), (6, .ref la0), (5, .int 0), (3, .int r2), (0, .ref mr), (1, .int 0), (2, .int 0)]) hx hb dX7_next_74 hl (by decide) rfl (fun ls hl => ?_)
  refine lv_iinc (v := 1) (lv' := [(5, .int 1), (4, .int 1), (6, .ref la0), (3, .int r2), (0, .ref mr), (1, .int 0), (2, .int 0)]) hx hb dX7_next_76 hl (k := 2) rfl (by decide) (by decide) rfl (fun ls hl => ?_)
  refine lv_goto (tgt := 13) hx hb dX7_next_79 (by decide) ?_
  refine lv_iload hx hb dX7_next_13 (lv_at hl 0 rfl) ?_
  refine lv_aload_n hx hb dX7_next_15 rfl (lv_at hl 4 rfl) ?_
  refine va_get (D := (dC, dI)) (ci := 9) (v := .ref ll) (C := RX7) (T := TX7) (N := 14) hx hb hts zi_X7_next_X7 hown hK (zo_R hR0 hS hAr) 0 rfl rfl 0 (by decide) (hts (.fieldLink RX7 12 "LockRoomsModel$Room" "locks" "Ljava/util/ArrayList;") (by decide +kernel)) (fun _ h9 => h9) rfl dX7_next_16 ?_
  have hPr := ((zo_R hR0 hS hAr)).sub (ws' := [(ll, .inr (1, [.int 2, .ref ola, .int 2]))]) [1] rfl
  have hPc := hP.sub (ws' := []) [] rfl
  have hDc := hD.sub (ws' := []) [] (by decide) rfl
  have hKc := hK.sub (tys' := []) [] rfl
  have hFc := va_free (wc := []) hD hS hA [] rfl
  refine va_calli (va_runV (As := []) (rest := [.int 1]) ⟨hx, hb, hml, hown, hts⟩ (cz_Qsize l dC dI ed H6.size ll 2 ola 2) (cwV 0 hts gX7_next_Jx4a65c_size_8abf5 rfl rfl rfl (by decide +kernel) ⟨Nat.le_of_ble_eq_true rfl, Nat.le_of_ble_eq_true rfl⟩) ⟨zb_blind, va_recv hK (zo_R hR0 hS hAr) (ci := 1) (q0 := 1) rfl rfl, fun U hU hW => ⟨rfl, zb_mk hU hW hPr hPc hKc hDc hN hH hS hFc zx_e⟩⟩ rfl rfl hl.1 rfl (lv_room (Nat.le_of_ble_eq_true rfl)) dX7_next_19 ⟨Nat.le_of_ble_eq_true rfl, Nat.le_of_ble_eq_true rfl⟩) hS (fun q _ h => hFc q h) hFc (fun r10 u t H9 locs ht hvm hw hB hz1 hk1 hS => ?_)
  obtain rfl : r10 = 2 := hw.trans (by decide +kernel)
  have hP := zo_K hP hk1
  refine lv_icmp_ge (tgt := 82) hx hb dX7_next_22 (by decide) (fun h => absurd h (by decide)) (fun _ => ?_)
  refine lv_aload_n hx hb dX7_next_25 rfl (lv_at hl 4 rfl) ?_
  refine va_get (D := (dC, dI)) (ci := 9) (v := .ref ll) (C := RX7) (T := TX7) (N := 14) hx hb hts zi_X7_next_X7 hown hK (zo_R hR0 hS hAr) 0 rfl rfl 0 (by decide) (hts (.fieldLink RX7 12 "LockRoomsModel$Room" "locks" "Ljava/util/ArrayList;") (by decide +kernel)) (fun _ h9 => h9) rfl dX7_next_26 ?_
  refine lv_iload hx hb dX7_next_29 (lv_at hl 0 rfl) ?_
  have hPr := ((zo_R hR0 hS hAr)).sub (ws' := [(ll, .inr (1, [.int 2, .ref ola, .int 2])), (ola, .inl (cOl, 10, .inr (.inr (.inr (.inr fol)))))]) [1, 2] rfl
  have hPc := hP.sub (ws' := []) [] rfl
  have hDc := hD.sub (ws' := []) [] (by decide) rfl
  have hKc := hK.sub (tys' := [(cOl, .object "java/lang/Object")]) [0] rfl
  have hFc := va_free (wc := []) hD hS hA [] rfl
  refine va_callr (va_runV (As := [.int 1]) (rest := []) ⟨hx, hb, hml, hown, hts⟩ (cz_Qget_1_2 l dC dI ed H9.size ll 2 ola cOl fol la1 hol1) (cwV 1 hts gX7_next_Jx4a65c_get_915e3 rfl rfl rfl (by decide +kernel) ⟨Nat.le_of_ble_eq_true rfl, Nat.le_of_ble_eq_true rfl⟩) ⟨zb_blind, va_recv hK (zo_R hR0 hS hAr) (ci := 1) (q0 := 1) rfl rfl, fun U hU hW => ⟨rfl, zb_mk hU hW hPr hPc hKc hDc hN hH hS hFc zx_e⟩⟩ rfl rfl hl.1 rfl (lv_room (Nat.le_of_ble_eq_true rfl)) dX7_next_31 ⟨Nat.le_of_ble_eq_true rfl, Nat.le_of_ble_eq_true rfl⟩) hS (fun q _ h => hFc q h) hFc (fun u r12 t H11 locs ht hvm hw hB hz1 hk1 hS => ?_)
  obtain ⟨hq13_0, hP1, hD1, hK1⟩ := hB
  rw [ht] at hP1
  obtain ⟨hP, hD⟩ := va_join (wr := []) (w1 := []) hP hD [] [] rfl rfl (by decide) (by decide) hk1 hFc hP1 hD1
  have hP : va_P (dC, dI) vwCl [] H11 := hP
  have hD : va_D A [] := hD
  obtain rfl : la1 = r12 := hq13_0.symm
  refine va_castA (nm := "[I") hx hb hown (hts (.classLink RX7 46 "[I") (by decide +kernel)) (zo_R hR0 hS hAr) 4 rfl (show s.vm.findClass "[I" = some cA1 from (hK.2 2 _ rfl).2) dX7_next_34 ?_
  refine lv_astore (lv' := [(6, .ref la1), (5, .int 1), (4, .int 1), (3, .int r2), (0, .ref mr), (1, .int 0), (2, .int 0)]) hx hb dX7_next_37 hl (by decide) rfl (fun ls hl => ?_)
  refine lv_iload_n hx hb dX7_next_39 rfl (lv_at hl 5 rfl) ?_
  refine lv_iload hx hb dX7_next_40 (lv_at hl 1 rfl) ?_
  refine lv_ishr hx hb dX7_next_42 ?_
  refine zo_i (v := 0) (by decide) ?_
  refine lv_iconst (v := 1) hx hb dX7_next_43 (by decide) ?_
  refine lv_iand hx hb dX7_next_44 ?_
  refine zo_i (v := 0) q_0and ?_
  refine lv_if_ne (tgt := 76) hx hb dX7_next_45 (by decide) (fun h => absurd h (by decide)) (fun _ => ?_)
  refine lv_aload hx hb dX7_next_48 (lv_at hl 0 rfl) ?_
  refine lv_bipush (v := 8) hx hb dX7_next_50 (by decide) ?_
  refine va_iald hx hb hK (zo_R hR0 hS hAr) 4 2 rfl rfl (by unfold vp_in; decide) dX7_next_52 ?_
  refine zo_i (v := 0) (by rw [show Int32.toNatClampNeg 8 = 8 from by decide]; exact ha1_8) ?_
  refine lv_if_ne (tgt := 76) hx hb dX7_next_53 (by decide) (fun h => absurd h (by decide)) (fun _ => ?_)
  refine lv_aload hx hb dX7_next_56 (lv_at hl 0 rfl) ?_
  refine lv_iconst (v := 0) hx hb dX7_next_58 (by decide) ?_
  refine va_iald hx hb hK (zo_R hR0 hS hAr) 4 2 rfl rfl (by unfold vp_in; decide) dX7_next_59 ?_
  refine zo_i (v := 0) (by rw [show Int32.toNatClampNeg 0 = 0 from by decide]; exact ha1_0) ?_
  refine lv_iload_n hx hb dX7_next_60 rfl (lv_at hl 3 rfl) ?_
  refine lv_iconst (v := (-1)) hx hb dX7_next_61 (by decide) ?_
  refine lv_ixor hx hb dX7_next_62 ?_
  refine lv_iand hx hb dX7_next_63 ?_
  refine zo_i (v := 0) q_0and ?_
  refine lv_if_ne (tgt := 76) hx hb dX7_next_64 (by decide) (fun h => absurd h (by decide)) (fun _ => ?_)
  refine lv_iload hx hb dX7_next_67 (lv_at hl 2 rfl) ?_
  refine lv_iconst (v := 1) hx hb dX7_next_69 (by decide) ?_
  refine lv_iload hx hb dX7_next_70 (lv_at hl 1 rfl) ?_
  refine lv_ishl hx hb dX7_next_72 ?_
  refine zo_i (v := 2) (by decide) ?_
  refine lv_ior hx hb dX7_next_73 ?_
  refine zo_i (v := 3) (by decide) ?_
  refine lv_istore (lv' := [(4, .int 3), (6, .ref la1), (5, .int 1), (3, .int r2), (0, .ref mr), (1, .int 0), (2, .int 0)]) hx hb dX7_next_74 hl (by decide) rfl (fun ls hl => ?_)
  refine lv_iinc (v := 2) (lv' := [(5, .int 2), (4, .int 3), (6, .ref la1), (3, .int r2), (0, .ref mr), (1, .int 0), (2, .int 0)]) hx hb dX7_next_76 hl (k := 2) rfl (by decide) (by decide) rfl (fun ls hl => ?_)
  refine lv_goto (tgt := 13) hx hb dX7_next_79 (by decide) ?_
  refine lv_iload hx hb dX7_next_13 (lv_at hl 0 rfl) ?_
  refine lv_aload_n hx hb dX7_next_15 rfl (lv_at hl 4 rfl) ?_
  refine va_get (D := (dC, dI)) (ci := 9) (v := .ref ll) (C := RX7) (T := TX7) (N := 14) hx hb hts zi_X7_next_X7 hown hK (zo_R hR0 hS hAr) 0 rfl rfl 0 (by decide) (hts (.fieldLink RX7 12 "LockRoomsModel$Room" "locks" "Ljava/util/ArrayList;") (by decide +kernel)) (fun _ h9 => h9) rfl dX7_next_16 ?_
  have hPr := ((zo_R hR0 hS hAr)).sub (ws' := [(ll, .inr (1, [.int 2, .ref ola, .int 2]))]) [1] rfl
  have hPc := hP.sub (ws' := []) [] rfl
  have hDc := hD.sub (ws' := []) [] (by decide) rfl
  have hKc := hK.sub (tys' := []) [] rfl
  have hFc := va_free (wc := []) hD hS hA [] rfl
  refine va_calli (va_runV (As := []) (rest := [.int 2]) ⟨hx, hb, hml, hown, hts⟩ (cz_Qsize l dC dI ed H11.size ll 2 ola 2) (cwV 0 hts gX7_next_Jx4a65c_size_8abf5 rfl rfl rfl (by decide +kernel) ⟨Nat.le_of_ble_eq_true rfl, Nat.le_of_ble_eq_true rfl⟩) ⟨zb_blind, va_recv hK (zo_R hR0 hS hAr) (ci := 1) (q0 := 1) rfl rfl, fun U hU hW => ⟨rfl, zb_mk hU hW hPr hPc hKc hDc hN hH hS hFc zx_e⟩⟩ rfl rfl hl.1 rfl (lv_room (Nat.le_of_ble_eq_true rfl)) dX7_next_19 ⟨Nat.le_of_ble_eq_true rfl, Nat.le_of_ble_eq_true rfl⟩) hS (fun q _ h => hFc q h) hFc (fun r15 u t H14 locs ht hvm hw hB hz1 hk1 hS => ?_)
  obtain rfl : r15 = 2 := hw.trans (by decide +kernel)
  have hP := zo_K hP hk1
  refine lv_icmp_ge (tgt := 82) hx hb dX7_next_22 (by decide) (fun _ => ?_) (fun h => absurd h (by decide))
  refine lv_iload hx hb dX7_next_82 (lv_at hl 1 rfl) ?_
  refine W.widen (k := 0) (n := 0) (Nat.le_of_ble_eq_true rfl) (Nat.le_of_ble_eq_true rfl) ?_
  exact W.iret hx hb hr (fun t ht hW => ⟨⟨3, (), rfl, rfl, trivial⟩, hS.F ht⟩) hS.2.2 dX7_next_84
set_option maxHeartbeats 4000000 in
set_option maxRecDepth 100000 in
theorem cz_Qnext7_1 (l : Launch) (dC : Nat → ClassId) (dI : Nat → Nat → Nat) (ed sz : Nat) (mr : Nat) (ll : Nat) (lt : Nat) (lp : Nat) (ola : Nat) (cOl : ClassId) (fol : Nat → Option Nat) (la0 : Nat) (la1 : Nat) (cA0 : ClassId) (fa0 : Nat → Int32) (cA1 : ClassId) (fa1 : Nat → Int32) (ota : Nat) (cOt : ClassId) (fot : Nat → Option Nat) (ta0 : Nat) (ta1 : Nat) (ta2 : Nat) (ta3 : Nat) (ta4 : Nat) (ta5 : Nat) (ta6 : Nat) (ta7 : Nat) (ta8 : Nat) (ta9 : Nat) (cB0 : ClassId) (fb0 : Nat → Int32) (y0 : Int32) (cB1 : ClassId) (fb1 : Nat → Int32) (y1 : Int32) (cB2 : ClassId) (fb2 : Nat → Int32) (y2 : Int32) (cB3 : ClassId) (fb3 : Nat → Int32) (y3 : Int32) (cB4 : ClassId) (fb4 : Nat → Int32) (y4 : Int32) (cB5 : ClassId) (fb5 : Nat → Int32) (y5 : Int32) (cB6 : ClassId) (fb6 : Nat → Int32) (y6 : Int32) (cB7 : ClassId) (fb7 : Nat → Int32) (y7 : Int32) (cB8 : ClassId) (fb8 : Nat → Int32) (y8 : Int32) (cB9 : ClassId) (fb9 : Nat → Int32) (y9 : Int32) (hol0 : fol 0 = some la0) (hol1 : fol 1 = some la1) (ha0_0 : fa0 0 = 0) (ha0_1 : fa0 1 = 0) (ha0_8 : fa0 8 = 0) (ha1_0 : fa1 0 = 0) (ha1_1 : fa1 1 = 0) (ha1_8 : fa1 8 = 0) (hot0 : fot 0 = some ta0) (hot1 : fot 1 = some ta1) (hot2 : fot 2 = some ta2) (hot3 : fot 3 = some ta3) (hot4 : fot 4 = some ta4) (hot5 : fot 5 = some ta5) (hot6 : fot 6 = some ta6) (hot7 : fot 7 = some ta7) (hot8 : fot 8 = some ta8) (hot9 : fot 9 = some ta9) (hb0_0 : fb0 0 = (-1)) (hb0_3 : fb0 3 = y0) (hb1_0 : fb1 0 = (-1)) (hb1_3 : fb1 3 = y1) (hb2_0 : fb2 0 = (-1)) (hb2_3 : fb2 3 = y2) (hb3_0 : fb3 0 = (-1)) (hb3_3 : fb3 3 = y3) (hb4_0 : fb4 0 = (-1)) (hb4_3 : fb4 3 = y4) (hb5_0 : fb5 0 = (-1)) (hb5_3 : fb5 3 = y5) (hb6_0 : fb6 0 = (-1)) (hb6_3 : fb6 3 = y6) (hb7_0 : fb7 0 = (-1)) (hb7_3 : fb7 3 = y7) (hb8_0 : fb8 0 = (-1)) (hb8_3 : fb8 3 = y8) (hb9_0 : fb9 0 = (-1)) (hb9_3 : fb9 3 = y9) : Met l yX7_next wsX7_next ({ frames := 4, cells := 0, slots := 0, locals := 90 } : Jvm.Room) (va_Pc [.ref mr, .int 1, .int 0] (zB dC dI ed sz [(mr, .inr (9, [.ref ll, .ref lt, .ref lp, .int 0, .int 0, .int 0, .int 0, .int 0, .int 0, .int 0, .int (-1), .int 0, .int 0, .int 0])), (ll, .inr (1, [.int 2, .ref ola, .int 2])), (ola, .inl (cOl, 10, .inr (.inr (.inr (.inr fol))))), (la0, .inl (cA0, 10, .inl fa0)), (la1, .inl (cA1, 10, .inl fa1)), (lt, .inr (1, [.int 10, .ref ota, .int 10])), (ota, .inl (cOt, 10, .inr (.inr (.inr (.inr fot))))), (ta0, .inl (cB0, 5, .inl fb0)), (ta1, .inl (cB1, 5, .inl fb1)), (ta2, .inl (cB2, 5, .inl fb2)), (ta3, .inl (cB3, 5, .inl fb3)), (ta4, .inl (cB4, 5, .inl fb4)), (ta5, .inl (cB5, 5, .inl fb5)), (ta6, .inl (cB6, 5, .inl fb6)), (ta7, .inl (cB7, 5, .inl fb7)), (ta8, .inl (cB8, 5, .inl fb8)), (ta9, .inl (cB9, 5, .inl fb9))] [] [(cOl, .object "java/lang/Object"), (cA0, .int), (cA1, .int), (cOt, .object "java/lang/Object"), (cB0, .int), (cB1, .int), (cB2, .int), (cB3, .int), (cB4, .int), (cB5, .int), (cB6, .int), (cB7, .int), (cB8, .int), (cB9, .int)])) (va_Qi (fun (r : Int32) (_ : Unit) => r = 2) (fun (_ : Unit) (_ : State) => True) (va_A [] sz)) 0 0 (va_A [] sz) := by
  refine Met.ofW (cc := cX7_next) (maxL := 7) (ret := (some .int)) (by decide) rfl ?_
  intro p e s m args below meth c s₁ B hml hv
  obtain ⟨rfl, hsz, hR0, hP, hK, hD0, hN, hH, hX0⟩ := hv
  have hx := B.exec
  have hb := B.bytes
  have hr := B.returns
  have hts := atoms_spec (ws := wsX7_next) B.pre
  have hown : s.vm.findClass RX7 = some m.cls := findClass_of_methodNamed B.named
  have hlocks := B.notSynchronized
  subst hsz
  have hD := hD0.self (sz := s.heap.size)
  have hAr := zx_A hX0 hR0
  generalize hAe : va_A [] s.heap.size = A at hD hAr hH ⊢
  have hA : ∀ q : Nat, s.heap.size ≤ q → A q := fun q h => by rw [← hAe]; exact Or.inr h
  have hS : va_S A s.heap s.heap [] := va_S.rf
  have hl := lv_entry ([.ref mr, .int 1, .int 0]) (n := 7) (Nat.le_of_ble_eq_true rfl)
  rw [lg_entry_eq]
  generalize (lg_sl ([.ref mr, .int 1, .int 0]) ++ List.replicate (7 - (lg_sl ([.ref mr, .int 1, .int 0])).length) Slot.unset).toArray = ls at hl ⊢
  have hl : lv_has ls 7 [(0, .ref mr), (1, .int 1), (2, .int 0)] := hl
  refine lv_aload_n hx hb dX7_next_0 rfl (lv_at hl 0 rfl) ?_
  refine lv_iload_n hx hb dX7_next_1 rfl (lv_at hl 1 rfl) ?_
  refine lv_iload_n hx hb dX7_next_2 rfl (lv_at hl 2 rfl) ?_
  have hPr := (hR0).sub (ws' := [(mr, .inr (9, [.ref ll, .ref lt, .ref lp, .int 0, .int 0, .int 0, .int 0, .int 0, .int 0, .int 0, .int (-1), .int 0, .int 0, .int 0])), (ll, .inr (1, [.int 2, .ref ola, .int 2])), (ola, .inl (cOl, 10, .inr (.inr (.inr (.inr fol))))), (la0, .inl (cA0, 10, .inl fa0)), (la1, .inl (cA1, 10, .inl fa1)), (lt, .inr (1, [.int 10, .ref ota, .int 10])), (ota, .inl (cOt, 10, .inr (.inr (.inr (.inr fot))))), (ta0, .inl (cB0, 5, .inl fb0)), (ta1, .inl (cB1, 5, .inl fb1)), (ta2, .inl (cB2, 5, .inl fb2)), (ta3, .inl (cB3, 5, .inl fb3)), (ta4, .inl (cB4, 5, .inl fb4)), (ta5, .inl (cB5, 5, .inl fb5)), (ta6, .inl (cB6, 5, .inl fb6)), (ta7, .inl (cB7, 5, .inl fb7)), (ta8, .inl (cB8, 5, .inl fb8)), (ta9, .inl (cB9, 5, .inl fb9))]) [0, 1, 2, 3, 4, 5, 6, 7, 8, 9, 10, 11, 12, 13, 14, 15, 16] rfl
  have hPc := hP.sub (ws' := []) [] rfl
  have hDc := hD.sub (ws' := []) [] (by decide) rfl
  have hKc := hK.sub (tys' := [(cOl, .object "java/lang/Object"), (cA0, .int), (cA1, .int), (cOt, .object "java/lang/Object"), (cB0, .int), (cB1, .int), (cB2, .int), (cB3, .int), (cB4, .int), (cB5, .int), (cB6, .int), (cB7, .int), (cB8, .int), (cB9, .int)]) [0, 1, 2, 3, 4, 5, 6, 7, 8, 9, 10, 11, 12, 13] rfl
  have hFc := va_free (wc := []) hD hS hA [] rfl
  refine va_calli (va_runV (As := [.int 1, .int 0]) (rest := []) ⟨hx, hb, hml, hown, hts⟩ (cz_QatHand l dC dI ed s.heap.size mr ll lt lp ola cOl fol la0 la1 cA0 fa0 cA1 fa1 ota cOt fot ta0 ta1 ta2 ta3 ta4 ta5 ta6 ta7 ta8 ta9 cB0 fb0 y0 cB1 fb1 y1 cB2 fb2 y2 cB3 fb3 y3 cB4 fb4 y4 cB5 fb5 y5 cB6 fb6 y6 cB7 fb7 y7 cB8 fb8 y8 cB9 fb9 y9 1 0 hol0 hol1 ha0_1 ha1_1 hot0 hot1 hot2 hot3 hot4 hot5 hot6 hot7 hot8 hot9 hb0_0 hb0_3 hb1_0 hb1_3 hb2_0 hb2_3 hb3_0 hb3_3 hb4_0 hb4_3 hb5_0 hb5_3 hb6_0 hb6_3 hb7_0 hb7_3 hb8_0 hb8_3 hb9_0 hb9_3) (cwV 2 hts gX7_next_X7_atHand rfl rfl rfl (by decide +kernel) ⟨Nat.le_of_ble_eq_true rfl, Nat.le_of_ble_eq_true rfl⟩) ⟨zb_blind, va_recv hK hR0 (ci := 9) (q0 := 0) rfl rfl, fun U hU hW => ⟨rfl, zb_mk hU hW hPr hPc hKc hDc hN hH hS hFc zx_e⟩⟩ rfl rfl hl.1 rfl (lv_room (Nat.le_of_ble_eq_true rfl)) dX7_next_3 ⟨Nat.le_of_ble_eq_true rfl, Nat.le_of_ble_eq_true rfl⟩) hS (fun q _ h => hFc q h) hFc (fun r2 u t H1 locs ht hvm hw hB hz1 hk1 hS => ?_)
  have w3 := hw
  have hP := zo_K hP hk1
  refine lv_istore_n (lv' := [(3, .int r2), (0, .ref mr), (1, .int 1), (2, .int 0)]) hx hb dX7_next_6 rfl hl (by decide) rfl (fun ls hl => ?_)
  refine lv_iconst (v := 0) hx hb dX7_next_7 (by decide) ?_
  refine lv_istore (lv' := [(4, .int 0), (3, .int r2), (0, .ref mr), (1, .int 1), (2, .int 0)]) hx hb dX7_next_8 hl (by decide) rfl (fun ls hl => ?_)
  refine lv_iconst (v := 0) hx hb dX7_next_10 (by decide) ?_
  refine lv_istore (lv' := [(5, .int 0), (4, .int 0), (3, .int r2), (0, .ref mr), (1, .int 1), (2, .int 0)]) hx hb dX7_next_11 hl (by decide) rfl (fun ls hl => ?_)
  refine lv_iload hx hb dX7_next_13 (lv_at hl 0 rfl) ?_
  refine lv_aload_n hx hb dX7_next_15 rfl (lv_at hl 3 rfl) ?_
  refine va_get (D := (dC, dI)) (ci := 9) (v := .ref ll) (C := RX7) (T := TX7) (N := 14) hx hb hts zi_X7_next_X7 hown hK (zo_R hR0 hS hAr) 0 rfl rfl 0 (by decide) (hts (.fieldLink RX7 12 "LockRoomsModel$Room" "locks" "Ljava/util/ArrayList;") (by decide +kernel)) (fun _ h9 => h9) rfl dX7_next_16 ?_
  have hPr := ((zo_R hR0 hS hAr)).sub (ws' := [(ll, .inr (1, [.int 2, .ref ola, .int 2]))]) [1] rfl
  have hPc := hP.sub (ws' := []) [] rfl
  have hDc := hD.sub (ws' := []) [] (by decide) rfl
  have hKc := hK.sub (tys' := []) [] rfl
  have hFc := va_free (wc := []) hD hS hA [] rfl
  refine va_calli (va_runV (As := []) (rest := [.int 0]) ⟨hx, hb, hml, hown, hts⟩ (cz_Qsize l dC dI ed H1.size ll 2 ola 2) (cwV 0 hts gX7_next_Jx4a65c_size_8abf5 rfl rfl rfl (by decide +kernel) ⟨Nat.le_of_ble_eq_true rfl, Nat.le_of_ble_eq_true rfl⟩) ⟨zb_blind, va_recv hK (zo_R hR0 hS hAr) (ci := 1) (q0 := 1) rfl rfl, fun U hU hW => ⟨rfl, zb_mk hU hW hPr hPc hKc hDc hN hH hS hFc zx_e⟩⟩ rfl rfl hl.1 rfl (lv_room (Nat.le_of_ble_eq_true rfl)) dX7_next_19 ⟨Nat.le_of_ble_eq_true rfl, Nat.le_of_ble_eq_true rfl⟩) hS (fun q _ h => hFc q h) hFc (fun r5 u t H4 locs ht hvm hw hB hz1 hk1 hS => ?_)
  obtain rfl : r5 = 2 := hw.trans (by decide +kernel)
  have hP := zo_K hP hk1
  refine lv_icmp_ge (tgt := 82) hx hb dX7_next_22 (by decide) (fun h => absurd h (by decide)) (fun _ => ?_)
  refine lv_aload_n hx hb dX7_next_25 rfl (lv_at hl 3 rfl) ?_
  refine va_get (D := (dC, dI)) (ci := 9) (v := .ref ll) (C := RX7) (T := TX7) (N := 14) hx hb hts zi_X7_next_X7 hown hK (zo_R hR0 hS hAr) 0 rfl rfl 0 (by decide) (hts (.fieldLink RX7 12 "LockRoomsModel$Room" "locks" "Ljava/util/ArrayList;") (by decide +kernel)) (fun _ h9 => h9) rfl dX7_next_26 ?_
  refine lv_iload hx hb dX7_next_29 (lv_at hl 0 rfl) ?_
  have hPr := ((zo_R hR0 hS hAr)).sub (ws' := [(ll, .inr (1, [.int 2, .ref ola, .int 2])), (ola, .inl (cOl, 10, .inr (.inr (.inr (.inr fol)))))]) [1, 2] rfl
  have hPc := hP.sub (ws' := []) [] rfl
  have hDc := hD.sub (ws' := []) [] (by decide) rfl
  have hKc := hK.sub (tys' := [(cOl, .object "java/lang/Object")]) [0] rfl
  have hFc := va_free (wc := []) hD hS hA [] rfl
  refine va_callr (va_runV (As := [.int 0]) (rest := []) ⟨hx, hb, hml, hown, hts⟩ (cz_Qget_0_2 l dC dI ed H4.size ll 2 ola cOl fol la0 hol0) (cwV 1 hts gX7_next_Jx4a65c_get_915e3 rfl rfl rfl (by decide +kernel) ⟨Nat.le_of_ble_eq_true rfl, Nat.le_of_ble_eq_true rfl⟩) ⟨zb_blind, va_recv hK (zo_R hR0 hS hAr) (ci := 1) (q0 := 1) rfl rfl, fun U hU hW => ⟨rfl, zb_mk hU hW hPr hPc hKc hDc hN hH hS hFc zx_e⟩⟩ rfl rfl hl.1 rfl (lv_room (Nat.le_of_ble_eq_true rfl)) dX7_next_31 ⟨Nat.le_of_ble_eq_true rfl, Nat.le_of_ble_eq_true rfl⟩) hS (fun q _ h => hFc q h) hFc (fun u r7 t H6 locs ht hvm hw hB hz1 hk1 hS => ?_)
  obtain ⟨hq8_0, hP1, hD1, hK1⟩ := hB
  rw [ht] at hP1
  obtain ⟨hP, hD⟩ := va_join (wr := []) (w1 := []) hP hD [] [] rfl rfl (by decide) (by decide) hk1 hFc hP1 hD1
  have hP : va_P (dC, dI) vwCl [] H6 := hP
  have hD : va_D A [] := hD
  obtain rfl : la0 = r7 := hq8_0.symm
  refine va_castA (nm := "[I") hx hb hown (hts (.classLink RX7 46 "[I") (by decide +kernel)) (zo_R hR0 hS hAr) 3 rfl (show s.vm.findClass "[I" = some cA0 from (hK.2 1 _ rfl).2) dX7_next_34 ?_
  refine lv_astore (lv' := [(6, .ref la0), (5, .int 0), (4, .int 0), (3, .int r2), (0, .ref mr), (1, .int 1), (2, .int 0)]) hx hb dX7_next_37 hl (by decide) rfl (fun ls hl => ?_)
  refine lv_iload_n hx hb dX7_next_39 rfl (lv_at hl 5 rfl) ?_
  refine lv_iload hx hb dX7_next_40 (lv_at hl 1 rfl) ?_
  refine lv_ishr hx hb dX7_next_42 ?_
  refine zo_i (v := 1) (by decide) ?_
  refine lv_iconst (v := 1) hx hb dX7_next_43 (by decide) ?_
  refine lv_iand hx hb dX7_next_44 ?_
  refine zo_i (v := 1) (by decide) ?_
  refine lv_if_ne (tgt := 76) hx hb dX7_next_45 (by decide) (fun _ => ?_) (fun h => absurd h (by decide))
  refine lv_iinc (v := 1) (lv' := [(5, .int 1), (6, .ref la0), (4, .int 0), (3, .int r2), (0, .ref mr), (1, .int 1), (2, .int 0)]) hx hb dX7_next_76 hl (k := 1) rfl (by decide) (by decide) rfl (fun ls hl => ?_)
  refine lv_goto (tgt := 13) hx hb dX7_next_79 (by decide) ?_
  refine lv_iload hx hb dX7_next_13 (lv_at hl 0 rfl) ?_
  refine lv_aload_n hx hb dX7_next_15 rfl (lv_at hl 4 rfl) ?_
  refine va_get (D := (dC, dI)) (ci := 9) (v := .ref ll) (C := RX7) (T := TX7) (N := 14) hx hb hts zi_X7_next_X7 hown hK (zo_R hR0 hS hAr) 0 rfl rfl 0 (by decide) (hts (.fieldLink RX7 12 "LockRoomsModel$Room" "locks" "Ljava/util/ArrayList;") (by decide +kernel)) (fun _ h9 => h9) rfl dX7_next_16 ?_
  have hPr := ((zo_R hR0 hS hAr)).sub (ws' := [(ll, .inr (1, [.int 2, .ref ola, .int 2]))]) [1] rfl
  have hPc := hP.sub (ws' := []) [] rfl
  have hDc := hD.sub (ws' := []) [] (by decide) rfl
  have hKc := hK.sub (tys' := []) [] rfl
  have hFc := va_free (wc := []) hD hS hA [] rfl
  refine va_calli (va_runV (As := []) (rest := [.int 1]) ⟨hx, hb, hml, hown, hts⟩ (cz_Qsize l dC dI ed H6.size ll 2 ola 2) (cwV 0 hts gX7_next_Jx4a65c_size_8abf5 rfl rfl rfl (by decide +kernel) ⟨Nat.le_of_ble_eq_true rfl, Nat.le_of_ble_eq_true rfl⟩) ⟨zb_blind, va_recv hK (zo_R hR0 hS hAr) (ci := 1) (q0 := 1) rfl rfl, fun U hU hW => ⟨rfl, zb_mk hU hW hPr hPc hKc hDc hN hH hS hFc zx_e⟩⟩ rfl rfl hl.1 rfl (lv_room (Nat.le_of_ble_eq_true rfl)) dX7_next_19 ⟨Nat.le_of_ble_eq_true rfl, Nat.le_of_ble_eq_true rfl⟩) hS (fun q _ h => hFc q h) hFc (fun r10 u t H9 locs ht hvm hw hB hz1 hk1 hS => ?_)
  obtain rfl : r10 = 2 := hw.trans (by decide +kernel)
  have hP := zo_K hP hk1
  refine lv_icmp_ge (tgt := 82) hx hb dX7_next_22 (by decide) (fun h => absurd h (by decide)) (fun _ => ?_)
  refine lv_aload_n hx hb dX7_next_25 rfl (lv_at hl 4 rfl) ?_
  refine va_get (D := (dC, dI)) (ci := 9) (v := .ref ll) (C := RX7) (T := TX7) (N := 14) hx hb hts zi_X7_next_X7 hown hK (zo_R hR0 hS hAr) 0 rfl rfl 0 (by decide) (hts (.fieldLink RX7 12 "LockRoomsModel$Room" "locks" "Ljava/util/ArrayList;") (by decide +kernel)) (fun _ h9 => h9) rfl dX7_next_26 ?_
  refine lv_iload hx hb dX7_next_29 (lv_at hl 0 rfl) ?_
  have hPr := ((zo_R hR0 hS hAr)).sub (ws' := [(ll, .inr (1, [.int 2, .ref ola, .int 2])), (ola, .inl (cOl, 10, .inr (.inr (.inr (.inr fol)))))]) [1, 2] rfl
  have hPc := hP.sub (ws' := []) [] rfl
  have hDc := hD.sub (ws' := []) [] (by decide) rfl
  have hKc := hK.sub (tys' := [(cOl, .object "java/lang/Object")]) [0] rfl
  have hFc := va_free (wc := []) hD hS hA [] rfl
  refine va_callr (va_runV (As := [.int 1]) (rest := []) ⟨hx, hb, hml, hown, hts⟩ (cz_Qget_1_2 l dC dI ed H9.size ll 2 ola cOl fol la1 hol1) (cwV 1 hts gX7_next_Jx4a65c_get_915e3 rfl rfl rfl (by decide +kernel) ⟨Nat.le_of_ble_eq_true rfl, Nat.le_of_ble_eq_true rfl⟩) ⟨zb_blind, va_recv hK (zo_R hR0 hS hAr) (ci := 1) (q0 := 1) rfl rfl, fun U hU hW => ⟨rfl, zb_mk hU hW hPr hPc hKc hDc hN hH hS hFc zx_e⟩⟩ rfl rfl hl.1 rfl (lv_room (Nat.le_of_ble_eq_true rfl)) dX7_next_31 ⟨Nat.le_of_ble_eq_true rfl, Nat.le_of_ble_eq_true rfl⟩) hS (fun q _ h => hFc q h) hFc (fun u r12 t H11 locs ht hvm hw hB hz1 hk1 hS => ?_)
  obtain ⟨hq13_0, hP1, hD1, hK1⟩ := hB
  rw [ht] at hP1
  obtain ⟨hP, hD⟩ := va_join (wr := []) (w1 := []) hP hD [] [] rfl rfl (by decide) (by decide) hk1 hFc hP1 hD1
  have hP : va_P (dC, dI) vwCl [] H11 := hP
  have hD : va_D A [] := hD
  obtain rfl : la1 = r12 := hq13_0.symm
  refine va_castA (nm := "[I") hx hb hown (hts (.classLink RX7 46 "[I") (by decide +kernel)) (zo_R hR0 hS hAr) 4 rfl (show s.vm.findClass "[I" = some cA1 from (hK.2 2 _ rfl).2) dX7_next_34 ?_
  refine lv_astore (lv' := [(6, .ref la1), (5, .int 1), (4, .int 0), (3, .int r2), (0, .ref mr), (1, .int 1), (2, .int 0)]) hx hb dX7_next_37 hl (by decide) rfl (fun ls hl => ?_)
  refine lv_iload_n hx hb dX7_next_39 rfl (lv_at hl 5 rfl) ?_
  refine lv_iload hx hb dX7_next_40 (lv_at hl 1 rfl) ?_
  refine lv_ishr hx hb dX7_next_42 ?_
  refine zo_i (v := 0) (by decide) ?_
  refine lv_iconst (v := 1) hx hb dX7_next_43 (by decide) ?_
  refine lv_iand hx hb dX7_next_44 ?_
  refine zo_i (v := 0) q_0and ?_
  refine lv_if_ne (tgt := 76) hx hb dX7_next_45 (by decide) (fun h => absurd h (by decide)) (fun _ => ?_)
  refine lv_aload hx hb dX7_next_48 (lv_at hl 0 rfl) ?_
  refine lv_bipush (v := 8) hx hb dX7_next_50 (by decide) ?_
  refine va_iald hx hb hK (zo_R hR0 hS hAr) 4 2 rfl rfl (by unfold vp_in; decide) dX7_next_52 ?_
  refine zo_i (v := 0) (by rw [show Int32.toNatClampNeg 8 = 8 from by decide]; exact ha1_8) ?_
  refine lv_if_ne (tgt := 76) hx hb dX7_next_53 (by decide) (fun h => absurd h (by decide)) (fun _ => ?_)
  refine lv_aload hx hb dX7_next_56 (lv_at hl 0 rfl) ?_
  refine lv_iconst (v := 0) hx hb dX7_next_58 (by decide) ?_
  refine va_iald hx hb hK (zo_R hR0 hS hAr) 4 2 rfl rfl (by unfold vp_in; decide) dX7_next_59 ?_
  refine zo_i (v := 0) (by rw [show Int32.toNatClampNeg 0 = 0 from by decide]; exact ha1_0) ?_
  refine lv_iload_n hx hb dX7_next_60 rfl (lv_at hl 3 rfl) ?_
  refine lv_iconst (v := (-1)) hx hb dX7_next_61 (by decide) ?_
  refine lv_ixor hx hb dX7_next_62 ?_
  refine lv_iand hx hb dX7_next_63 ?_
  refine zo_i (v := 0) q_0and ?_
  refine lv_if_ne (tgt := 76) hx hb dX7_next_64 (by decide) (fun h => absurd h (by decide)) (fun _ => ?_)
  refine lv_iload hx hb dX7_next_67 (lv_at hl 2 rfl) ?_
  refine lv_iconst (v := 1) hx hb dX7_next_69 (by decide) ?_
  refine lv_iload hx hb dX7_next_70 (lv_at hl 1 rfl) ?_
  refine lv_ishl hx hb dX7_next_72 ?_
  refine zo_i (v := 2) (by decide) ?_
  refine lv_ior hx hb dX7_next_73 ?_
  refine zo_i (v := 2) (by decide) ?_
  refine lv_istore (lv' := [(4, .int 2), (6, .ref la1), (5, .int 1), (3, .int r2), (0, .ref mr), (1, .int 1), (2, .int 0)]) hx hb dX7_next_74 hl (by decide) rfl (fun ls hl => ?_)
  refine lv_iinc (v := 2) (lv' := [(5, .int 2), (4, .int 2), (6, .ref la1), (3, .int r2), (0, .ref mr), (1, .int 1), (2, .int 0)]) hx hb dX7_next_76 hl (k := 2) rfl (by decide) (by decide) rfl (fun ls hl => ?_)
  refine lv_goto (tgt := 13) hx hb dX7_next_79 (by decide) ?_
  refine lv_iload hx hb dX7_next_13 (lv_at hl 0 rfl) ?_
  refine lv_aload_n hx hb dX7_next_15 rfl (lv_at hl 4 rfl) ?_
  refine va_get (D := (dC, dI)) (ci := 9) (v := .ref ll) (C := RX7) (T := TX7) (N := 14) hx hb hts zi_X7_next_X7 hown hK (zo_R hR0 hS hAr) 0 rfl rfl 0 (by decide) (hts (.fieldLink RX7 12 "LockRoomsModel$Room" "locks" "Ljava/util/ArrayList;") (by decide +kernel)) (fun _ h9 => h9) rfl dX7_next_16 ?_
  have hPr := ((zo_R hR0 hS hAr)).sub (ws' := [(ll, .inr (1, [.int 2, .ref ola, .int 2]))]) [1] rfl
  have hPc := hP.sub (ws' := []) [] rfl
  have hDc := hD.sub (ws' := []) [] (by decide) rfl
  have hKc := hK.sub (tys' := []) [] rfl
  have hFc := va_free (wc := []) hD hS hA [] rfl
  refine va_calli (va_runV (As := []) (rest := [.int 2]) ⟨hx, hb, hml, hown, hts⟩ (cz_Qsize l dC dI ed H11.size ll 2 ola 2) (cwV 0 hts gX7_next_Jx4a65c_size_8abf5 rfl rfl rfl (by decide +kernel) ⟨Nat.le_of_ble_eq_true rfl, Nat.le_of_ble_eq_true rfl⟩) ⟨zb_blind, va_recv hK (zo_R hR0 hS hAr) (ci := 1) (q0 := 1) rfl rfl, fun U hU hW => ⟨rfl, zb_mk hU hW hPr hPc hKc hDc hN hH hS hFc zx_e⟩⟩ rfl rfl hl.1 rfl (lv_room (Nat.le_of_ble_eq_true rfl)) dX7_next_19 ⟨Nat.le_of_ble_eq_true rfl, Nat.le_of_ble_eq_true rfl⟩) hS (fun q _ h => hFc q h) hFc (fun r15 u t H14 locs ht hvm hw hB hz1 hk1 hS => ?_)
  obtain rfl : r15 = 2 := hw.trans (by decide +kernel)
  have hP := zo_K hP hk1
  refine lv_icmp_ge (tgt := 82) hx hb dX7_next_22 (by decide) (fun _ => ?_) (fun h => absurd h (by decide))
  refine lv_iload hx hb dX7_next_82 (lv_at hl 1 rfl) ?_
  refine W.widen (k := 0) (n := 0) (Nat.le_of_ble_eq_true rfl) (Nat.le_of_ble_eq_true rfl) ?_
  exact W.iret hx hb hr (fun t ht hW => ⟨⟨2, (), rfl, rfl, trivial⟩, hS.F ht⟩) hS.2.2 dX7_next_84
set_option maxHeartbeats 4000000 in
set_option maxRecDepth 100000 in
theorem cz_Qnext7_2 (l : Launch) (dC : Nat → ClassId) (dI : Nat → Nat → Nat) (ed sz : Nat) (mr : Nat) (ll : Nat) (lt : Nat) (lp : Nat) (ola : Nat) (cOl : ClassId) (fol : Nat → Option Nat) (la0 : Nat) (la1 : Nat) (cA0 : ClassId) (fa0 : Nat → Int32) (cA1 : ClassId) (fa1 : Nat → Int32) (ota : Nat) (cOt : ClassId) (fot : Nat → Option Nat) (ta0 : Nat) (ta1 : Nat) (ta2 : Nat) (ta3 : Nat) (ta4 : Nat) (ta5 : Nat) (ta6 : Nat) (ta7 : Nat) (ta8 : Nat) (ta9 : Nat) (cB0 : ClassId) (fb0 : Nat → Int32) (y0 : Int32) (cB1 : ClassId) (fb1 : Nat → Int32) (y1 : Int32) (cB2 : ClassId) (fb2 : Nat → Int32) (y2 : Int32) (cB3 : ClassId) (fb3 : Nat → Int32) (y3 : Int32) (cB4 : ClassId) (fb4 : Nat → Int32) (y4 : Int32) (cB5 : ClassId) (fb5 : Nat → Int32) (y5 : Int32) (cB6 : ClassId) (fb6 : Nat → Int32) (y6 : Int32) (cB7 : ClassId) (fb7 : Nat → Int32) (y7 : Int32) (cB8 : ClassId) (fb8 : Nat → Int32) (y8 : Int32) (cB9 : ClassId) (fb9 : Nat → Int32) (y9 : Int32) (hol0 : fol 0 = some la0) (hol1 : fol 1 = some la1) (ha0_0 : fa0 0 = 0) (ha0_1 : fa0 1 = 0) (ha0_8 : fa0 8 = 0) (ha1_0 : fa1 0 = 0) (ha1_1 : fa1 1 = 0) (ha1_8 : fa1 8 = 0) (hot0 : fot 0 = some ta0) (hot1 : fot 1 = some ta1) (hot2 : fot 2 = some ta2) (hot3 : fot 3 = some ta3) (hot4 : fot 4 = some ta4) (hot5 : fot 5 = some ta5) (hot6 : fot 6 = some ta6) (hot7 : fot 7 = some ta7) (hot8 : fot 8 = some ta8) (hot9 : fot 9 = some ta9) (hb0_0 : fb0 0 = (-1)) (hb0_3 : fb0 3 = y0) (hb1_0 : fb1 0 = (-1)) (hb1_3 : fb1 3 = y1) (hb2_0 : fb2 0 = (-1)) (hb2_3 : fb2 3 = y2) (hb3_0 : fb3 0 = (-1)) (hb3_3 : fb3 3 = y3) (hb4_0 : fb4 0 = (-1)) (hb4_3 : fb4 3 = y4) (hb5_0 : fb5 0 = (-1)) (hb5_3 : fb5 3 = y5) (hb6_0 : fb6 0 = (-1)) (hb6_3 : fb6 3 = y6) (hb7_0 : fb7 0 = (-1)) (hb7_3 : fb7 3 = y7) (hb8_0 : fb8 0 = (-1)) (hb8_3 : fb8 3 = y8) (hb9_0 : fb9 0 = (-1)) (hb9_3 : fb9 3 = y9) : Met l yX7_next wsX7_next ({ frames := 4, cells := 0, slots := 0, locals := 90 } : Jvm.Room) (va_Pc [.ref mr, .int 2, .int 0] (zB dC dI ed sz [(mr, .inr (9, [.ref ll, .ref lt, .ref lp, .int 0, .int 0, .int 0, .int 0, .int 0, .int 0, .int 0, .int (-1), .int 0, .int 0, .int 0])), (ll, .inr (1, [.int 2, .ref ola, .int 2])), (ola, .inl (cOl, 10, .inr (.inr (.inr (.inr fol))))), (la0, .inl (cA0, 10, .inl fa0)), (la1, .inl (cA1, 10, .inl fa1)), (lt, .inr (1, [.int 10, .ref ota, .int 10])), (ota, .inl (cOt, 10, .inr (.inr (.inr (.inr fot))))), (ta0, .inl (cB0, 5, .inl fb0)), (ta1, .inl (cB1, 5, .inl fb1)), (ta2, .inl (cB2, 5, .inl fb2)), (ta3, .inl (cB3, 5, .inl fb3)), (ta4, .inl (cB4, 5, .inl fb4)), (ta5, .inl (cB5, 5, .inl fb5)), (ta6, .inl (cB6, 5, .inl fb6)), (ta7, .inl (cB7, 5, .inl fb7)), (ta8, .inl (cB8, 5, .inl fb8)), (ta9, .inl (cB9, 5, .inl fb9))] [] [(cOl, .object "java/lang/Object"), (cA0, .int), (cA1, .int), (cOt, .object "java/lang/Object"), (cB0, .int), (cB1, .int), (cB2, .int), (cB3, .int), (cB4, .int), (cB5, .int), (cB6, .int), (cB7, .int), (cB8, .int), (cB9, .int)])) (va_Qi (fun (r : Int32) (_ : Unit) => r = 1) (fun (_ : Unit) (_ : State) => True) (va_A [] sz)) 0 0 (va_A [] sz) := by
  refine Met.ofW (cc := cX7_next) (maxL := 7) (ret := (some .int)) (by decide) rfl ?_
  intro p e s m args below meth c s₁ B hml hv
  obtain ⟨rfl, hsz, hR0, hP, hK, hD0, hN, hH, hX0⟩ := hv
  have hx := B.exec
  have hb := B.bytes
  have hr := B.returns
  have hts := atoms_spec (ws := wsX7_next) B.pre
  have hown : s.vm.findClass RX7 = some m.cls := findClass_of_methodNamed B.named
  have hlocks := B.notSynchronized
  subst hsz
  have hD := hD0.self (sz := s.heap.size)
  have hAr := zx_A hX0 hR0
  generalize hAe : va_A [] s.heap.size = A at hD hAr hH ⊢
  have hA : ∀ q : Nat, s.heap.size ≤ q → A q := fun q h => by rw [← hAe]; exact Or.inr h
  have hS : va_S A s.heap s.heap [] := va_S.rf
  have hl := lv_entry ([.ref mr, .int 2, .int 0]) (n := 7) (Nat.le_of_ble_eq_true rfl)
  rw [lg_entry_eq]
  generalize (lg_sl ([.ref mr, .int 2, .int 0]) ++ List.replicate (7 - (lg_sl ([.ref mr, .int 2, .int 0])).length) Slot.unset).toArray = ls at hl ⊢
  have hl : lv_has ls 7 [(0, .ref mr), (1, .int 2), (2, .int 0)] := hl
  refine lv_aload_n hx hb dX7_next_0 rfl (lv_at hl 0 rfl) ?_
  refine lv_iload_n hx hb dX7_next_1 rfl (lv_at hl 1 rfl) ?_
  refine lv_iload_n hx hb dX7_next_2 rfl (lv_at hl 2 rfl) ?_
  have hPr := (hR0).sub (ws' := [(mr, .inr (9, [.ref ll, .ref lt, .ref lp, .int 0, .int 0, .int 0, .int 0, .int 0, .int 0, .int 0, .int (-1), .int 0, .int 0, .int 0])), (ll, .inr (1, [.int 2, .ref ola, .int 2])), (ola, .inl (cOl, 10, .inr (.inr (.inr (.inr fol))))), (la0, .inl (cA0, 10, .inl fa0)), (la1, .inl (cA1, 10, .inl fa1)), (lt, .inr (1, [.int 10, .ref ota, .int 10])), (ota, .inl (cOt, 10, .inr (.inr (.inr (.inr fot))))), (ta0, .inl (cB0, 5, .inl fb0)), (ta1, .inl (cB1, 5, .inl fb1)), (ta2, .inl (cB2, 5, .inl fb2)), (ta3, .inl (cB3, 5, .inl fb3)), (ta4, .inl (cB4, 5, .inl fb4)), (ta5, .inl (cB5, 5, .inl fb5)), (ta6, .inl (cB6, 5, .inl fb6)), (ta7, .inl (cB7, 5, .inl fb7)), (ta8, .inl (cB8, 5, .inl fb8)), (ta9, .inl (cB9, 5, .inl fb9))]) [0, 1, 2, 3, 4, 5, 6, 7, 8, 9, 10, 11, 12, 13, 14, 15, 16] rfl
  have hPc := hP.sub (ws' := []) [] rfl
  have hDc := hD.sub (ws' := []) [] (by decide) rfl
  have hKc := hK.sub (tys' := [(cOl, .object "java/lang/Object"), (cA0, .int), (cA1, .int), (cOt, .object "java/lang/Object"), (cB0, .int), (cB1, .int), (cB2, .int), (cB3, .int), (cB4, .int), (cB5, .int), (cB6, .int), (cB7, .int), (cB8, .int), (cB9, .int)]) [0, 1, 2, 3, 4, 5, 6, 7, 8, 9, 10, 11, 12, 13] rfl
  have hFc := va_free (wc := []) hD hS hA [] rfl
  refine va_calli (va_runV (As := [.int 2, .int 0]) (rest := []) ⟨hx, hb, hml, hown, hts⟩ (cz_QatHand l dC dI ed s.heap.size mr ll lt lp ola cOl fol la0 la1 cA0 fa0 cA1 fa1 ota cOt fot ta0 ta1 ta2 ta3 ta4 ta5 ta6 ta7 ta8 ta9 cB0 fb0 y0 cB1 fb1 y1 cB2 fb2 y2 cB3 fb3 y3 cB4 fb4 y4 cB5 fb5 y5 cB6 fb6 y6 cB7 fb7 y7 cB8 fb8 y8 cB9 fb9 y9 2 0 hol0 hol1 ha0_1 ha1_1 hot0 hot1 hot2 hot3 hot4 hot5 hot6 hot7 hot8 hot9 hb0_0 hb0_3 hb1_0 hb1_3 hb2_0 hb2_3 hb3_0 hb3_3 hb4_0 hb4_3 hb5_0 hb5_3 hb6_0 hb6_3 hb7_0 hb7_3 hb8_0 hb8_3 hb9_0 hb9_3) (cwV 2 hts gX7_next_X7_atHand rfl rfl rfl (by decide +kernel) ⟨Nat.le_of_ble_eq_true rfl, Nat.le_of_ble_eq_true rfl⟩) ⟨zb_blind, va_recv hK hR0 (ci := 9) (q0 := 0) rfl rfl, fun U hU hW => ⟨rfl, zb_mk hU hW hPr hPc hKc hDc hN hH hS hFc zx_e⟩⟩ rfl rfl hl.1 rfl (lv_room (Nat.le_of_ble_eq_true rfl)) dX7_next_3 ⟨Nat.le_of_ble_eq_true rfl, Nat.le_of_ble_eq_true rfl⟩) hS (fun q _ h => hFc q h) hFc (fun r2 u t H1 locs ht hvm hw hB hz1 hk1 hS => ?_)
  have w3 := hw
  have hP := zo_K hP hk1
  refine lv_istore_n (lv' := [(3, .int r2), (0, .ref mr), (1, .int 2), (2, .int 0)]) hx hb dX7_next_6 rfl hl (by decide) rfl (fun ls hl => ?_)
  refine lv_iconst (v := 0) hx hb dX7_next_7 (by decide) ?_
  refine lv_istore (lv' := [(4, .int 0), (3, .int r2), (0, .ref mr), (1, .int 2), (2, .int 0)]) hx hb dX7_next_8 hl (by decide) rfl (fun ls hl => ?_)
  refine lv_iconst (v := 0) hx hb dX7_next_10 (by decide) ?_
  refine lv_istore (lv' := [(5, .int 0), (4, .int 0), (3, .int r2), (0, .ref mr), (1, .int 2), (2, .int 0)]) hx hb dX7_next_11 hl (by decide) rfl (fun ls hl => ?_)
  refine lv_iload hx hb dX7_next_13 (lv_at hl 0 rfl) ?_
  refine lv_aload_n hx hb dX7_next_15 rfl (lv_at hl 3 rfl) ?_
  refine va_get (D := (dC, dI)) (ci := 9) (v := .ref ll) (C := RX7) (T := TX7) (N := 14) hx hb hts zi_X7_next_X7 hown hK (zo_R hR0 hS hAr) 0 rfl rfl 0 (by decide) (hts (.fieldLink RX7 12 "LockRoomsModel$Room" "locks" "Ljava/util/ArrayList;") (by decide +kernel)) (fun _ h9 => h9) rfl dX7_next_16 ?_
  have hPr := ((zo_R hR0 hS hAr)).sub (ws' := [(ll, .inr (1, [.int 2, .ref ola, .int 2]))]) [1] rfl
  have hPc := hP.sub (ws' := []) [] rfl
  have hDc := hD.sub (ws' := []) [] (by decide) rfl
  have hKc := hK.sub (tys' := []) [] rfl
  have hFc := va_free (wc := []) hD hS hA [] rfl
  refine va_calli (va_runV (As := []) (rest := [.int 0]) ⟨hx, hb, hml, hown, hts⟩ (cz_Qsize l dC dI ed H1.size ll 2 ola 2) (cwV 0 hts gX7_next_Jx4a65c_size_8abf5 rfl rfl rfl (by decide +kernel) ⟨Nat.le_of_ble_eq_true rfl, Nat.le_of_ble_eq_true rfl⟩) ⟨zb_blind, va_recv hK (zo_R hR0 hS hAr) (ci := 1) (q0 := 1) rfl rfl, fun U hU hW => ⟨rfl, zb_mk hU hW hPr hPc hKc hDc hN hH hS hFc zx_e⟩⟩ rfl rfl hl.1 rfl (lv_room (Nat.le_of_ble_eq_true rfl)) dX7_next_19 ⟨Nat.le_of_ble_eq_true rfl, Nat.le_of_ble_eq_true rfl⟩) hS (fun q _ h => hFc q h) hFc (fun r5 u t H4 locs ht hvm hw hB hz1 hk1 hS => ?_)
  obtain rfl : r5 = 2 := hw.trans (by decide +kernel)
  have hP := zo_K hP hk1
  refine lv_icmp_ge (tgt := 82) hx hb dX7_next_22 (by decide) (fun h => absurd h (by decide)) (fun _ => ?_)
  refine lv_aload_n hx hb dX7_next_25 rfl (lv_at hl 3 rfl) ?_
  refine va_get (D := (dC, dI)) (ci := 9) (v := .ref ll) (C := RX7) (T := TX7) (N := 14) hx hb hts zi_X7_next_X7 hown hK (zo_R hR0 hS hAr) 0 rfl rfl 0 (by decide) (hts (.fieldLink RX7 12 "LockRoomsModel$Room" "locks" "Ljava/util/ArrayList;") (by decide +kernel)) (fun _ h9 => h9) rfl dX7_next_26 ?_
  refine lv_iload hx hb dX7_next_29 (lv_at hl 0 rfl) ?_
  have hPr := ((zo_R hR0 hS hAr)).sub (ws' := [(ll, .inr (1, [.int 2, .ref ola, .int 2])), (ola, .inl (cOl, 10, .inr (.inr (.inr (.inr fol)))))]) [1, 2] rfl
  have hPc := hP.sub (ws' := []) [] rfl
  have hDc := hD.sub (ws' := []) [] (by decide) rfl
  have hKc := hK.sub (tys' := [(cOl, .object "java/lang/Object")]) [0] rfl
  have hFc := va_free (wc := []) hD hS hA [] rfl
  refine va_callr (va_runV (As := [.int 0]) (rest := []) ⟨hx, hb, hml, hown, hts⟩ (cz_Qget_0_2 l dC dI ed H4.size ll 2 ola cOl fol la0 hol0) (cwV 1 hts gX7_next_Jx4a65c_get_915e3 rfl rfl rfl (by decide +kernel) ⟨Nat.le_of_ble_eq_true rfl, Nat.le_of_ble_eq_true rfl⟩) ⟨zb_blind, va_recv hK (zo_R hR0 hS hAr) (ci := 1) (q0 := 1) rfl rfl, fun U hU hW => ⟨rfl, zb_mk hU hW hPr hPc hKc hDc hN hH hS hFc zx_e⟩⟩ rfl rfl hl.1 rfl (lv_room (Nat.le_of_ble_eq_true rfl)) dX7_next_31 ⟨Nat.le_of_ble_eq_true rfl, Nat.le_of_ble_eq_true rfl⟩) hS (fun q _ h => hFc q h) hFc (fun u r7 t H6 locs ht hvm hw hB hz1 hk1 hS => ?_)
  obtain ⟨hq8_0, hP1, hD1, hK1⟩ := hB
  rw [ht] at hP1
  obtain ⟨hP, hD⟩ := va_join (wr := []) (w1 := []) hP hD [] [] rfl rfl (by decide) (by decide) hk1 hFc hP1 hD1
  have hP : va_P (dC, dI) vwCl [] H6 := hP
  have hD : va_D A [] := hD
  obtain rfl : la0 = r7 := hq8_0.symm
  refine va_castA (nm := "[I") hx hb hown (hts (.classLink RX7 46 "[I") (by decide +kernel)) (zo_R hR0 hS hAr) 3 rfl (show s.vm.findClass "[I" = some cA0 from (hK.2 1 _ rfl).2) dX7_next_34 ?_
  refine lv_astore (lv' := [(6, .ref la0), (5, .int 0), (4, .int 0), (3, .int r2), (0, .ref mr), (1, .int 2), (2, .int 0)]) hx hb dX7_next_37 hl (by decide) rfl (fun ls hl => ?_)
  refine lv_iload_n hx hb dX7_next_39 rfl (lv_at hl 5 rfl) ?_
  refine lv_iload hx hb dX7_next_40 (lv_at hl 1 rfl) ?_
  refine lv_ishr hx hb dX7_next_42 ?_
  refine zo_i (v := 2) (by decide) ?_
  refine lv_iconst (v := 1) hx hb dX7_next_43 (by decide) ?_
  refine lv_iand hx hb dX7_next_44 ?_
  refine zo_i (v := 0) (by decide) ?_
  refine lv_if_ne (tgt := 76) hx hb dX7_next_45 (by decide) (fun h => absurd h (by decide)) (fun _ => ?_)
  refine lv_aload hx hb dX7_next_48 (lv_at hl 0 rfl) ?_
  refine lv_bipush (v := 8) hx hb dX7_next_50 (by decide) ?_
  refine va_iald hx hb hK (zo_R hR0 hS hAr) 3 1 rfl rfl (by unfold vp_in; decide) dX7_next_52 ?_
  refine zo_i (v := 0) (by rw [show Int32.toNatClampNeg 8 = 8 from by decide]; exact ha0_8) ?_
  refine lv_if_ne (tgt := 76) hx hb dX7_next_53 (by decide) (fun h => absurd h (by decide)) (fun _ => ?_)
  refine lv_aload hx hb dX7_next_56 (lv_at hl 0 rfl) ?_
  refine lv_iconst (v := 0) hx hb dX7_next_58 (by decide) ?_
  refine va_iald hx hb hK (zo_R hR0 hS hAr) 3 1 rfl rfl (by unfold vp_in; decide) dX7_next_59 ?_
  refine zo_i (v := 0) (by rw [show Int32.toNatClampNeg 0 = 0 from by decide]; exact ha0_0) ?_
  refine lv_iload_n hx hb dX7_next_60 rfl (lv_at hl 3 rfl) ?_
  refine lv_iconst (v := (-1)) hx hb dX7_next_61 (by decide) ?_
  refine lv_ixor hx hb dX7_next_62 ?_
  refine lv_iand hx hb dX7_next_63 ?_
  refine zo_i (v := 0) q_0and ?_
  refine lv_if_ne (tgt := 76) hx hb dX7_next_64 (by decide) (fun h => absurd h (by decide)) (fun _ => ?_)
  refine lv_iload hx hb dX7_next_67 (lv_at hl 2 rfl) ?_
  refine lv_iconst (v := 1) hx hb dX7_next_69 (by decide) ?_
  refine lv_iload hx hb dX7_next_70 (lv_at hl 1 rfl) ?_
  refine lv_ishl hx hb dX7_next_72 ?_
  refine zo_i (v := 1) (by decide) ?_
  refine lv_ior hx hb dX7_next_73 ?_
  refine zo_i (v := 1) (by decide) ?_
  refine lv_istore (lv' := [(4, .int 1), (6, .ref la0), (5, .int 0), (3, .int r2), (0, .ref mr), (1, .int 2), (2, .int 0)]) hx hb dX7_next_74 hl (by decide) rfl (fun ls hl => ?_)
  refine lv_iinc (v := 1) (lv' := [(5, .int 1), (4, .int 1), (6, .ref la0), (3, .int r2), (0, .ref mr), (1, .int 2), (2, .int 0)]) hx hb dX7_next_76 hl (k := 2) rfl (by decide) (by decide) rfl (fun ls hl => ?_)
  refine lv_goto (tgt := 13) hx hb dX7_next_79 (by decide) ?_
  refine lv_iload hx hb dX7_next_13 (lv_at hl 0 rfl) ?_
  refine lv_aload_n hx hb dX7_next_15 rfl (lv_at hl 4 rfl) ?_
  refine va_get (D := (dC, dI)) (ci := 9) (v := .ref ll) (C := RX7) (T := TX7) (N := 14) hx hb hts zi_X7_next_X7 hown hK (zo_R hR0 hS hAr) 0 rfl rfl 0 (by decide) (hts (.fieldLink RX7 12 "LockRoomsModel$Room" "locks" "Ljava/util/ArrayList;") (by decide +kernel)) (fun _ h9 => h9) rfl dX7_next_16 ?_
  have hPr := ((zo_R hR0 hS hAr)).sub (ws' := [(ll, .inr (1, [.int 2, .ref ola, .int 2]))]) [1] rfl
  have hPc := hP.sub (ws' := []) [] rfl
  have hDc := hD.sub (ws' := []) [] (by decide) rfl
  have hKc := hK.sub (tys' := []) [] rfl
  have hFc := va_free (wc := []) hD hS hA [] rfl
  refine va_calli (va_runV (As := []) (rest := [.int 1]) ⟨hx, hb, hml, hown, hts⟩ (cz_Qsize l dC dI ed H6.size ll 2 ola 2) (cwV 0 hts gX7_next_Jx4a65c_size_8abf5 rfl rfl rfl (by decide +kernel) ⟨Nat.le_of_ble_eq_true rfl, Nat.le_of_ble_eq_true rfl⟩) ⟨zb_blind, va_recv hK (zo_R hR0 hS hAr) (ci := 1) (q0 := 1) rfl rfl, fun U hU hW => ⟨rfl, zb_mk hU hW hPr hPc hKc hDc hN hH hS hFc zx_e⟩⟩ rfl rfl hl.1 rfl (lv_room (Nat.le_of_ble_eq_true rfl)) dX7_next_19 ⟨Nat.le_of_ble_eq_true rfl, Nat.le_of_ble_eq_true rfl⟩) hS (fun q _ h => hFc q h) hFc (fun r10 u t H9 locs ht hvm hw hB hz1 hk1 hS => ?_)
  obtain rfl : r10 = 2 := hw.trans (by decide +kernel)
  have hP := zo_K hP hk1
  refine lv_icmp_ge (tgt := 82) hx hb dX7_next_22 (by decide) (fun h => absurd h (by decide)) (fun _ => ?_)
  refine lv_aload_n hx hb dX7_next_25 rfl (lv_at hl 4 rfl) ?_
  refine va_get (D := (dC, dI)) (ci := 9) (v := .ref ll) (C := RX7) (T := TX7) (N := 14) hx hb hts zi_X7_next_X7 hown hK (zo_R hR0 hS hAr) 0 rfl rfl 0 (by decide) (hts (.fieldLink RX7 12 "LockRoomsModel$Room" "locks" "Ljava/util/ArrayList;") (by decide +kernel)) (fun _ h9 => h9) rfl dX7_next_26 ?_
  refine lv_iload hx hb dX7_next_29 (lv_at hl 0 rfl) ?_
  have hPr := ((zo_R hR0 hS hAr)).sub (ws' := [(ll, .inr (1, [.int 2, .ref ola, .int 2])), (ola, .inl (cOl, 10, .inr (.inr (.inr (.inr fol)))))]) [1, 2] rfl
  have hPc := hP.sub (ws' := []) [] rfl
  have hDc := hD.sub (ws' := []) [] (by decide) rfl
  have hKc := hK.sub (tys' := [(cOl, .object "java/lang/Object")]) [0] rfl
  have hFc := va_free (wc := []) hD hS hA [] rfl
  refine va_callr (va_runV (As := [.int 1]) (rest := []) ⟨hx, hb, hml, hown, hts⟩ (cz_Qget_1_2 l dC dI ed H9.size ll 2 ola cOl fol la1 hol1) (cwV 1 hts gX7_next_Jx4a65c_get_915e3 rfl rfl rfl (by decide +kernel) ⟨Nat.le_of_ble_eq_true rfl, Nat.le_of_ble_eq_true rfl⟩) ⟨zb_blind, va_recv hK (zo_R hR0 hS hAr) (ci := 1) (q0 := 1) rfl rfl, fun U hU hW => ⟨rfl, zb_mk hU hW hPr hPc hKc hDc hN hH hS hFc zx_e⟩⟩ rfl rfl hl.1 rfl (lv_room (Nat.le_of_ble_eq_true rfl)) dX7_next_31 ⟨Nat.le_of_ble_eq_true rfl, Nat.le_of_ble_eq_true rfl⟩) hS (fun q _ h => hFc q h) hFc (fun u r12 t H11 locs ht hvm hw hB hz1 hk1 hS => ?_)
  obtain ⟨hq13_0, hP1, hD1, hK1⟩ := hB
  rw [ht] at hP1
  obtain ⟨hP, hD⟩ := va_join (wr := []) (w1 := []) hP hD [] [] rfl rfl (by decide) (by decide) hk1 hFc hP1 hD1
  have hP : va_P (dC, dI) vwCl [] H11 := hP
  have hD : va_D A [] := hD
  obtain rfl : la1 = r12 := hq13_0.symm
  refine va_castA (nm := "[I") hx hb hown (hts (.classLink RX7 46 "[I") (by decide +kernel)) (zo_R hR0 hS hAr) 4 rfl (show s.vm.findClass "[I" = some cA1 from (hK.2 2 _ rfl).2) dX7_next_34 ?_
  refine lv_astore (lv' := [(6, .ref la1), (5, .int 1), (4, .int 1), (3, .int r2), (0, .ref mr), (1, .int 2), (2, .int 0)]) hx hb dX7_next_37 hl (by decide) rfl (fun ls hl => ?_)
  refine lv_iload_n hx hb dX7_next_39 rfl (lv_at hl 5 rfl) ?_
  refine lv_iload hx hb dX7_next_40 (lv_at hl 1 rfl) ?_
  refine lv_ishr hx hb dX7_next_42 ?_
  refine zo_i (v := 1) (by decide) ?_
  refine lv_iconst (v := 1) hx hb dX7_next_43 (by decide) ?_
  refine lv_iand hx hb dX7_next_44 ?_
  refine zo_i (v := 1) (by decide) ?_
  refine lv_if_ne (tgt := 76) hx hb dX7_next_45 (by decide) (fun _ => ?_) (fun h => absurd h (by decide))
  refine lv_iinc (v := 2) (lv' := [(5, .int 2), (6, .ref la1), (4, .int 1), (3, .int r2), (0, .ref mr), (1, .int 2), (2, .int 0)]) hx hb dX7_next_76 hl (k := 1) rfl (by decide) (by decide) rfl (fun ls hl => ?_)
  refine lv_goto (tgt := 13) hx hb dX7_next_79 (by decide) ?_
  refine lv_iload hx hb dX7_next_13 (lv_at hl 0 rfl) ?_
  refine lv_aload_n hx hb dX7_next_15 rfl (lv_at hl 4 rfl) ?_
  refine va_get (D := (dC, dI)) (ci := 9) (v := .ref ll) (C := RX7) (T := TX7) (N := 14) hx hb hts zi_X7_next_X7 hown hK (zo_R hR0 hS hAr) 0 rfl rfl 0 (by decide) (hts (.fieldLink RX7 12 "LockRoomsModel$Room" "locks" "Ljava/util/ArrayList;") (by decide +kernel)) (fun _ h9 => h9) rfl dX7_next_16 ?_
  have hPr := ((zo_R hR0 hS hAr)).sub (ws' := [(ll, .inr (1, [.int 2, .ref ola, .int 2]))]) [1] rfl
  have hPc := hP.sub (ws' := []) [] rfl
  have hDc := hD.sub (ws' := []) [] (by decide) rfl
  have hKc := hK.sub (tys' := []) [] rfl
  have hFc := va_free (wc := []) hD hS hA [] rfl
  refine va_calli (va_runV (As := []) (rest := [.int 2]) ⟨hx, hb, hml, hown, hts⟩ (cz_Qsize l dC dI ed H11.size ll 2 ola 2) (cwV 0 hts gX7_next_Jx4a65c_size_8abf5 rfl rfl rfl (by decide +kernel) ⟨Nat.le_of_ble_eq_true rfl, Nat.le_of_ble_eq_true rfl⟩) ⟨zb_blind, va_recv hK (zo_R hR0 hS hAr) (ci := 1) (q0 := 1) rfl rfl, fun U hU hW => ⟨rfl, zb_mk hU hW hPr hPc hKc hDc hN hH hS hFc zx_e⟩⟩ rfl rfl hl.1 rfl (lv_room (Nat.le_of_ble_eq_true rfl)) dX7_next_19 ⟨Nat.le_of_ble_eq_true rfl, Nat.le_of_ble_eq_true rfl⟩) hS (fun q _ h => hFc q h) hFc (fun r15 u t H14 locs ht hvm hw hB hz1 hk1 hS => ?_)
  obtain rfl : r15 = 2 := hw.trans (by decide +kernel)
  have hP := zo_K hP hk1
  refine lv_icmp_ge (tgt := 82) hx hb dX7_next_22 (by decide) (fun _ => ?_) (fun h => absurd h (by decide))
  refine lv_iload hx hb dX7_next_82 (lv_at hl 2 rfl) ?_
  refine W.widen (k := 0) (n := 0) (Nat.le_of_ble_eq_true rfl) (Nat.le_of_ble_eq_true rfl) ?_
  exact W.iret hx hb hr (fun t ht hW => ⟨⟨1, (), rfl, rfl, trivial⟩, hS.F ht⟩) hS.2.2 dX7_next_84
set_option maxHeartbeats 4000000 in
set_option maxRecDepth 100000 in
theorem cz_Qnext7_3 (l : Launch) (dC : Nat → ClassId) (dI : Nat → Nat → Nat) (ed sz : Nat) (mr : Nat) (ll : Nat) (lt : Nat) (lp : Nat) (ola : Nat) (cOl : ClassId) (fol : Nat → Option Nat) (la0 : Nat) (la1 : Nat) (cA0 : ClassId) (fa0 : Nat → Int32) (cA1 : ClassId) (fa1 : Nat → Int32) (ota : Nat) (cOt : ClassId) (fot : Nat → Option Nat) (ta0 : Nat) (ta1 : Nat) (ta2 : Nat) (ta3 : Nat) (ta4 : Nat) (ta5 : Nat) (ta6 : Nat) (ta7 : Nat) (ta8 : Nat) (ta9 : Nat) (cB0 : ClassId) (fb0 : Nat → Int32) (y0 : Int32) (cB1 : ClassId) (fb1 : Nat → Int32) (y1 : Int32) (cB2 : ClassId) (fb2 : Nat → Int32) (y2 : Int32) (cB3 : ClassId) (fb3 : Nat → Int32) (y3 : Int32) (cB4 : ClassId) (fb4 : Nat → Int32) (y4 : Int32) (cB5 : ClassId) (fb5 : Nat → Int32) (y5 : Int32) (cB6 : ClassId) (fb6 : Nat → Int32) (y6 : Int32) (cB7 : ClassId) (fb7 : Nat → Int32) (y7 : Int32) (cB8 : ClassId) (fb8 : Nat → Int32) (y8 : Int32) (cB9 : ClassId) (fb9 : Nat → Int32) (y9 : Int32) (hol0 : fol 0 = some la0) (hol1 : fol 1 = some la1) (ha0_0 : fa0 0 = 0) (ha0_1 : fa0 1 = 0) (ha0_8 : fa0 8 = 0) (ha1_0 : fa1 0 = 0) (ha1_1 : fa1 1 = 0) (ha1_8 : fa1 8 = 0) (hot0 : fot 0 = some ta0) (hot1 : fot 1 = some ta1) (hot2 : fot 2 = some ta2) (hot3 : fot 3 = some ta3) (hot4 : fot 4 = some ta4) (hot5 : fot 5 = some ta5) (hot6 : fot 6 = some ta6) (hot7 : fot 7 = some ta7) (hot8 : fot 8 = some ta8) (hot9 : fot 9 = some ta9) (hb0_0 : fb0 0 = (-1)) (hb0_3 : fb0 3 = y0) (hb1_0 : fb1 0 = (-1)) (hb1_3 : fb1 3 = y1) (hb2_0 : fb2 0 = (-1)) (hb2_3 : fb2 3 = y2) (hb3_0 : fb3 0 = (-1)) (hb3_3 : fb3 3 = y3) (hb4_0 : fb4 0 = (-1)) (hb4_3 : fb4 3 = y4) (hb5_0 : fb5 0 = (-1)) (hb5_3 : fb5 3 = y5) (hb6_0 : fb6 0 = (-1)) (hb6_3 : fb6 3 = y6) (hb7_0 : fb7 0 = (-1)) (hb7_3 : fb7 3 = y7) (hb8_0 : fb8 0 = (-1)) (hb8_3 : fb8 3 = y8) (hb9_0 : fb9 0 = (-1)) (hb9_3 : fb9 3 = y9) : Met l yX7_next wsX7_next ({ frames := 4, cells := 0, slots := 0, locals := 90 } : Jvm.Room) (va_Pc [.ref mr, .int 3, .int 0] (zB dC dI ed sz [(mr, .inr (9, [.ref ll, .ref lt, .ref lp, .int 0, .int 0, .int 0, .int 0, .int 0, .int 0, .int 0, .int (-1), .int 0, .int 0, .int 0])), (ll, .inr (1, [.int 2, .ref ola, .int 2])), (ola, .inl (cOl, 10, .inr (.inr (.inr (.inr fol))))), (la0, .inl (cA0, 10, .inl fa0)), (la1, .inl (cA1, 10, .inl fa1)), (lt, .inr (1, [.int 10, .ref ota, .int 10])), (ota, .inl (cOt, 10, .inr (.inr (.inr (.inr fot))))), (ta0, .inl (cB0, 5, .inl fb0)), (ta1, .inl (cB1, 5, .inl fb1)), (ta2, .inl (cB2, 5, .inl fb2)), (ta3, .inl (cB3, 5, .inl fb3)), (ta4, .inl (cB4, 5, .inl fb4)), (ta5, .inl (cB5, 5, .inl fb5)), (ta6, .inl (cB6, 5, .inl fb6)), (ta7, .inl (cB7, 5, .inl fb7)), (ta8, .inl (cB8, 5, .inl fb8)), (ta9, .inl (cB9, 5, .inl fb9))] [] [(cOl, .object "java/lang/Object"), (cA0, .int), (cA1, .int), (cOt, .object "java/lang/Object"), (cB0, .int), (cB1, .int), (cB2, .int), (cB3, .int), (cB4, .int), (cB5, .int), (cB6, .int), (cB7, .int), (cB8, .int), (cB9, .int)])) (va_Qi (fun (r : Int32) (_ : Unit) => r = 0) (fun (_ : Unit) (_ : State) => True) (va_A [] sz)) 0 0 (va_A [] sz) := by
  refine Met.ofW (cc := cX7_next) (maxL := 7) (ret := (some .int)) (by decide) rfl ?_
  intro p e s m args below meth c s₁ B hml hv
  obtain ⟨rfl, hsz, hR0, hP, hK, hD0, hN, hH, hX0⟩ := hv
  have hx := B.exec
  have hb := B.bytes
  have hr := B.returns
  have hts := atoms_spec (ws := wsX7_next) B.pre
  have hown : s.vm.findClass RX7 = some m.cls := findClass_of_methodNamed B.named
  have hlocks := B.notSynchronized
  subst hsz
  have hD := hD0.self (sz := s.heap.size)
  have hAr := zx_A hX0 hR0
  generalize hAe : va_A [] s.heap.size = A at hD hAr hH ⊢
  have hA : ∀ q : Nat, s.heap.size ≤ q → A q := fun q h => by rw [← hAe]; exact Or.inr h
  have hS : va_S A s.heap s.heap [] := va_S.rf
  have hl := lv_entry ([.ref mr, .int 3, .int 0]) (n := 7) (Nat.le_of_ble_eq_true rfl)
  rw [lg_entry_eq]
  generalize (lg_sl ([.ref mr, .int 3, .int 0]) ++ List.replicate (7 - (lg_sl ([.ref mr, .int 3, .int 0])).length) Slot.unset).toArray = ls at hl ⊢
  have hl : lv_has ls 7 [(0, .ref mr), (1, .int 3), (2, .int 0)] := hl
  refine lv_aload_n hx hb dX7_next_0 rfl (lv_at hl 0 rfl) ?_
  refine lv_iload_n hx hb dX7_next_1 rfl (lv_at hl 1 rfl) ?_
  refine lv_iload_n hx hb dX7_next_2 rfl (lv_at hl 2 rfl) ?_
  have hPr := (hR0).sub (ws' := [(mr, .inr (9, [.ref ll, .ref lt, .ref lp, .int 0, .int 0, .int 0, .int 0, .int 0, .int 0, .int 0, .int (-1), .int 0, .int 0, .int 0])), (ll, .inr (1, [.int 2, .ref ola, .int 2])), (ola, .inl (cOl, 10, .inr (.inr (.inr (.inr fol))))), (la0, .inl (cA0, 10, .inl fa0)), (la1, .inl (cA1, 10, .inl fa1)), (lt, .inr (1, [.int 10, .ref ota, .int 10])), (ota, .inl (cOt, 10, .inr (.inr (.inr (.inr fot))))), (ta0, .inl (cB0, 5, .inl fb0)), (ta1, .inl (cB1, 5, .inl fb1)), (ta2, .inl (cB2, 5, .inl fb2)), (ta3, .inl (cB3, 5, .inl fb3)), (ta4, .inl (cB4, 5, .inl fb4)), (ta5, .inl (cB5, 5, .inl fb5)), (ta6, .inl (cB6, 5, .inl fb6)), (ta7, .inl (cB7, 5, .inl fb7)), (ta8, .inl (cB8, 5, .inl fb8)), (ta9, .inl (cB9, 5, .inl fb9))]) [0, 1, 2, 3, 4, 5, 6, 7, 8, 9, 10, 11, 12, 13, 14, 15, 16] rfl
  have hPc := hP.sub (ws' := []) [] rfl
  have hDc := hD.sub (ws' := []) [] (by decide) rfl
  have hKc := hK.sub (tys' := [(cOl, .object "java/lang/Object"), (cA0, .int), (cA1, .int), (cOt, .object "java/lang/Object"), (cB0, .int), (cB1, .int), (cB2, .int), (cB3, .int), (cB4, .int), (cB5, .int), (cB6, .int), (cB7, .int), (cB8, .int), (cB9, .int)]) [0, 1, 2, 3, 4, 5, 6, 7, 8, 9, 10, 11, 12, 13] rfl
  have hFc := va_free (wc := []) hD hS hA [] rfl
  refine va_calli (va_runV (As := [.int 3, .int 0]) (rest := []) ⟨hx, hb, hml, hown, hts⟩ (cz_QatHand l dC dI ed s.heap.size mr ll lt lp ola cOl fol la0 la1 cA0 fa0 cA1 fa1 ota cOt fot ta0 ta1 ta2 ta3 ta4 ta5 ta6 ta7 ta8 ta9 cB0 fb0 y0 cB1 fb1 y1 cB2 fb2 y2 cB3 fb3 y3 cB4 fb4 y4 cB5 fb5 y5 cB6 fb6 y6 cB7 fb7 y7 cB8 fb8 y8 cB9 fb9 y9 3 0 hol0 hol1 ha0_1 ha1_1 hot0 hot1 hot2 hot3 hot4 hot5 hot6 hot7 hot8 hot9 hb0_0 hb0_3 hb1_0 hb1_3 hb2_0 hb2_3 hb3_0 hb3_3 hb4_0 hb4_3 hb5_0 hb5_3 hb6_0 hb6_3 hb7_0 hb7_3 hb8_0 hb8_3 hb9_0 hb9_3) (cwV 2 hts gX7_next_X7_atHand rfl rfl rfl (by decide +kernel) ⟨Nat.le_of_ble_eq_true rfl, Nat.le_of_ble_eq_true rfl⟩) ⟨zb_blind, va_recv hK hR0 (ci := 9) (q0 := 0) rfl rfl, fun U hU hW => ⟨rfl, zb_mk hU hW hPr hPc hKc hDc hN hH hS hFc zx_e⟩⟩ rfl rfl hl.1 rfl (lv_room (Nat.le_of_ble_eq_true rfl)) dX7_next_3 ⟨Nat.le_of_ble_eq_true rfl, Nat.le_of_ble_eq_true rfl⟩) hS (fun q _ h => hFc q h) hFc (fun r2 u t H1 locs ht hvm hw hB hz1 hk1 hS => ?_)
  have w3 := hw
  have hP := zo_K hP hk1
  refine lv_istore_n (lv' := [(3, .int r2), (0, .ref mr), (1, .int 3), (2, .int 0)]) hx hb dX7_next_6 rfl hl (by decide) rfl (fun ls hl => ?_)
  refine lv_iconst (v := 0) hx hb dX7_next_7 (by decide) ?_
  refine lv_istore (lv' := [(4, .int 0), (3, .int r2), (0, .ref mr), (1, .int 3), (2, .int 0)]) hx hb dX7_next_8 hl (by decide) rfl (fun ls hl => ?_)
  refine lv_iconst (v := 0) hx hb dX7_next_10 (by decide) ?_
  refine lv_istore (lv' := [(5, .int 0), (4, .int 0), (3, .int r2), (0, .ref mr), (1, .int 3), (2, .int 0)]) hx hb dX7_next_11 hl (by decide) rfl (fun ls hl => ?_)
  refine lv_iload hx hb dX7_next_13 (lv_at hl 0 rfl) ?_
  refine lv_aload_n hx hb dX7_next_15 rfl (lv_at hl 3 rfl) ?_
  refine va_get (D := (dC, dI)) (ci := 9) (v := .ref ll) (C := RX7) (T := TX7) (N := 14) hx hb hts zi_X7_next_X7 hown hK (zo_R hR0 hS hAr) 0 rfl rfl 0 (by decide) (hts (.fieldLink RX7 12 "LockRoomsModel$Room" "locks" "Ljava/util/ArrayList;") (by decide +kernel)) (fun _ h9 => h9) rfl dX7_next_16 ?_
  have hPr := ((zo_R hR0 hS hAr)).sub (ws' := [(ll, .inr (1, [.int 2, .ref ola, .int 2]))]) [1] rfl
  have hPc := hP.sub (ws' := []) [] rfl
  have hDc := hD.sub (ws' := []) [] (by decide) rfl
  have hKc := hK.sub (tys' := []) [] rfl
  have hFc := va_free (wc := []) hD hS hA [] rfl
  refine va_calli (va_runV (As := []) (rest := [.int 0]) ⟨hx, hb, hml, hown, hts⟩ (cz_Qsize l dC dI ed H1.size ll 2 ola 2) (cwV 0 hts gX7_next_Jx4a65c_size_8abf5 rfl rfl rfl (by decide +kernel) ⟨Nat.le_of_ble_eq_true rfl, Nat.le_of_ble_eq_true rfl⟩) ⟨zb_blind, va_recv hK (zo_R hR0 hS hAr) (ci := 1) (q0 := 1) rfl rfl, fun U hU hW => ⟨rfl, zb_mk hU hW hPr hPc hKc hDc hN hH hS hFc zx_e⟩⟩ rfl rfl hl.1 rfl (lv_room (Nat.le_of_ble_eq_true rfl)) dX7_next_19 ⟨Nat.le_of_ble_eq_true rfl, Nat.le_of_ble_eq_true rfl⟩) hS (fun q _ h => hFc q h) hFc (fun r5 u t H4 locs ht hvm hw hB hz1 hk1 hS => ?_)
  obtain rfl : r5 = 2 := hw.trans (by decide +kernel)
  have hP := zo_K hP hk1
  refine lv_icmp_ge (tgt := 82) hx hb dX7_next_22 (by decide) (fun h => absurd h (by decide)) (fun _ => ?_)
  refine lv_aload_n hx hb dX7_next_25 rfl (lv_at hl 3 rfl) ?_
  refine va_get (D := (dC, dI)) (ci := 9) (v := .ref ll) (C := RX7) (T := TX7) (N := 14) hx hb hts zi_X7_next_X7 hown hK (zo_R hR0 hS hAr) 0 rfl rfl 0 (by decide) (hts (.fieldLink RX7 12 "LockRoomsModel$Room" "locks" "Ljava/util/ArrayList;") (by decide +kernel)) (fun _ h9 => h9) rfl dX7_next_26 ?_
  refine lv_iload hx hb dX7_next_29 (lv_at hl 0 rfl) ?_
  have hPr := ((zo_R hR0 hS hAr)).sub (ws' := [(ll, .inr (1, [.int 2, .ref ola, .int 2])), (ola, .inl (cOl, 10, .inr (.inr (.inr (.inr fol)))))]) [1, 2] rfl
  have hPc := hP.sub (ws' := []) [] rfl
  have hDc := hD.sub (ws' := []) [] (by decide) rfl
  have hKc := hK.sub (tys' := [(cOl, .object "java/lang/Object")]) [0] rfl
  have hFc := va_free (wc := []) hD hS hA [] rfl
  refine va_callr (va_runV (As := [.int 0]) (rest := []) ⟨hx, hb, hml, hown, hts⟩ (cz_Qget_0_2 l dC dI ed H4.size ll 2 ola cOl fol la0 hol0) (cwV 1 hts gX7_next_Jx4a65c_get_915e3 rfl rfl rfl (by decide +kernel) ⟨Nat.le_of_ble_eq_true rfl, Nat.le_of_ble_eq_true rfl⟩) ⟨zb_blind, va_recv hK (zo_R hR0 hS hAr) (ci := 1) (q0 := 1) rfl rfl, fun U hU hW => ⟨rfl, zb_mk hU hW hPr hPc hKc hDc hN hH hS hFc zx_e⟩⟩ rfl rfl hl.1 rfl (lv_room (Nat.le_of_ble_eq_true rfl)) dX7_next_31 ⟨Nat.le_of_ble_eq_true rfl, Nat.le_of_ble_eq_true rfl⟩) hS (fun q _ h => hFc q h) hFc (fun u r7 t H6 locs ht hvm hw hB hz1 hk1 hS => ?_)
  obtain ⟨hq8_0, hP1, hD1, hK1⟩ := hB
  rw [ht] at hP1
  obtain ⟨hP, hD⟩ := va_join (wr := []) (w1 := []) hP hD [] [] rfl rfl (by decide) (by decide) hk1 hFc hP1 hD1
  have hP : va_P (dC, dI) vwCl [] H6 := hP
  have hD : va_D A [] := hD
  obtain rfl : la0 = r7 := hq8_0.symm
  refine va_castA (nm := "[I") hx hb hown (hts (.classLink RX7 46 "[I") (by decide +kernel)) (zo_R hR0 hS hAr) 3 rfl (show s.vm.findClass "[I" = some cA0 from (hK.2 1 _ rfl).2) dX7_next_34 ?_
  refine lv_astore (lv' := [(6, .ref la0), (5, .int 0), (4, .int 0), (3, .int r2), (0, .ref mr), (1, .int 3), (2, .int 0)]) hx hb dX7_next_37 hl (by decide) rfl (fun ls hl => ?_)
  refine lv_iload_n hx hb dX7_next_39 rfl (lv_at hl 5 rfl) ?_
  refine lv_iload hx hb dX7_next_40 (lv_at hl 1 rfl) ?_
  refine lv_ishr hx hb dX7_next_42 ?_
  refine zo_i (v := 3) (by decide) ?_
  refine lv_iconst (v := 1) hx hb dX7_next_43 (by decide) ?_
  refine lv_iand hx hb dX7_next_44 ?_
  refine zo_i (v := 1) (by decide) ?_
  refine lv_if_ne (tgt := 76) hx hb dX7_next_45 (by decide) (fun _ => ?_) (fun h => absurd h (by decide))
  refine lv_iinc (v := 1) (lv' := [(5, .int 1), (6, .ref la0), (4, .int 0), (3, .int r2), (0, .ref mr), (1, .int 3), (2, .int 0)]) hx hb dX7_next_76 hl (k := 1) rfl (by decide) (by decide) rfl (fun ls hl => ?_)
  refine lv_goto (tgt := 13) hx hb dX7_next_79 (by decide) ?_
  refine lv_iload hx hb dX7_next_13 (lv_at hl 0 rfl) ?_
  refine lv_aload_n hx hb dX7_next_15 rfl (lv_at hl 4 rfl) ?_
  refine va_get (D := (dC, dI)) (ci := 9) (v := .ref ll) (C := RX7) (T := TX7) (N := 14) hx hb hts zi_X7_next_X7 hown hK (zo_R hR0 hS hAr) 0 rfl rfl 0 (by decide) (hts (.fieldLink RX7 12 "LockRoomsModel$Room" "locks" "Ljava/util/ArrayList;") (by decide +kernel)) (fun _ h9 => h9) rfl dX7_next_16 ?_
  have hPr := ((zo_R hR0 hS hAr)).sub (ws' := [(ll, .inr (1, [.int 2, .ref ola, .int 2]))]) [1] rfl
  have hPc := hP.sub (ws' := []) [] rfl
  have hDc := hD.sub (ws' := []) [] (by decide) rfl
  have hKc := hK.sub (tys' := []) [] rfl
  have hFc := va_free (wc := []) hD hS hA [] rfl
  refine va_calli (va_runV (As := []) (rest := [.int 1]) ⟨hx, hb, hml, hown, hts⟩ (cz_Qsize l dC dI ed H6.size ll 2 ola 2) (cwV 0 hts gX7_next_Jx4a65c_size_8abf5 rfl rfl rfl (by decide +kernel) ⟨Nat.le_of_ble_eq_true rfl, Nat.le_of_ble_eq_true rfl⟩) ⟨zb_blind, va_recv hK (zo_R hR0 hS hAr) (ci := 1) (q0 := 1) rfl rfl, fun U hU hW => ⟨rfl, zb_mk hU hW hPr hPc hKc hDc hN hH hS hFc zx_e⟩⟩ rfl rfl hl.1 rfl (lv_room (Nat.le_of_ble_eq_true rfl)) dX7_next_19 ⟨Nat.le_of_ble_eq_true rfl, Nat.le_of_ble_eq_true rfl⟩) hS (fun q _ h => hFc q h) hFc (fun r10 u t H9 locs ht hvm hw hB hz1 hk1 hS => ?_)
  obtain rfl : r10 = 2 := hw.trans (by decide +kernel)
  have hP := zo_K hP hk1
  refine lv_icmp_ge (tgt := 82) hx hb dX7_next_22 (by decide) (fun h => absurd h (by decide)) (fun _ => ?_)
  refine lv_aload_n hx hb dX7_next_25 rfl (lv_at hl 4 rfl) ?_
  refine va_get (D := (dC, dI)) (ci := 9) (v := .ref ll) (C := RX7) (T := TX7) (N := 14) hx hb hts zi_X7_next_X7 hown hK (zo_R hR0 hS hAr) 0 rfl rfl 0 (by decide) (hts (.fieldLink RX7 12 "LockRoomsModel$Room" "locks" "Ljava/util/ArrayList;") (by decide +kernel)) (fun _ h9 => h9) rfl dX7_next_26 ?_
  refine lv_iload hx hb dX7_next_29 (lv_at hl 0 rfl) ?_
  have hPr := ((zo_R hR0 hS hAr)).sub (ws' := [(ll, .inr (1, [.int 2, .ref ola, .int 2])), (ola, .inl (cOl, 10, .inr (.inr (.inr (.inr fol)))))]) [1, 2] rfl
  have hPc := hP.sub (ws' := []) [] rfl
  have hDc := hD.sub (ws' := []) [] (by decide) rfl
  have hKc := hK.sub (tys' := [(cOl, .object "java/lang/Object")]) [0] rfl
  have hFc := va_free (wc := []) hD hS hA [] rfl
  refine va_callr (va_runV (As := [.int 1]) (rest := []) ⟨hx, hb, hml, hown, hts⟩ (cz_Qget_1_2 l dC dI ed H9.size ll 2 ola cOl fol la1 hol1) (cwV 1 hts gX7_next_Jx4a65c_get_915e3 rfl rfl rfl (by decide +kernel) ⟨Nat.le_of_ble_eq_true rfl, Nat.le_of_ble_eq_true rfl⟩) ⟨zb_blind, va_recv hK (zo_R hR0 hS hAr) (ci := 1) (q0 := 1) rfl rfl, fun U hU hW => ⟨rfl, zb_mk hU hW hPr hPc hKc hDc hN hH hS hFc zx_e⟩⟩ rfl rfl hl.1 rfl (lv_room (Nat.le_of_ble_eq_true rfl)) dX7_next_31 ⟨Nat.le_of_ble_eq_true rfl, Nat.le_of_ble_eq_true rfl⟩) hS (fun q _ h => hFc q h) hFc (fun u r12 t H11 locs ht hvm hw hB hz1 hk1 hS => ?_)
  obtain ⟨hq13_0, hP1, hD1, hK1⟩ := hB
  rw [ht] at hP1
  obtain ⟨hP, hD⟩ := va_join (wr := []) (w1 := []) hP hD [] [] rfl rfl (by decide) (by decide) hk1 hFc hP1 hD1
  have hP : va_P (dC, dI) vwCl [] H11 := hP
  have hD : va_D A [] := hD
  obtain rfl : la1 = r12 := hq13_0.symm
  refine va_castA (nm := "[I") hx hb hown (hts (.classLink RX7 46 "[I") (by decide +kernel)) (zo_R hR0 hS hAr) 4 rfl (show s.vm.findClass "[I" = some cA1 from (hK.2 2 _ rfl).2) dX7_next_34 ?_
  refine lv_astore (lv' := [(6, .ref la1), (5, .int 1), (4, .int 0), (3, .int r2), (0, .ref mr), (1, .int 3), (2, .int 0)]) hx hb dX7_next_37 hl (by decide) rfl (fun ls hl => ?_)
  refine lv_iload_n hx hb dX7_next_39 rfl (lv_at hl 5 rfl) ?_
  refine lv_iload hx hb dX7_next_40 (lv_at hl 1 rfl) ?_
  refine lv_ishr hx hb dX7_next_42 ?_
  refine zo_i (v := 1) (by decide) ?_
  refine lv_iconst (v := 1) hx hb dX7_next_43 (by decide) ?_
  refine lv_iand hx hb dX7_next_44 ?_
  refine zo_i (v := 1) (by decide) ?_
  refine lv_if_ne (tgt := 76) hx hb dX7_next_45 (by decide) (fun _ => ?_) (fun h => absurd h (by decide))
  refine lv_iinc (v := 2) (lv' := [(5, .int 2), (6, .ref la1), (4, .int 0), (3, .int r2), (0, .ref mr), (1, .int 3), (2, .int 0)]) hx hb dX7_next_76 hl (k := 1) rfl (by decide) (by decide) rfl (fun ls hl => ?_)
  refine lv_goto (tgt := 13) hx hb dX7_next_79 (by decide) ?_
  refine lv_iload hx hb dX7_next_13 (lv_at hl 0 rfl) ?_
  refine lv_aload_n hx hb dX7_next_15 rfl (lv_at hl 4 rfl) ?_
  refine va_get (D := (dC, dI)) (ci := 9) (v := .ref ll) (C := RX7) (T := TX7) (N := 14) hx hb hts zi_X7_next_X7 hown hK (zo_R hR0 hS hAr) 0 rfl rfl 0 (by decide) (hts (.fieldLink RX7 12 "LockRoomsModel$Room" "locks" "Ljava/util/ArrayList;") (by decide +kernel)) (fun _ h9 => h9) rfl dX7_next_16 ?_
  have hPr := ((zo_R hR0 hS hAr)).sub (ws' := [(ll, .inr (1, [.int 2, .ref ola, .int 2]))]) [1] rfl
  have hPc := hP.sub (ws' := []) [] rfl
  have hDc := hD.sub (ws' := []) [] (by decide) rfl
  have hKc := hK.sub (tys' := []) [] rfl
  have hFc := va_free (wc := []) hD hS hA [] rfl
  refine va_calli (va_runV (As := []) (rest := [.int 2]) ⟨hx, hb, hml, hown, hts⟩ (cz_Qsize l dC dI ed H11.size ll 2 ola 2) (cwV 0 hts gX7_next_Jx4a65c_size_8abf5 rfl rfl rfl (by decide +kernel) ⟨Nat.le_of_ble_eq_true rfl, Nat.le_of_ble_eq_true rfl⟩) ⟨zb_blind, va_recv hK (zo_R hR0 hS hAr) (ci := 1) (q0 := 1) rfl rfl, fun U hU hW => ⟨rfl, zb_mk hU hW hPr hPc hKc hDc hN hH hS hFc zx_e⟩⟩ rfl rfl hl.1 rfl (lv_room (Nat.le_of_ble_eq_true rfl)) dX7_next_19 ⟨Nat.le_of_ble_eq_true rfl, Nat.le_of_ble_eq_true rfl⟩) hS (fun q _ h => hFc q h) hFc (fun r15 u t H14 locs ht hvm hw hB hz1 hk1 hS => ?_)
  obtain rfl : r15 = 2 := hw.trans (by decide +kernel)
  have hP := zo_K hP hk1
  refine lv_icmp_ge (tgt := 82) hx hb dX7_next_22 (by decide) (fun _ => ?_) (fun h => absurd h (by decide))
  refine lv_iload hx hb dX7_next_82 (lv_at hl 2 rfl) ?_
  refine W.widen (k := 0) (n := 0) (Nat.le_of_ble_eq_true rfl) (Nat.le_of_ble_eq_true rfl) ?_
  exact W.iret hx hb hr (fun t ht hW => ⟨⟨0, (), rfl, rfl, trivial⟩, hS.F ht⟩) hS.2.2 dX7_next_84
set_option maxHeartbeats 4000000 in
set_option maxRecDepth 100000 in
theorem cz_QisEnd_0 (l : Launch) (dC : Nat → ClassId) (dI : Nat → Nat → Nat) (ed sz : Nat) (mr : Nat) (ll : Nat) (lt : Nat) (lp : Nat) : Met l yX7_isEnd wsX7_isEnd ({ frames := 0, cells := 0, slots := 0, locals := 0 } : Jvm.Room) (va_Pc [.ref mr, .int 0] (zB dC dI ed sz [(mr, .inr (9, [.ref ll, .ref lt, .ref lp, .int 0, .int 0, .int 0, .int 0, .int 0, .int 0, .int 0, .int (-1), .int 0, .int 0, .int 0]))] [] [])) (va_Qi (fun (r : Int32) (_ : Unit) => r = 0) (fun (_ : Unit) (_ : State) => True) (va_A [] sz)) 0 0 (va_A [] sz) := by
  refine Met.ofW (cc := cX7_isEnd) (maxL := 2) (ret := (some .boolean)) (by decide) rfl ?_
  intro p e s m args below meth c s₁ B hml hv
  obtain ⟨rfl, hsz, hR0, hP, hK, hD0, hN, hH, hX0⟩ := hv
  have hx := B.exec
  have hb := B.bytes
  have hr := B.returns
  have hts := atoms_spec (ws := wsX7_isEnd) B.pre
  have hown : s.vm.findClass RX7 = some m.cls := findClass_of_methodNamed B.named
  have hlocks := B.notSynchronized
  subst hsz
  have hD := hD0.self (sz := s.heap.size)
  have hAr := zx_A hX0 hR0
  generalize hAe : va_A [] s.heap.size = A at hD hAr hH ⊢
  have hA : ∀ q : Nat, s.heap.size ≤ q → A q := fun q h => by rw [← hAe]; exact Or.inr h
  have hS : va_S A s.heap s.heap [] := va_S.rf
  have hl := lv_entry ([.ref mr, .int 0]) (n := 2) (Nat.le_of_ble_eq_true rfl)
  rw [lg_entry_eq]
  generalize (lg_sl ([.ref mr, .int 0]) ++ List.replicate (2 - (lg_sl ([.ref mr, .int 0])).length) Slot.unset).toArray = ls at hl ⊢
  have hl : lv_has ls 2 [(0, .ref mr), (1, .int 0)] := hl
  refine lv_aload_n hx hb dX7_isEnd_0 rfl (lv_at hl 0 rfl) ?_
  refine va_get (D := (dC, dI)) (ci := 9) (v := .int 0) (C := RX7) (T := TX7) (N := 14) hx hb hts zi_X7_isEnd_X7 hown hK hR0 0 rfl rfl 3 (by decide) (hts (.fieldLink RX7 24 "LockRoomsModel$Room" "exit" "I") (by decide +kernel)) (fun _ h9 => h9) rfl dX7_isEnd_1 ?_
  refine lv_iconst (v := (-1)) hx hb dX7_isEnd_4 (by decide) ?_
  refine lv_icmp_eq (tgt := 24) hx hb dX7_isEnd_5 (by decide) (fun h => absurd h (by decide)) (fun _ => ?_)
  refine lv_iload_n hx hb dX7_isEnd_8 rfl (lv_at hl 1 rfl) ?_
  refine lv_aload_n hx hb dX7_isEnd_9 rfl (lv_at hl 0 rfl) ?_
  refine va_get (D := (dC, dI)) (ci := 9) (v := .int 0) (C := RX7) (T := TX7) (N := 14) hx hb hts zi_X7_isEnd_X7 hown hK hR0 0 rfl rfl 3 (by decide) (hts (.fieldLink RX7 24 "LockRoomsModel$Room" "exit" "I") (by decide +kernel)) (fun _ h9 => h9) rfl dX7_isEnd_10 ?_
  refine lv_ishr hx hb dX7_isEnd_13 ?_
  refine zo_i (v := 0) (by decide) ?_
  refine lv_iconst (v := 1) hx hb dX7_isEnd_14 (by decide) ?_
  refine lv_iand hx hb dX7_isEnd_15 ?_
  refine zo_i (v := 0) q_0and ?_
  refine lv_iconst (v := 1) hx hb dX7_isEnd_16 (by decide) ?_
  refine lv_icmp_ne (tgt := 24) hx hb dX7_isEnd_17 (by decide) (fun _ => ?_) (fun h => absurd h (by decide))
  refine lv_iconst (v := 0) hx hb dX7_isEnd_24 (by decide) ?_
  refine W.widen (k := 0) (n := 0) (Nat.le_of_ble_eq_true rfl) (Nat.le_of_ble_eq_true rfl) ?_
  exact W.zret hx hb hr (by decide) (fun t ht hW => ⟨⟨0, (), rfl, rfl, trivial⟩, hS.F ht⟩) hS.2.2 dX7_isEnd_25
set_option maxHeartbeats 4000000 in
set_option maxRecDepth 100000 in
theorem cz_QisEnd_1 (l : Launch) (dC : Nat → ClassId) (dI : Nat → Nat → Nat) (ed sz : Nat) (mr : Nat) (ll : Nat) (lt : Nat) (lp : Nat) : Met l yX7_isEnd wsX7_isEnd ({ frames := 0, cells := 0, slots := 0, locals := 0 } : Jvm.Room) (va_Pc [.ref mr, .int 1] (zB dC dI ed sz [(mr, .inr (9, [.ref ll, .ref lt, .ref lp, .int 0, .int 0, .int 0, .int 0, .int 0, .int 0, .int 0, .int (-1), .int 0, .int 0, .int 0]))] [] [])) (va_Qi (fun (r : Int32) (_ : Unit) => r = 1) (fun (_ : Unit) (_ : State) => True) (va_A [] sz)) 0 0 (va_A [] sz) := by
  refine Met.ofW (cc := cX7_isEnd) (maxL := 2) (ret := (some .boolean)) (by decide) rfl ?_
  intro p e s m args below meth c s₁ B hml hv
  obtain ⟨rfl, hsz, hR0, hP, hK, hD0, hN, hH, hX0⟩ := hv
  have hx := B.exec
  have hb := B.bytes
  have hr := B.returns
  have hts := atoms_spec (ws := wsX7_isEnd) B.pre
  have hown : s.vm.findClass RX7 = some m.cls := findClass_of_methodNamed B.named
  have hlocks := B.notSynchronized
  subst hsz
  have hD := hD0.self (sz := s.heap.size)
  have hAr := zx_A hX0 hR0
  generalize hAe : va_A [] s.heap.size = A at hD hAr hH ⊢
  have hA : ∀ q : Nat, s.heap.size ≤ q → A q := fun q h => by rw [← hAe]; exact Or.inr h
  have hS : va_S A s.heap s.heap [] := va_S.rf
  have hl := lv_entry ([.ref mr, .int 1]) (n := 2) (Nat.le_of_ble_eq_true rfl)
  rw [lg_entry_eq]
  generalize (lg_sl ([.ref mr, .int 1]) ++ List.replicate (2 - (lg_sl ([.ref mr, .int 1])).length) Slot.unset).toArray = ls at hl ⊢
  have hl : lv_has ls 2 [(0, .ref mr), (1, .int 1)] := hl
  refine lv_aload_n hx hb dX7_isEnd_0 rfl (lv_at hl 0 rfl) ?_
  refine va_get (D := (dC, dI)) (ci := 9) (v := .int 0) (C := RX7) (T := TX7) (N := 14) hx hb hts zi_X7_isEnd_X7 hown hK hR0 0 rfl rfl 3 (by decide) (hts (.fieldLink RX7 24 "LockRoomsModel$Room" "exit" "I") (by decide +kernel)) (fun _ h9 => h9) rfl dX7_isEnd_1 ?_
  refine lv_iconst (v := (-1)) hx hb dX7_isEnd_4 (by decide) ?_
  refine lv_icmp_eq (tgt := 24) hx hb dX7_isEnd_5 (by decide) (fun h => absurd h (by decide)) (fun _ => ?_)
  refine lv_iload_n hx hb dX7_isEnd_8 rfl (lv_at hl 1 rfl) ?_
  refine lv_aload_n hx hb dX7_isEnd_9 rfl (lv_at hl 0 rfl) ?_
  refine va_get (D := (dC, dI)) (ci := 9) (v := .int 0) (C := RX7) (T := TX7) (N := 14) hx hb hts zi_X7_isEnd_X7 hown hK hR0 0 rfl rfl 3 (by decide) (hts (.fieldLink RX7 24 "LockRoomsModel$Room" "exit" "I") (by decide +kernel)) (fun _ h9 => h9) rfl dX7_isEnd_10 ?_
  refine lv_ishr hx hb dX7_isEnd_13 ?_
  refine zo_i (v := 1) (by decide) ?_
  refine lv_iconst (v := 1) hx hb dX7_isEnd_14 (by decide) ?_
  refine lv_iand hx hb dX7_isEnd_15 ?_
  refine zo_i (v := 1) (by decide) ?_
  refine lv_iconst (v := 1) hx hb dX7_isEnd_16 (by decide) ?_
  refine lv_icmp_ne (tgt := 24) hx hb dX7_isEnd_17 (by decide) (fun h => absurd h (by decide)) (fun _ => ?_)
  refine lv_iconst (v := 1) hx hb dX7_isEnd_20 (by decide) ?_
  refine lv_goto (tgt := 25) hx hb dX7_isEnd_21 (by decide) ?_
  refine W.widen (k := 0) (n := 0) (Nat.le_of_ble_eq_true rfl) (Nat.le_of_ble_eq_true rfl) ?_
  exact W.zret hx hb hr (by decide) (fun t ht hW => ⟨⟨1, (), rfl, rfl, trivial⟩, hS.F ht⟩) hS.2.2 dX7_isEnd_25
set_option maxHeartbeats 4000000 in
set_option maxRecDepth 100000 in
theorem cz_QisEnd_2 (l : Launch) (dC : Nat → ClassId) (dI : Nat → Nat → Nat) (ed sz : Nat) (mr : Nat) (ll : Nat) (lt : Nat) (lp : Nat) : Met l yX7_isEnd wsX7_isEnd ({ frames := 0, cells := 0, slots := 0, locals := 0 } : Jvm.Room) (va_Pc [.ref mr, .int 2] (zB dC dI ed sz [(mr, .inr (9, [.ref ll, .ref lt, .ref lp, .int 0, .int 0, .int 0, .int 0, .int 0, .int 0, .int 0, .int (-1), .int 0, .int 0, .int 0]))] [] [])) (va_Qi (fun (r : Int32) (_ : Unit) => r = 0) (fun (_ : Unit) (_ : State) => True) (va_A [] sz)) 0 0 (va_A [] sz) := by
  refine Met.ofW (cc := cX7_isEnd) (maxL := 2) (ret := (some .boolean)) (by decide) rfl ?_
  intro p e s m args below meth c s₁ B hml hv
  obtain ⟨rfl, hsz, hR0, hP, hK, hD0, hN, hH, hX0⟩ := hv
  have hx := B.exec
  have hb := B.bytes
  have hr := B.returns
  have hts := atoms_spec (ws := wsX7_isEnd) B.pre
  have hown : s.vm.findClass RX7 = some m.cls := findClass_of_methodNamed B.named
  have hlocks := B.notSynchronized
  subst hsz
  have hD := hD0.self (sz := s.heap.size)
  have hAr := zx_A hX0 hR0
  generalize hAe : va_A [] s.heap.size = A at hD hAr hH ⊢
  have hA : ∀ q : Nat, s.heap.size ≤ q → A q := fun q h => by rw [← hAe]; exact Or.inr h
  have hS : va_S A s.heap s.heap [] := va_S.rf
  have hl := lv_entry ([.ref mr, .int 2]) (n := 2) (Nat.le_of_ble_eq_true rfl)
  rw [lg_entry_eq]
  generalize (lg_sl ([.ref mr, .int 2]) ++ List.replicate (2 - (lg_sl ([.ref mr, .int 2])).length) Slot.unset).toArray = ls at hl ⊢
  have hl : lv_has ls 2 [(0, .ref mr), (1, .int 2)] := hl
  refine lv_aload_n hx hb dX7_isEnd_0 rfl (lv_at hl 0 rfl) ?_
  refine va_get (D := (dC, dI)) (ci := 9) (v := .int 0) (C := RX7) (T := TX7) (N := 14) hx hb hts zi_X7_isEnd_X7 hown hK hR0 0 rfl rfl 3 (by decide) (hts (.fieldLink RX7 24 "LockRoomsModel$Room" "exit" "I") (by decide +kernel)) (fun _ h9 => h9) rfl dX7_isEnd_1 ?_
  refine lv_iconst (v := (-1)) hx hb dX7_isEnd_4 (by decide) ?_
  refine lv_icmp_eq (tgt := 24) hx hb dX7_isEnd_5 (by decide) (fun h => absurd h (by decide)) (fun _ => ?_)
  refine lv_iload_n hx hb dX7_isEnd_8 rfl (lv_at hl 1 rfl) ?_
  refine lv_aload_n hx hb dX7_isEnd_9 rfl (lv_at hl 0 rfl) ?_
  refine va_get (D := (dC, dI)) (ci := 9) (v := .int 0) (C := RX7) (T := TX7) (N := 14) hx hb hts zi_X7_isEnd_X7 hown hK hR0 0 rfl rfl 3 (by decide) (hts (.fieldLink RX7 24 "LockRoomsModel$Room" "exit" "I") (by decide +kernel)) (fun _ h9 => h9) rfl dX7_isEnd_10 ?_
  refine lv_ishr hx hb dX7_isEnd_13 ?_
  refine zo_i (v := 2) (by decide) ?_
  refine lv_iconst (v := 1) hx hb dX7_isEnd_14 (by decide) ?_
  refine lv_iand hx hb dX7_isEnd_15 ?_
  refine zo_i (v := 0) (by decide) ?_
  refine lv_iconst (v := 1) hx hb dX7_isEnd_16 (by decide) ?_
  refine lv_icmp_ne (tgt := 24) hx hb dX7_isEnd_17 (by decide) (fun _ => ?_) (fun h => absurd h (by decide))
  refine lv_iconst (v := 0) hx hb dX7_isEnd_24 (by decide) ?_
  refine W.widen (k := 0) (n := 0) (Nat.le_of_ble_eq_true rfl) (Nat.le_of_ble_eq_true rfl) ?_
  exact W.zret hx hb hr (by decide) (fun t ht hW => ⟨⟨0, (), rfl, rfl, trivial⟩, hS.F ht⟩) hS.2.2 dX7_isEnd_25
set_option maxHeartbeats 4000000 in
set_option maxRecDepth 100000 in
theorem cz_QisEnd_3 (l : Launch) (dC : Nat → ClassId) (dI : Nat → Nat → Nat) (ed sz : Nat) (mr : Nat) (ll : Nat) (lt : Nat) (lp : Nat) : Met l yX7_isEnd wsX7_isEnd ({ frames := 0, cells := 0, slots := 0, locals := 0 } : Jvm.Room) (va_Pc [.ref mr, .int 3] (zB dC dI ed sz [(mr, .inr (9, [.ref ll, .ref lt, .ref lp, .int 0, .int 0, .int 0, .int 0, .int 0, .int 0, .int 0, .int (-1), .int 0, .int 0, .int 0]))] [] [])) (va_Qi (fun (r : Int32) (_ : Unit) => r = 1) (fun (_ : Unit) (_ : State) => True) (va_A [] sz)) 0 0 (va_A [] sz) := by
  refine Met.ofW (cc := cX7_isEnd) (maxL := 2) (ret := (some .boolean)) (by decide) rfl ?_
  intro p e s m args below meth c s₁ B hml hv
  obtain ⟨rfl, hsz, hR0, hP, hK, hD0, hN, hH, hX0⟩ := hv
  have hx := B.exec
  have hb := B.bytes
  have hr := B.returns
  have hts := atoms_spec (ws := wsX7_isEnd) B.pre
  have hown : s.vm.findClass RX7 = some m.cls := findClass_of_methodNamed B.named
  have hlocks := B.notSynchronized
  subst hsz
  have hD := hD0.self (sz := s.heap.size)
  have hAr := zx_A hX0 hR0
  generalize hAe : va_A [] s.heap.size = A at hD hAr hH ⊢
  have hA : ∀ q : Nat, s.heap.size ≤ q → A q := fun q h => by rw [← hAe]; exact Or.inr h
  have hS : va_S A s.heap s.heap [] := va_S.rf
  have hl := lv_entry ([.ref mr, .int 3]) (n := 2) (Nat.le_of_ble_eq_true rfl)
  rw [lg_entry_eq]
  generalize (lg_sl ([.ref mr, .int 3]) ++ List.replicate (2 - (lg_sl ([.ref mr, .int 3])).length) Slot.unset).toArray = ls at hl ⊢
  have hl : lv_has ls 2 [(0, .ref mr), (1, .int 3)] := hl
  refine lv_aload_n hx hb dX7_isEnd_0 rfl (lv_at hl 0 rfl) ?_
  refine va_get (D := (dC, dI)) (ci := 9) (v := .int 0) (C := RX7) (T := TX7) (N := 14) hx hb hts zi_X7_isEnd_X7 hown hK hR0 0 rfl rfl 3 (by decide) (hts (.fieldLink RX7 24 "LockRoomsModel$Room" "exit" "I") (by decide +kernel)) (fun _ h9 => h9) rfl dX7_isEnd_1 ?_
  refine lv_iconst (v := (-1)) hx hb dX7_isEnd_4 (by decide) ?_
  refine lv_icmp_eq (tgt := 24) hx hb dX7_isEnd_5 (by decide) (fun h => absurd h (by decide)) (fun _ => ?_)
  refine lv_iload_n hx hb dX7_isEnd_8 rfl (lv_at hl 1 rfl) ?_
  refine lv_aload_n hx hb dX7_isEnd_9 rfl (lv_at hl 0 rfl) ?_
  refine va_get (D := (dC, dI)) (ci := 9) (v := .int 0) (C := RX7) (T := TX7) (N := 14) hx hb hts zi_X7_isEnd_X7 hown hK hR0 0 rfl rfl 3 (by decide) (hts (.fieldLink RX7 24 "LockRoomsModel$Room" "exit" "I") (by decide +kernel)) (fun _ h9 => h9) rfl dX7_isEnd_10 ?_
  refine lv_ishr hx hb dX7_isEnd_13 ?_
  refine zo_i (v := 3) (by decide) ?_
  refine lv_iconst (v := 1) hx hb dX7_isEnd_14 (by decide) ?_
  refine lv_iand hx hb dX7_isEnd_15 ?_
  refine zo_i (v := 1) (by decide) ?_
  refine lv_iconst (v := 1) hx hb dX7_isEnd_16 (by decide) ?_
  refine lv_icmp_ne (tgt := 24) hx hb dX7_isEnd_17 (by decide) (fun h => absurd h (by decide)) (fun _ => ?_)
  refine lv_iconst (v := 1) hx hb dX7_isEnd_20 (by decide) ?_
  refine lv_goto (tgt := 25) hx hb dX7_isEnd_21 (by decide) ?_
  refine W.widen (k := 0) (n := 0) (Nat.le_of_ble_eq_true rfl) (Nat.le_of_ble_eq_true rfl) ?_
  exact W.zret hx hb hr (by decide) (fun t ht hW => ⟨⟨1, (), rfl, rfl, trivial⟩, hS.F ht⟩) hS.2.2 dX7_isEnd_25
set_option maxHeartbeats 4000000 in
set_option maxRecDepth 100000 in
theorem cz_Qsteps_0 (l : Launch) (dC : Nat → ClassId) (dI : Nat → Nat → Nat) (ed sz : Nat) (mr : Nat) (ll : Nat) (lt : Nat) (lp : Nat) (ola : Nat) (cOl : ClassId) (fol : Nat → Option Nat) (la0 : Nat) (la1 : Nat) (cA0 : ClassId) (fa0 : Nat → Int32) (cA1 : ClassId) (fa1 : Nat → Int32) (ota : Nat) (cOt : ClassId) (fot : Nat → Option Nat) (ta0 : Nat) (ta1 : Nat) (ta2 : Nat) (ta3 : Nat) (ta4 : Nat) (ta5 : Nat) (ta6 : Nat) (ta7 : Nat) (ta8 : Nat) (ta9 : Nat) (cB0 : ClassId) (fb0 : Nat → Int32) (y0 : Int32) (cB1 : ClassId) (fb1 : Nat → Int32) (y1 : Int32) (cB2 : ClassId) (fb2 : Nat → Int32) (y2 : Int32) (cB3 : ClassId) (fb3 : Nat → Int32) (y3 : Int32) (cB4 : ClassId) (fb4 : Nat → Int32) (y4 : Int32) (cB5 : ClassId) (fb5 : Nat → Int32) (y5 : Int32) (cB6 : ClassId) (fb6 : Nat → Int32) (y6 : Int32) (cB7 : ClassId) (fb7 : Nat → Int32) (y7 : Int32) (cB8 : ClassId) (fb8 : Nat → Int32) (y8 : Int32) (cB9 : ClassId) (fb9 : Nat → Int32) (y9 : Int32) (hol0 : fol 0 = some la0) (hol1 : fol 1 = some la1) (ha0_0 : fa0 0 = 0) (ha0_1 : fa0 1 = 0) (ha0_8 : fa0 8 = 0) (ha1_0 : fa1 0 = 0) (ha1_1 : fa1 1 = 0) (ha1_8 : fa1 8 = 0) (hot0 : fot 0 = some ta0) (hot1 : fot 1 = some ta1) (hot2 : fot 2 = some ta2) (hot3 : fot 3 = some ta3) (hot4 : fot 4 = some ta4) (hot5 : fot 5 = some ta5) (hot6 : fot 6 = some ta6) (hot7 : fot 7 = some ta7) (hot8 : fot 8 = some ta8) (hot9 : fot 9 = some ta9) (hb0_0 : fb0 0 = (-1)) (hb0_3 : fb0 3 = y0) (hb1_0 : fb1 0 = (-1)) (hb1_3 : fb1 3 = y1) (hb2_0 : fb2 0 = (-1)) (hb2_3 : fb2 3 = y2) (hb3_0 : fb3 0 = (-1)) (hb3_3 : fb3 3 = y3) (hb4_0 : fb4 0 = (-1)) (hb4_3 : fb4 3 = y4) (hb5_0 : fb5 0 = (-1)) (hb5_3 : fb5 3 = y5) (hb6_0 : fb6 0 = (-1)) (hb6_3 : fb6 3 = y6) (hb7_0 : fb7 0 = (-1)) (hb7_3 : fb7 3 = y7) (hb8_0 : fb8 0 = (-1)) (hb8_3 : fb8 3 = y8) (hb9_0 : fb9 0 = (-1)) (hb9_3 : fb9 3 = y9) : Met l yX7_steps wsX7_steps ({ frames := 5, cells := 1, slots := 1024, locals := 116 } : Jvm.Room) (va_Pc [.ref mr, .int 0, .int 0] (zB dC dI ed sz [(mr, .inr (9, [.ref ll, .ref lt, .ref lp, .int 0, .int 0, .int 0, .int 0, .int 0, .int 0, .int 0, .int (-1), .int 0, .int 0, .int 0])), (ll, .inr (1, [.int 2, .ref ola, .int 2])), (ola, .inl (cOl, 10, .inr (.inr (.inr (.inr fol))))), (la0, .inl (cA0, 10, .inl fa0)), (la1, .inl (cA1, 10, .inl fa1)), (lt, .inr (1, [.int 10, .ref ota, .int 10])), (ota, .inl (cOt, 10, .inr (.inr (.inr (.inr fot))))), (ta0, .inl (cB0, 5, .inl fb0)), (ta1, .inl (cB1, 5, .inl fb1)), (ta2, .inl (cB2, 5, .inl fb2)), (ta3, .inl (cB3, 5, .inl fb3)), (ta4, .inl (cB4, 5, .inl fb4)), (ta5, .inl (cB5, 5, .inl fb5)), (ta6, .inl (cB6, 5, .inl fb6)), (ta7, .inl (cB7, 5, .inl fb7)), (ta8, .inl (cB8, 5, .inl fb8)), (ta9, .inl (cB9, 5, .inl fb9))] [] [(cOl, .object "java/lang/Object"), (cA0, .int), (cA1, .int), (cOt, .object "java/lang/Object"), (cB0, .int), (cB1, .int), (cB2, .int), (cB3, .int), (cB4, .int), (cB5, .int), (cB6, .int), (cB7, .int), (cB8, .int), (cB9, .int)])) (va_Qr (fun (_ : Unit) => True) (fun (_ : Unit) (sa : Nat) (t : State) => ∃ (cS : ClassId), ∃ (fs : Nat → Int32), (∀ j : Nat, 3 < j → j < 1024 → fs j = -1) ∧ (fs 0 = 0 ∧ fs 1 = 1 ∧ fs 2 = 1 ∧ fs 3 = 2) ∧ va_P (dC, dI) vwCl [(sa, .inl (cS, 1024, .inl fs))] t.heap ∧ va_D (va_A [] sz) [(sa, .inl (cS, 1024, .inl fs))] ∧ va_K (dC, dI) vwCl [(cS, .int)] t) (va_A [] sz)) 1 1024 (va_A [] sz) := by
  refine Met.ofW (cc := cX7_steps) (maxL := 7) (ret := (some (.array .int))) (by decide) rfl ?_
  intro p e s m args below meth c s₁ B hml hv
  obtain ⟨rfl, hsz, hR0, hP, hK, hD0, hN, hH, hX0⟩ := hv
  have hx := B.exec
  have hb := B.bytes
  have hr := B.returns
  have hts := atoms_spec (ws := wsX7_steps) B.pre
  have hown : s.vm.findClass RX7 = some m.cls := findClass_of_methodNamed B.named
  have hlocks := B.notSynchronized
  subst hsz
  have hD := hD0.self (sz := s.heap.size)
  have hAr := zx_A hX0 hR0
  generalize hAe : va_A [] s.heap.size = A at hD hAr hH ⊢
  have hA : ∀ q : Nat, s.heap.size ≤ q → A q := fun q h => by rw [← hAe]; exact Or.inr h
  have hS : va_S A s.heap s.heap [] := va_S.rf
  have hl := lv_entry ([.ref mr, .int 0, .int 0]) (n := 7) (Nat.le_of_ble_eq_true rfl)
  rw [lg_entry_eq]
  generalize (lg_sl ([.ref mr, .int 0, .int 0]) ++ List.replicate (7 - (lg_sl ([.ref mr, .int 0, .int 0])).length) Slot.unset).toArray = ls at hl ⊢
  have hl : lv_has ls 7 [(0, .ref mr), (1, .int 0), (2, .int 0)] := hl
  refine lv_sipush (v := 1024) hx hb dX7_steps_0 (by decide) ?_
  refine va_newa (atype := .int) (a0 := (1024, .inl (fun _ => 0))) hx hb (hts (.arrayClass .int) (by decide +kernel)) rfl hK hP hD hS hA (fun cA => rfl) (by decide) (N' := 1024) (by decide) (by decide) (Nat.le_of_ble_eq_true rfl) (Nat.le_of_ble_eq_true rfl) dX7_steps_3 (fun q1 cA3 H2 hK hP hD hS => ?_)
  have hP : va_P (dC, dI) vwCl [(q1, .inl (cA3, 1024, .inl (fun _ => 0)))] H2 := hP
  have hD : va_D A [(q1, .inl (cA3, 1024, .inl (fun _ => 0)))] := hD
  refine lv_astore_n (lv' := [(3, .ref q1), (0, .ref mr), (1, .int 0), (2, .int 0)]) hx hb dX7_steps_5 rfl hl (by decide) rfl (fun ls hl => ?_)
  refine lv_iconst (v := 0) hx hb dX7_steps_6 (by decide) ?_
  refine lv_istore (lv' := [(4, .int 0), (3, .ref q1), (0, .ref mr), (1, .int 0), (2, .int 0)]) hx hb dX7_steps_7 hl (by decide) rfl (fun ls hl => ?_)
  refine zo_loop (fun (i : Nat) (H : Heap) (locs : List Loc) (ls : Array Slot) => ∃ (fa : Nat → Int32), (∀ j : Nat, j < i → fa j = -1) ∧ va_P (dC, dI) vwCl [(q1, .inl (cA3, 1024, .inl fa))] H ∧ va_D A [(q1, .inl (cA3, 1024, .inl fa))] ∧ va_S A s.heap H locs ∧ lv_has ls 7 [(4, .int (nI i)), (3, .ref q1), (0, .ref mr), (1, .int 0), (2, .int 0)]) 1024 ⟨(fun _ => 0), fun j h => absurd h (Nat.not_lt_zero j), hP, hD, hS, lv_sub hl [0, 1, 2, 3, 4] rfl⟩ (fun i hi ih H locs ls hI => ?_) (fun H locs ls hI => ?_)
  · obtain ⟨fa, hf, hP, hD, hS, hl⟩ := hI
    refine lv_iload hx hb dX7_steps_9 (lv_at hl 0 rfl) ?_
    refine lv_aload_n hx hb dX7_steps_11 rfl (lv_at hl 1 rfl) ?_
    refine va_alen hx hb hK hP 0 14 rfl rfl (v := 1024) (by exact rfl) dX7_steps_12 ?_
    refine lv_icmp_ge (tgt := 27) hx hb dX7_steps_13 (by decide) (fun h => absurd h (nI_ge (b := 1024) hi (by decide))) (fun _ => ?_)
    refine lv_aload_n hx hb dX7_steps_16 rfl (lv_at hl 1 rfl) ?_
    refine lv_iload hx hb dX7_steps_17 (lv_at hl 0 rfl) ?_
    refine lv_iconst (v := (-1)) hx hb dX7_steps_19 (by decide) ?_
    refine va_iast hx hb hK hP hD hS 0 14 rfl rfl (vp_in_nI (by omega) (by decide)) dX7_steps_20 (fun H5 locs hP hD hS => ?_)
    rw [nI_clamp (n := i) (by omega)] at hP hD
    obtain ⟨f6, ef6⟩ : ∃ z : Nat → Int32, z = upd fa (i) (-1) := ⟨_, rfl⟩
    rw [← ef6] at hP hD
    have hP : va_P (dC, dI) vwCl [(q1, .inl (cA3, 1024, .inl f6))] H5 := hP
    have hD : va_D A [(q1, .inl (cA3, 1024, .inl f6))] := hD
    refine lv_iinc (v := (nI (i + 1))) (lv' := [(4, .int (nI (i + 1))), (3, .ref q1), (0, .ref mr), (1, .int 0), (2, .int 0)]) hx hb dX7_steps_21 hl (k := 0) rfl (nI_1 i) (by decide) rfl (fun ls hl => ?_)
    refine lv_goto (tgt := 9) hx hb dX7_steps_24 (by decide) ?_
    exact ih _ _ _ ⟨f6, by rw [ef6]; exact q_fill hf, hP, hD, hS, lv_sub hl [0, 1, 2, 3, 4] rfl⟩
  · obtain ⟨fa, hf, hP, hD, hS, hl⟩ := hI
    have hg0 : ∀ j : Nat, 3 < j → j < 1024 → fa j = -1 := fun j _ h => hf j h
    refine lv_iload hx hb dX7_steps_9 (lv_at hl 0 rfl) ?_
    refine lv_aload_n hx hb dX7_steps_11 rfl (lv_at hl 1 rfl) ?_
    refine va_alen hx hb hK hP 0 14 rfl rfl (v := 1024) (by exact rfl) dX7_steps_12 ?_
    refine lv_icmp_ge (tgt := 27) hx hb dX7_steps_13 (by decide) (fun _ => ?_) (fun h => absurd (nI_le (a := 1024) (b := 1024) (Nat.le_refl _) (by decide)) h)
    refine lv_aload_n hx hb dX7_steps_27 rfl (lv_at hl 1 rfl) ?_
    refine lv_iload_n hx hb dX7_steps_28 rfl (lv_at hl 3 rfl) ?_
    refine lv_iconst (v := 0) hx hb dX7_steps_29 (by decide) ?_
    refine va_iast hx hb hK hP hD hS 0 14 rfl rfl (by unfold vp_in; decide) dX7_steps_30 (fun H7 locs hP hD hS => ?_)
    obtain ⟨f8, ef8⟩ : ∃ z : Nat → Int32, z = upd fa 0 0 := ⟨_, rfl⟩
    have k9 : f8 1 = (-1) := by rw [ef8]; exact (pk_un (by decide)).trans ((hf 1 (by decide)))
    have k10 : f8 2 = (-1) := by rw [ef8]; exact (pk_un (by decide)).trans ((hf 2 (by decide)))
    have k11 : f8 3 = (-1) := by rw [ef8]; exact (pk_un (by decide)).trans ((hf 3 (by decide)))
    have k12 : f8 0 = 0 := by rw [ef8]; exact pk_us
    have hP : va_P (dC, dI) vwCl [(q1, .inl (cA3, 1024, .inl f8))] H7 := by rw [ef8]; exact hP
    have hD : va_D A [(q1, .inl (cA3, 1024, .inl f8))] := by rw [ef8]; exact hD
    have hg13 : ∀ j : Nat, 3 < j → j < 1024 → f8 j = -1 := fun j h1 h2 => by rw [ef8]; exact (pk_un (by omega)).trans (hg0 j h1 h2)
    refine lv_iload_n hx hb dX7_steps_31 rfl (lv_at hl 3 rfl) ?_
    refine lv_istore (lv' := [(4, .int 0), (3, .ref q1), (0, .ref mr), (1, .int 0), (2, .int 0)]) hx hb dX7_steps_32 hl (by decide) rfl (fun ls hl => ?_)
    refine lv_iload hx hb dX7_steps_34 (lv_at hl 0 rfl) ?_
    refine lv_aload_n hx hb dX7_steps_36 rfl (lv_at hl 1 rfl) ?_
    refine va_alen hx hb hK hP 0 14 rfl rfl (v := 1024) (by exact rfl) dX7_steps_37 ?_
    refine lv_icmp_ge (tgt := 109) hx hb dX7_steps_38 (by decide) (fun h => absurd h (by decide)) (fun _ => ?_)
    refine lv_aload_n hx hb dX7_steps_41 rfl (lv_at hl 1 rfl) ?_
    refine lv_iload hx hb dX7_steps_42 (lv_at hl 0 rfl) ?_
    refine va_iald hx hb hK hP 0 14 rfl rfl (by unfold vp_in; decide) dX7_steps_44 ?_
    refine zo_i (v := 0) (by rw [show Int32.toNatClampNeg 0 = 0 from by decide]; exact k12) ?_
    refine lv_iconst (v := (-1)) hx hb dX7_steps_45 (by decide) ?_
    refine lv_icmp_ne (tgt := 52) hx hb dX7_steps_46 (by decide) (fun _ => ?_) (fun h => absurd h (by decide))
    refine lv_aload_n hx hb dX7_steps_52 rfl (lv_at hl 2 rfl) ?_
    refine lv_iload hx hb dX7_steps_53 (lv_at hl 0 rfl) ?_
    refine lv_iload_n hx hb dX7_steps_55 rfl (lv_at hl 4 rfl) ?_
    have hPr := ((zo_R hR0 hS hAr)).sub (ws' := [(mr, .inr (9, [.ref ll, .ref lt, .ref lp, .int 0, .int 0, .int 0, .int 0, .int 0, .int 0, .int 0, .int (-1), .int 0, .int 0, .int 0])), (ll, .inr (1, [.int 2, .ref ola, .int 2])), (ola, .inl (cOl, 10, .inr (.inr (.inr (.inr fol))))), (la0, .inl (cA0, 10, .inl fa0)), (la1, .inl (cA1, 10, .inl fa1)), (lt, .inr (1, [.int 10, .ref ota, .int 10])), (ota, .inl (cOt, 10, .inr (.inr (.inr (.inr fot))))), (ta0, .inl (cB0, 5, .inl fb0)), (ta1, .inl (cB1, 5, .inl fb1)), (ta2, .inl (cB2, 5, .inl fb2)), (ta3, .inl (cB3, 5, .inl fb3)), (ta4, .inl (cB4, 5, .inl fb4)), (ta5, .inl (cB5, 5, .inl fb5)), (ta6, .inl (cB6, 5, .inl fb6)), (ta7, .inl (cB7, 5, .inl fb7)), (ta8, .inl (cB8, 5, .inl fb8)), (ta9, .inl (cB9, 5, .inl fb9))]) [0, 1, 2, 3, 4, 5, 6, 7, 8, 9, 10, 11, 12, 13, 14, 15, 16] rfl
    have hPc := hP.sub (ws' := []) [] rfl
    have hDc := hD.sub (ws' := []) [] (by decide) rfl
    have hKc := hK.sub (tys' := [(cOl, .object "java/lang/Object"), (cA0, .int), (cA1, .int), (cOt, .object "java/lang/Object"), (cB0, .int), (cB1, .int), (cB2, .int), (cB3, .int), (cB4, .int), (cB5, .int), (cB6, .int), (cB7, .int), (cB8, .int), (cB9, .int)]) [0, 1, 2, 3, 4, 5, 6, 7, 8, 9, 10, 11, 12, 13] rfl
    have hFc := va_free (wc := []) hD hS hA [] rfl
    refine va_calli (va_runV (As := [.int 0, .int 0]) (rest := []) ⟨hx, hb, hml, hown, hts⟩ (cz_Qnext7_0 l dC dI ed H7.size mr ll lt lp ola cOl fol la0 la1 cA0 fa0 cA1 fa1 ota cOt fot ta0 ta1 ta2 ta3 ta4 ta5 ta6 ta7 ta8 ta9 cB0 fb0 y0 cB1 fb1 y1 cB2 fb2 y2 cB3 fb3 y3 cB4 fb4 y4 cB5 fb5 y5 cB6 fb6 y6 cB7 fb7 y7 cB8 fb8 y8 cB9 fb9 y9 hol0 hol1 ha0_0 ha0_1 ha0_8 ha1_0 ha1_1 ha1_8 hot0 hot1 hot2 hot3 hot4 hot5 hot6 hot7 hot8 hot9 hb0_0 hb0_3 hb1_0 hb1_3 hb2_0 hb2_3 hb3_0 hb3_3 hb4_0 hb4_3 hb5_0 hb5_3 hb6_0 hb6_3 hb7_0 hb7_3 hb8_0 hb8_3 hb9_0 hb9_3) (cwV 2 hts gX7_steps_X7_next rfl rfl rfl (by decide +kernel) ⟨Nat.le_of_ble_eq_true rfl, Nat.le_of_ble_eq_true rfl⟩) ⟨zb_blind, va_recv hK (zo_R hR0 hS hAr) (ci := 9) (q0 := 0) rfl rfl, fun U hU hW => ⟨rfl, zb_mk hU hW hPr hPc hKc hDc hN hH hS hFc zx_e⟩⟩ rfl rfl hl.1 rfl (lv_room (Nat.le_of_ble_eq_true rfl)) dX7_steps_56 ⟨Nat.le_of_ble_eq_true rfl, Nat.le_of_ble_eq_true rfl⟩) hS (fun q _ h => hFc q h) hFc (fun r15 u t H14 locs ht hvm hw hB hz1 hk1 hS => ?_)
    obtain rfl : r15 = 3 := hw
    have hP := zo_K hP hk1
    refine lv_istore (lv' := [(5, .int 3), (4, .int 0), (3, .ref q1), (0, .ref mr), (1, .int 0), (2, .int 0)]) hx hb dX7_steps_59 hl (by decide) rfl (fun ls hl => ?_)
    refine lv_iconst (v := 0) hx hb dX7_steps_61 (by decide) ?_
    refine lv_istore (lv' := [(6, .int 0), (5, .int 3), (4, .int 0), (3, .ref q1), (0, .ref mr), (1, .int 0), (2, .int 0)]) hx hb dX7_steps_62 hl (by decide) rfl (fun ls hl => ?_)
    refine lv_iload hx hb dX7_steps_64 (lv_at hl 0 rfl) ?_
    refine lv_bipush (v := 10) hx hb dX7_steps_66 (by decide) ?_
    refine lv_icmp_ge (tgt := 103) hx hb dX7_steps_68 (by decide) (fun h => absurd h (by decide)) (fun _ => ?_)
    refine lv_iload hx hb dX7_steps_71 (lv_at hl 1 rfl) ?_
    refine lv_iload hx hb dX7_steps_73 (lv_at hl 0 rfl) ?_
    refine lv_ishr hx hb dX7_steps_75 ?_
    refine zo_i (v := 3) (by decide) ?_
    refine lv_iconst (v := 1) hx hb dX7_steps_76 (by decide) ?_
    refine lv_iand hx hb dX7_steps_77 ?_
    refine zo_i (v := 1) (by decide) ?_
    refine lv_iconst (v := 1) hx hb dX7_steps_78 (by decide) ?_
    refine lv_icmp_ne (tgt := 97) hx hb dX7_steps_79 (by decide) (fun h => absurd h (by decide)) (fun _ => ?_)
    refine lv_aload_n hx hb dX7_steps_82 rfl (lv_at hl 3 rfl) ?_
    refine lv_iload hx hb dX7_steps_83 (lv_at hl 2 rfl) ?_
    refine lv_iconst (v := 1) hx hb dX7_steps_85 (by decide) ?_
    refine lv_iload hx hb dX7_steps_86 (lv_at hl 0 rfl) ?_
    refine lv_ishl hx hb dX7_steps_88 ?_
    refine zo_i (v := 1) (by decide) ?_
    refine lv_ior hx hb dX7_steps_89 ?_
    refine zo_i (v := 1) (by decide) ?_
    refine lv_aload_n hx hb dX7_steps_90 rfl (lv_at hl 3 rfl) ?_
    refine lv_iload hx hb dX7_steps_91 (lv_at hl 2 rfl) ?_
    refine va_iald hx hb hK hP 0 14 rfl rfl (by unfold vp_in; decide) dX7_steps_93 ?_
    refine zo_i (v := 0) (by rw [show Int32.toNatClampNeg 0 = 0 from by decide]; exact k12) ?_
    refine lv_iconst (v := 1) hx hb dX7_steps_94 (by decide) ?_
    refine lv_iadd hx hb dX7_steps_95 ?_
    refine zo_i (v := 1) (by decide) ?_
    refine va_iast hx hb hK hP hD hS 0 14 rfl rfl (by unfold vp_in; decide) dX7_steps_96 (fun H16 locs hP hD hS => ?_)
    obtain ⟨f17, ef17⟩ : ∃ z : Nat → Int32, z = upd f8 1 1 := ⟨_, rfl⟩
    have k18 : f17 2 = (-1) := by rw [ef17]; exact (pk_un (by decide)).trans (k10)
    have k19 : f17 3 = (-1) := by rw [ef17]; exact (pk_un (by decide)).trans (k11)
    have k20 : f17 0 = 0 := by rw [ef17]; exact (pk_un (by decide)).trans (k12)
    have k21 : f17 1 = 1 := by rw [ef17]; exact pk_us
    have hP : va_P (dC, dI) vwCl [(q1, .inl (cA3, 1024, .inl f17))] H16 := by rw [ef17]; exact hP
    have hD : va_D A [(q1, .inl (cA3, 1024, .inl f17))] := by rw [ef17]; exact hD
    have hg22 : ∀ j : Nat, 3 < j → j < 1024 → f17 j = -1 := fun j h1 h2 => by rw [ef17]; exact (pk_un (by omega)).trans (hg13 j h1 h2)
    refine lv_iinc (v := 1) (lv' := [(6, .int 1), (5, .int 3), (4, .int 0), (3, .ref q1), (0, .ref mr), (1, .int 0), (2, .int 0)]) hx hb dX7_steps_97 hl (k := 0) rfl (by decide) (by decide) rfl (fun ls hl => ?_)
    refine lv_goto (tgt := 64) hx hb dX7_steps_100 (by decide) ?_
    refine lv_iload hx hb dX7_steps_64 (lv_at hl 0 rfl) ?_
    refine lv_bipush (v := 10) hx hb dX7_steps_66 (by decide) ?_
    refine lv_icmp_ge (tgt := 103) hx hb dX7_steps_68 (by decide) (fun h => absurd h (by decide)) (fun _ => ?_)
    refine lv_iload hx hb dX7_steps_71 (lv_at hl 1 rfl) ?_
    refine lv_iload hx hb dX7_steps_73 (lv_at hl 0 rfl) ?_
    refine lv_ishr hx hb dX7_steps_75 ?_
    refine zo_i (v := 1) (by decide) ?_
    refine lv_iconst (v := 1) hx hb dX7_steps_76 (by decide) ?_
    refine lv_iand hx hb dX7_steps_77 ?_
    refine zo_i (v := 1) (by decide) ?_
    refine lv_iconst (v := 1) hx hb dX7_steps_78 (by decide) ?_
    refine lv_icmp_ne (tgt := 97) hx hb dX7_steps_79 (by decide) (fun h => absurd h (by decide)) (fun _ => ?_)
    refine lv_aload_n hx hb dX7_steps_82 rfl (lv_at hl 3 rfl) ?_
    refine lv_iload hx hb dX7_steps_83 (lv_at hl 2 rfl) ?_
    refine lv_iconst (v := 1) hx hb dX7_steps_85 (by decide) ?_
    refine lv_iload hx hb dX7_steps_86 (lv_at hl 0 rfl) ?_
    refine lv_ishl hx hb dX7_steps_88 ?_
    refine zo_i (v := 2) (by decide) ?_
    refine lv_ior hx hb dX7_steps_89 ?_
    refine zo_i (v := 2) (by decide) ?_
    refine lv_aload_n hx hb dX7_steps_90 rfl (lv_at hl 3 rfl) ?_
    refine lv_iload hx hb dX7_steps_91 (lv_at hl 2 rfl) ?_
    refine va_iald hx hb hK hP 0 14 rfl rfl (by unfold vp_in; decide) dX7_steps_93 ?_
    refine zo_i (v := 0) (by rw [show Int32.toNatClampNeg 0 = 0 from by decide]; exact k20) ?_
    refine lv_iconst (v := 1) hx hb dX7_steps_94 (by decide) ?_
    refine lv_iadd hx hb dX7_steps_95 ?_
    refine zo_i (v := 1) (by decide) ?_
    refine va_iast hx hb hK hP hD hS 0 14 rfl rfl (by unfold vp_in; decide) dX7_steps_96 (fun H23 locs hP hD hS => ?_)
    obtain ⟨f24, ef24⟩ : ∃ z : Nat → Int32, z = upd f17 2 1 := ⟨_, rfl⟩
    have k25 : f24 3 = (-1) := by rw [ef24]; exact (pk_un (by decide)).trans (k19)
    have k26 : f24 0 = 0 := by rw [ef24]; exact (pk_un (by decide)).trans (k20)
    have k27 : f24 1 = 1 := by rw [ef24]; exact (pk_un (by decide)).trans (k21)
    have k28 : f24 2 = 1 := by rw [ef24]; exact pk_us
    have hP : va_P (dC, dI) vwCl [(q1, .inl (cA3, 1024, .inl f24))] H23 := by rw [ef24]; exact hP
    have hD : va_D A [(q1, .inl (cA3, 1024, .inl f24))] := by rw [ef24]; exact hD
    have hg29 : ∀ j : Nat, 3 < j → j < 1024 → f24 j = -1 := fun j h1 h2 => by rw [ef24]; exact (pk_un (by omega)).trans (hg22 j h1 h2)
    refine lv_iinc (v := 2) (lv' := [(6, .int 2), (5, .int 3), (4, .int 0), (3, .ref q1), (0, .ref mr), (1, .int 0), (2, .int 0)]) hx hb dX7_steps_97 hl (k := 0) rfl (by decide) (by decide) rfl (fun ls hl => ?_)
    refine lv_goto (tgt := 64) hx hb dX7_steps_100 (by decide) ?_
    refine lv_iload hx hb dX7_steps_64 (lv_at hl 0 rfl) ?_
    refine lv_bipush (v := 10) hx hb dX7_steps_66 (by decide) ?_
    refine lv_icmp_ge (tgt := 103) hx hb dX7_steps_68 (by decide) (fun h => absurd h (by decide)) (fun _ => ?_)
    refine lv_iload hx hb dX7_steps_71 (lv_at hl 1 rfl) ?_
    refine lv_iload hx hb dX7_steps_73 (lv_at hl 0 rfl) ?_
    refine lv_ishr hx hb dX7_steps_75 ?_
    refine zo_i (v := 0) (by decide) ?_
    refine lv_iconst (v := 1) hx hb dX7_steps_76 (by decide) ?_
    refine lv_iand hx hb dX7_steps_77 ?_
    refine zo_i (v := 0) q_0and ?_
    refine lv_iconst (v := 1) hx hb dX7_steps_78 (by decide) ?_
    refine lv_icmp_ne (tgt := 97) hx hb dX7_steps_79 (by decide) (fun _ => ?_) (fun h => absurd h (by decide))
    refine lv_iinc (v := 3) (lv' := [(6, .int 3), (5, .int 3), (4, .int 0), (3, .ref q1), (0, .ref mr), (1, .int 0), (2, .int 0)]) hx hb dX7_steps_97 hl (k := 0) rfl (by decide) (by decide) rfl (fun ls hl => ?_)
    refine lv_goto (tgt := 64) hx hb dX7_steps_100 (by decide) ?_
    refine lv_iload hx hb dX7_steps_64 (lv_at hl 0 rfl) ?_
    refine lv_bipush (v := 10) hx hb dX7_steps_66 (by decide) ?_
    refine lv_icmp_ge (tgt := 103) hx hb dX7_steps_68 (by decide) (fun h => absurd h (by decide)) (fun _ => ?_)
    refine lv_iload hx hb dX7_steps_71 (lv_at hl 1 rfl) ?_
    refine lv_iload hx hb dX7_steps_73 (lv_at hl 0 rfl) ?_
    refine lv_ishr hx hb dX7_steps_75 ?_
    refine zo_i (v := 0) (by decide) ?_
    refine lv_iconst (v := 1) hx hb dX7_steps_76 (by decide) ?_
    refine lv_iand hx hb dX7_steps_77 ?_
    refine zo_i (v := 0) q_0and ?_
    refine lv_iconst (v := 1) hx hb dX7_steps_78 (by decide) ?_
    refine lv_icmp_ne (tgt := 97) hx hb dX7_steps_79 (by decide) (fun _ => ?_) (fun h => absurd h (by decide))
    refine lv_iinc (v := 4) (lv' := [(6, .int 4), (5, .int 3), (4, .int 0), (3, .ref q1), (0, .ref mr), (1, .int 0), (2, .int 0)]) hx hb dX7_steps_97 hl (k := 0) rfl (by decide) (by decide) rfl (fun ls hl => ?_)
    refine lv_goto (tgt := 64) hx hb dX7_steps_100 (by decide) ?_
    refine lv_iload hx hb dX7_steps_64 (lv_at hl 0 rfl) ?_
    refine lv_bipush (v := 10) hx hb dX7_steps_66 (by decide) ?_
    refine lv_icmp_ge (tgt := 103) hx hb dX7_steps_68 (by decide) (fun h => absurd h (by decide)) (fun _ => ?_)
    refine lv_iload hx hb dX7_steps_71 (lv_at hl 1 rfl) ?_
    refine lv_iload hx hb dX7_steps_73 (lv_at hl 0 rfl) ?_
    refine lv_ishr hx hb dX7_steps_75 ?_
    refine zo_i (v := 0) (by decide) ?_
    refine lv_iconst (v := 1) hx hb dX7_steps_76 (by decide) ?_
    refine lv_iand hx hb dX7_steps_77 ?_
    refine zo_i (v := 0) q_0and ?_
    refine lv_iconst (v := 1) hx hb dX7_steps_78 (by decide) ?_
    refine lv_icmp_ne (tgt := 97) hx hb dX7_steps_79 (by decide) (fun _ => ?_) (fun h => absurd h (by decide))
    refine lv_iinc (v := 5) (lv' := [(6, .int 5), (5, .int 3), (4, .int 0), (3, .ref q1), (0, .ref mr), (1, .int 0), (2, .int 0)]) hx hb dX7_steps_97 hl (k := 0) rfl (by decide) (by decide) rfl (fun ls hl => ?_)
    refine lv_goto (tgt := 64) hx hb dX7_steps_100 (by decide) ?_
    refine lv_iload hx hb dX7_steps_64 (lv_at hl 0 rfl) ?_
    refine lv_bipush (v := 10) hx hb dX7_steps_66 (by decide) ?_
    refine lv_icmp_ge (tgt := 103) hx hb dX7_steps_68 (by decide) (fun h => absurd h (by decide)) (fun _ => ?_)
    refine lv_iload hx hb dX7_steps_71 (lv_at hl 1 rfl) ?_
    refine lv_iload hx hb dX7_steps_73 (lv_at hl 0 rfl) ?_
    refine lv_ishr hx hb dX7_steps_75 ?_
    refine zo_i (v := 0) (by decide) ?_
    refine lv_iconst (v := 1) hx hb dX7_steps_76 (by decide) ?_
    refine lv_iand hx hb dX7_steps_77 ?_
    refine zo_i (v := 0) q_0and ?_
    refine lv_iconst (v := 1) hx hb dX7_steps_78 (by decide) ?_
    refine lv_icmp_ne (tgt := 97) hx hb dX7_steps_79 (by decide) (fun _ => ?_) (fun h => absurd h (by decide))
    refine lv_iinc (v := 6) (lv' := [(6, .int 6), (5, .int 3), (4, .int 0), (3, .ref q1), (0, .ref mr), (1, .int 0), (2, .int 0)]) hx hb dX7_steps_97 hl (k := 0) rfl (by decide) (by decide) rfl (fun ls hl => ?_)
    refine lv_goto (tgt := 64) hx hb dX7_steps_100 (by decide) ?_
    refine lv_iload hx hb dX7_steps_64 (lv_at hl 0 rfl) ?_
    refine lv_bipush (v := 10) hx hb dX7_steps_66 (by decide) ?_
    refine lv_icmp_ge (tgt := 103) hx hb dX7_steps_68 (by decide) (fun h => absurd h (by decide)) (fun _ => ?_)
    refine lv_iload hx hb dX7_steps_71 (lv_at hl 1 rfl) ?_
    refine lv_iload hx hb dX7_steps_73 (lv_at hl 0 rfl) ?_
    refine lv_ishr hx hb dX7_steps_75 ?_
    refine zo_i (v := 0) (by decide) ?_
    refine lv_iconst (v := 1) hx hb dX7_steps_76 (by decide) ?_
    refine lv_iand hx hb dX7_steps_77 ?_
    refine zo_i (v := 0) q_0and ?_
    refine lv_iconst (v := 1) hx hb dX7_steps_78 (by decide) ?_
    refine lv_icmp_ne (tgt := 97) hx hb dX7_steps_79 (by decide) (fun _ => ?_) (fun h => absurd h (by decide))
    refine lv_iinc (v := 7) (lv' := [(6, .int 7), (5, .int 3), (4, .int 0), (3, .ref q1), (0, .ref mr), (1, .int 0), (2, .int 0)]) hx hb dX7_steps_97 hl (k := 0) rfl (by decide) (by decide) rfl (fun ls hl => ?_)
    refine lv_goto (tgt := 64) hx hb dX7_steps_100 (by decide) ?_
    refine lv_iload hx hb dX7_steps_64 (lv_at hl 0 rfl) ?_
    refine lv_bipush (v := 10) hx hb dX7_steps_66 (by decide) ?_
    refine lv_icmp_ge (tgt := 103) hx hb dX7_steps_68 (by decide) (fun h => absurd h (by decide)) (fun _ => ?_)
    refine lv_iload hx hb dX7_steps_71 (lv_at hl 1 rfl) ?_
    refine lv_iload hx hb dX7_steps_73 (lv_at hl 0 rfl) ?_
    refine lv_ishr hx hb dX7_steps_75 ?_
    refine zo_i (v := 0) (by decide) ?_
    refine lv_iconst (v := 1) hx hb dX7_steps_76 (by decide) ?_
    refine lv_iand hx hb dX7_steps_77 ?_
    refine zo_i (v := 0) q_0and ?_
    refine lv_iconst (v := 1) hx hb dX7_steps_78 (by decide) ?_
    refine lv_icmp_ne (tgt := 97) hx hb dX7_steps_79 (by decide) (fun _ => ?_) (fun h => absurd h (by decide))
    refine lv_iinc (v := 8) (lv' := [(6, .int 8), (5, .int 3), (4, .int 0), (3, .ref q1), (0, .ref mr), (1, .int 0), (2, .int 0)]) hx hb dX7_steps_97 hl (k := 0) rfl (by decide) (by decide) rfl (fun ls hl => ?_)
    refine lv_goto (tgt := 64) hx hb dX7_steps_100 (by decide) ?_
    refine lv_iload hx hb dX7_steps_64 (lv_at hl 0 rfl) ?_
    refine lv_bipush (v := 10) hx hb dX7_steps_66 (by decide) ?_
    refine lv_icmp_ge (tgt := 103) hx hb dX7_steps_68 (by decide) (fun h => absurd h (by decide)) (fun _ => ?_)
    refine lv_iload hx hb dX7_steps_71 (lv_at hl 1 rfl) ?_
    refine lv_iload hx hb dX7_steps_73 (lv_at hl 0 rfl) ?_
    refine lv_ishr hx hb dX7_steps_75 ?_
    refine zo_i (v := 0) (by decide) ?_
    refine lv_iconst (v := 1) hx hb dX7_steps_76 (by decide) ?_
    refine lv_iand hx hb dX7_steps_77 ?_
    refine zo_i (v := 0) q_0and ?_
    refine lv_iconst (v := 1) hx hb dX7_steps_78 (by decide) ?_
    refine lv_icmp_ne (tgt := 97) hx hb dX7_steps_79 (by decide) (fun _ => ?_) (fun h => absurd h (by decide))
    refine lv_iinc (v := 9) (lv' := [(6, .int 9), (5, .int 3), (4, .int 0), (3, .ref q1), (0, .ref mr), (1, .int 0), (2, .int 0)]) hx hb dX7_steps_97 hl (k := 0) rfl (by decide) (by decide) rfl (fun ls hl => ?_)
    refine lv_goto (tgt := 64) hx hb dX7_steps_100 (by decide) ?_
    refine lv_iload hx hb dX7_steps_64 (lv_at hl 0 rfl) ?_
    refine lv_bipush (v := 10) hx hb dX7_steps_66 (by decide) ?_
    refine lv_icmp_ge (tgt := 103) hx hb dX7_steps_68 (by decide) (fun h => absurd h (by decide)) (fun _ => ?_)
    refine lv_iload hx hb dX7_steps_71 (lv_at hl 1 rfl) ?_
    refine lv_iload hx hb dX7_steps_73 (lv_at hl 0 rfl) ?_
    refine lv_ishr hx hb dX7_steps_75 ?_
    refine zo_i (v := 0) (by decide) ?_
    refine lv_iconst (v := 1) hx hb dX7_steps_76 (by decide) ?_
    refine lv_iand hx hb dX7_steps_77 ?_
    refine zo_i (v := 0) q_0and ?_
    refine lv_iconst (v := 1) hx hb dX7_steps_78 (by decide) ?_
    refine lv_icmp_ne (tgt := 97) hx hb dX7_steps_79 (by decide) (fun _ => ?_) (fun h => absurd h (by decide))
    refine lv_iinc (v := 10) (lv' := [(6, .int 10), (5, .int 3), (4, .int 0), (3, .ref q1), (0, .ref mr), (1, .int 0), (2, .int 0)]) hx hb dX7_steps_97 hl (k := 0) rfl (by decide) (by decide) rfl (fun ls hl => ?_)
    refine lv_goto (tgt := 64) hx hb dX7_steps_100 (by decide) ?_
    refine lv_iload hx hb dX7_steps_64 (lv_at hl 0 rfl) ?_
    refine lv_bipush (v := 10) hx hb dX7_steps_66 (by decide) ?_
    refine lv_icmp_ge (tgt := 103) hx hb dX7_steps_68 (by decide) (fun _ => ?_) (fun h => absurd h (by decide))
    refine lv_iinc (v := 1) (lv' := [(4, .int 1), (6, .int 10), (5, .int 3), (3, .ref q1), (0, .ref mr), (1, .int 0), (2, .int 0)]) hx hb dX7_steps_103 hl (k := 2) rfl (by decide) (by decide) rfl (fun ls hl => ?_)
    refine lv_goto (tgt := 34) hx hb dX7_steps_106 (by decide) ?_
    refine lv_iload hx hb dX7_steps_34 (lv_at hl 0 rfl) ?_
    refine lv_aload_n hx hb dX7_steps_36 rfl (lv_at hl 3 rfl) ?_
    refine va_alen hx hb hK hP 0 14 rfl rfl (v := 1024) (by exact rfl) dX7_steps_37 ?_
    refine lv_icmp_ge (tgt := 109) hx hb dX7_steps_38 (by decide) (fun h => absurd h (by decide)) (fun _ => ?_)
    refine lv_aload_n hx hb dX7_steps_41 rfl (lv_at hl 3 rfl) ?_
    refine lv_iload hx hb dX7_steps_42 (lv_at hl 0 rfl) ?_
    refine va_iald hx hb hK hP 0 14 rfl rfl (by unfold vp_in; decide) dX7_steps_44 ?_
    refine zo_i (v := 1) (by rw [show Int32.toNatClampNeg 1 = 1 from by decide]; exact k27) ?_
    refine lv_iconst (v := (-1)) hx hb dX7_steps_45 (by decide) ?_
    refine lv_icmp_ne (tgt := 52) hx hb dX7_steps_46 (by decide) (fun _ => ?_) (fun h => absurd h (by decide))
    refine lv_aload_n hx hb dX7_steps_52 rfl (lv_at hl 4 rfl) ?_
    refine lv_iload hx hb dX7_steps_53 (lv_at hl 0 rfl) ?_
    refine lv_iload_n hx hb dX7_steps_55 rfl (lv_at hl 6 rfl) ?_
    have hPr := ((zo_R hR0 hS hAr)).sub (ws' := [(mr, .inr (9, [.ref ll, .ref lt, .ref lp, .int 0, .int 0, .int 0, .int 0, .int 0, .int 0, .int 0, .int (-1), .int 0, .int 0, .int 0])), (ll, .inr (1, [.int 2, .ref ola, .int 2])), (ola, .inl (cOl, 10, .inr (.inr (.inr (.inr fol))))), (la0, .inl (cA0, 10, .inl fa0)), (la1, .inl (cA1, 10, .inl fa1)), (lt, .inr (1, [.int 10, .ref ota, .int 10])), (ota, .inl (cOt, 10, .inr (.inr (.inr (.inr fot))))), (ta0, .inl (cB0, 5, .inl fb0)), (ta1, .inl (cB1, 5, .inl fb1)), (ta2, .inl (cB2, 5, .inl fb2)), (ta3, .inl (cB3, 5, .inl fb3)), (ta4, .inl (cB4, 5, .inl fb4)), (ta5, .inl (cB5, 5, .inl fb5)), (ta6, .inl (cB6, 5, .inl fb6)), (ta7, .inl (cB7, 5, .inl fb7)), (ta8, .inl (cB8, 5, .inl fb8)), (ta9, .inl (cB9, 5, .inl fb9))]) [0, 1, 2, 3, 4, 5, 6, 7, 8, 9, 10, 11, 12, 13, 14, 15, 16] rfl
    have hPc := hP.sub (ws' := []) [] rfl
    have hDc := hD.sub (ws' := []) [] (by decide) rfl
    have hKc := hK.sub (tys' := [(cOl, .object "java/lang/Object"), (cA0, .int), (cA1, .int), (cOt, .object "java/lang/Object"), (cB0, .int), (cB1, .int), (cB2, .int), (cB3, .int), (cB4, .int), (cB5, .int), (cB6, .int), (cB7, .int), (cB8, .int), (cB9, .int)]) [0, 1, 2, 3, 4, 5, 6, 7, 8, 9, 10, 11, 12, 13] rfl
    have hFc := va_free (wc := []) hD hS hA [] rfl
    refine va_calli (va_runV (As := [.int 1, .int 0]) (rest := []) ⟨hx, hb, hml, hown, hts⟩ (cz_Qnext7_1 l dC dI ed H23.size mr ll lt lp ola cOl fol la0 la1 cA0 fa0 cA1 fa1 ota cOt fot ta0 ta1 ta2 ta3 ta4 ta5 ta6 ta7 ta8 ta9 cB0 fb0 y0 cB1 fb1 y1 cB2 fb2 y2 cB3 fb3 y3 cB4 fb4 y4 cB5 fb5 y5 cB6 fb6 y6 cB7 fb7 y7 cB8 fb8 y8 cB9 fb9 y9 hol0 hol1 ha0_0 ha0_1 ha0_8 ha1_0 ha1_1 ha1_8 hot0 hot1 hot2 hot3 hot4 hot5 hot6 hot7 hot8 hot9 hb0_0 hb0_3 hb1_0 hb1_3 hb2_0 hb2_3 hb3_0 hb3_3 hb4_0 hb4_3 hb5_0 hb5_3 hb6_0 hb6_3 hb7_0 hb7_3 hb8_0 hb8_3 hb9_0 hb9_3) (cwV 2 hts gX7_steps_X7_next rfl rfl rfl (by decide +kernel) ⟨Nat.le_of_ble_eq_true rfl, Nat.le_of_ble_eq_true rfl⟩) ⟨zb_blind, va_recv hK (zo_R hR0 hS hAr) (ci := 9) (q0 := 0) rfl rfl, fun U hU hW => ⟨rfl, zb_mk hU hW hPr hPc hKc hDc hN hH hS hFc zx_e⟩⟩ rfl rfl hl.1 rfl (lv_room (Nat.le_of_ble_eq_true rfl)) dX7_steps_56 ⟨Nat.le_of_ble_eq_true rfl, Nat.le_of_ble_eq_true rfl⟩) hS (fun q _ h => hFc q h) hFc (fun r31 u t H30 locs ht hvm hw hB hz1 hk1 hS => ?_)
    obtain rfl : r31 = 2 := hw
    have hP := zo_K hP hk1
    refine lv_istore (lv' := [(5, .int 2), (4, .int 1), (6, .int 10), (3, .ref q1), (0, .ref mr), (1, .int 0), (2, .int 0)]) hx hb dX7_steps_59 hl (by decide) rfl (fun ls hl => ?_)
    refine lv_iconst (v := 0) hx hb dX7_steps_61 (by decide) ?_
    refine lv_istore (lv' := [(6, .int 0), (5, .int 2), (4, .int 1), (3, .ref q1), (0, .ref mr), (1, .int 0), (2, .int 0)]) hx hb dX7_steps_62 hl (by decide) rfl (fun ls hl => ?_)
    refine lv_iload hx hb dX7_steps_64 (lv_at hl 0 rfl) ?_
    refine lv_bipush (v := 10) hx hb dX7_steps_66 (by decide) ?_
    refine lv_icmp_ge (tgt := 103) hx hb dX7_steps_68 (by decide) (fun h => absurd h (by decide)) (fun _ => ?_)
    refine lv_iload hx hb dX7_steps_71 (lv_at hl 1 rfl) ?_
    refine lv_iload hx hb dX7_steps_73 (lv_at hl 0 rfl) ?_
    refine lv_ishr hx hb dX7_steps_75 ?_
    refine zo_i (v := 2) (by decide) ?_
    refine lv_iconst (v := 1) hx hb dX7_steps_76 (by decide) ?_
    refine lv_iand hx hb dX7_steps_77 ?_
    refine zo_i (v := 0) (by decide) ?_
    refine lv_iconst (v := 1) hx hb dX7_steps_78 (by decide) ?_
    refine lv_icmp_ne (tgt := 97) hx hb dX7_steps_79 (by decide) (fun _ => ?_) (fun h => absurd h (by decide))
    refine lv_iinc (v := 1) (lv' := [(6, .int 1), (5, .int 2), (4, .int 1), (3, .ref q1), (0, .ref mr), (1, .int 0), (2, .int 0)]) hx hb dX7_steps_97 hl (k := 0) rfl (by decide) (by decide) rfl (fun ls hl => ?_)
    refine lv_goto (tgt := 64) hx hb dX7_steps_100 (by decide) ?_
    refine lv_iload hx hb dX7_steps_64 (lv_at hl 0 rfl) ?_
    refine lv_bipush (v := 10) hx hb dX7_steps_66 (by decide) ?_
    refine lv_icmp_ge (tgt := 103) hx hb dX7_steps_68 (by decide) (fun h => absurd h (by decide)) (fun _ => ?_)
    refine lv_iload hx hb dX7_steps_71 (lv_at hl 1 rfl) ?_
    refine lv_iload hx hb dX7_steps_73 (lv_at hl 0 rfl) ?_
    refine lv_ishr hx hb dX7_steps_75 ?_
    refine zo_i (v := 1) (by decide) ?_
    refine lv_iconst (v := 1) hx hb dX7_steps_76 (by decide) ?_
    refine lv_iand hx hb dX7_steps_77 ?_
    refine zo_i (v := 1) (by decide) ?_
    refine lv_iconst (v := 1) hx hb dX7_steps_78 (by decide) ?_
    refine lv_icmp_ne (tgt := 97) hx hb dX7_steps_79 (by decide) (fun h => absurd h (by decide)) (fun _ => ?_)
    refine lv_aload_n hx hb dX7_steps_82 rfl (lv_at hl 3 rfl) ?_
    refine lv_iload hx hb dX7_steps_83 (lv_at hl 2 rfl) ?_
    refine lv_iconst (v := 1) hx hb dX7_steps_85 (by decide) ?_
    refine lv_iload hx hb dX7_steps_86 (lv_at hl 0 rfl) ?_
    refine lv_ishl hx hb dX7_steps_88 ?_
    refine zo_i (v := 2) (by decide) ?_
    refine lv_ior hx hb dX7_steps_89 ?_
    refine zo_i (v := 3) (by decide) ?_
    refine lv_aload_n hx hb dX7_steps_90 rfl (lv_at hl 3 rfl) ?_
    refine lv_iload hx hb dX7_steps_91 (lv_at hl 2 rfl) ?_
    refine va_iald hx hb hK hP 0 14 rfl rfl (by unfold vp_in; decide) dX7_steps_93 ?_
    refine zo_i (v := 1) (by rw [show Int32.toNatClampNeg 1 = 1 from by decide]; exact k27) ?_
    refine lv_iconst (v := 1) hx hb dX7_steps_94 (by decide) ?_
    refine lv_iadd hx hb dX7_steps_95 ?_
    refine zo_i (v := 2) (by decide) ?_
    refine va_iast hx hb hK hP hD hS 0 14 rfl rfl (by unfold vp_in; decide) dX7_steps_96 (fun H32 locs hP hD hS => ?_)
    obtain ⟨f33, ef33⟩ : ∃ z : Nat → Int32, z = upd f24 3 2 := ⟨_, rfl⟩
    have k34 : f33 0 = 0 := by rw [ef33]; exact (pk_un (by decide)).trans (k26)
    have k35 : f33 1 = 1 := by rw [ef33]; exact (pk_un (by decide)).trans (k27)
    have k36 : f33 2 = 1 := by rw [ef33]; exact (pk_un (by decide)).trans (k28)
    have k37 : f33 3 = 2 := by rw [ef33]; exact pk_us
    have hP : va_P (dC, dI) vwCl [(q1, .inl (cA3, 1024, .inl f33))] H32 := by rw [ef33]; exact hP
    have hD : va_D A [(q1, .inl (cA3, 1024, .inl f33))] := by rw [ef33]; exact hD
    have hg38 : ∀ j : Nat, 3 < j → j < 1024 → f33 j = -1 := fun j h1 h2 => by rw [ef33]; exact (pk_un (by omega)).trans (hg29 j h1 h2)
    refine lv_iinc (v := 2) (lv' := [(6, .int 2), (5, .int 2), (4, .int 1), (3, .ref q1), (0, .ref mr), (1, .int 0), (2, .int 0)]) hx hb dX7_steps_97 hl (k := 0) rfl (by decide) (by decide) rfl (fun ls hl => ?_)
    refine lv_goto (tgt := 64) hx hb dX7_steps_100 (by decide) ?_
    refine lv_iload hx hb dX7_steps_64 (lv_at hl 0 rfl) ?_
    refine lv_bipush (v := 10) hx hb dX7_steps_66 (by decide) ?_
    refine lv_icmp_ge (tgt := 103) hx hb dX7_steps_68 (by decide) (fun h => absurd h (by decide)) (fun _ => ?_)
    refine lv_iload hx hb dX7_steps_71 (lv_at hl 1 rfl) ?_
    refine lv_iload hx hb dX7_steps_73 (lv_at hl 0 rfl) ?_
    refine lv_ishr hx hb dX7_steps_75 ?_
    refine zo_i (v := 0) (by decide) ?_
    refine lv_iconst (v := 1) hx hb dX7_steps_76 (by decide) ?_
    refine lv_iand hx hb dX7_steps_77 ?_
    refine zo_i (v := 0) q_0and ?_
    refine lv_iconst (v := 1) hx hb dX7_steps_78 (by decide) ?_
    refine lv_icmp_ne (tgt := 97) hx hb dX7_steps_79 (by decide) (fun _ => ?_) (fun h => absurd h (by decide))
    refine lv_iinc (v := 3) (lv' := [(6, .int 3), (5, .int 2), (4, .int 1), (3, .ref q1), (0, .ref mr), (1, .int 0), (2, .int 0)]) hx hb dX7_steps_97 hl (k := 0) rfl (by decide) (by decide) rfl (fun ls hl => ?_)
    refine lv_goto (tgt := 64) hx hb dX7_steps_100 (by decide) ?_
    refine lv_iload hx hb dX7_steps_64 (lv_at hl 0 rfl) ?_
    refine lv_bipush (v := 10) hx hb dX7_steps_66 (by decide) ?_
    refine lv_icmp_ge (tgt := 103) hx hb dX7_steps_68 (by decide) (fun h => absurd h (by decide)) (fun _ => ?_)
    refine lv_iload hx hb dX7_steps_71 (lv_at hl 1 rfl) ?_
    refine lv_iload hx hb dX7_steps_73 (lv_at hl 0 rfl) ?_
    refine lv_ishr hx hb dX7_steps_75 ?_
    refine zo_i (v := 0) (by decide) ?_
    refine lv_iconst (v := 1) hx hb dX7_steps_76 (by decide) ?_
    refine lv_iand hx hb dX7_steps_77 ?_
    refine zo_i (v := 0) q_0and ?_
    refine lv_iconst (v := 1) hx hb dX7_steps_78 (by decide) ?_
    refine lv_icmp_ne (tgt := 97) hx hb dX7_steps_79 (by decide) (fun _ => ?_) (fun h => absurd h (by decide))
    refine lv_iinc (v := 4) (lv' := [(6, .int 4), (5, .int 2), (4, .int 1), (3, .ref q1), (0, .ref mr), (1, .int 0), (2, .int 0)]) hx hb dX7_steps_97 hl (k := 0) rfl (by decide) (by decide) rfl (fun ls hl => ?_)
    refine lv_goto (tgt := 64) hx hb dX7_steps_100 (by decide) ?_
    refine lv_iload hx hb dX7_steps_64 (lv_at hl 0 rfl) ?_
    refine lv_bipush (v := 10) hx hb dX7_steps_66 (by decide) ?_
    refine lv_icmp_ge (tgt := 103) hx hb dX7_steps_68 (by decide) (fun h => absurd h (by decide)) (fun _ => ?_)
    refine lv_iload hx hb dX7_steps_71 (lv_at hl 1 rfl) ?_
    refine lv_iload hx hb dX7_steps_73 (lv_at hl 0 rfl) ?_
    refine lv_ishr hx hb dX7_steps_75 ?_
    refine zo_i (v := 0) (by decide) ?_
    refine lv_iconst (v := 1) hx hb dX7_steps_76 (by decide) ?_
    refine lv_iand hx hb dX7_steps_77 ?_
    refine zo_i (v := 0) q_0and ?_
    refine lv_iconst (v := 1) hx hb dX7_steps_78 (by decide) ?_
    refine lv_icmp_ne (tgt := 97) hx hb dX7_steps_79 (by decide) (fun _ => ?_) (fun h => absurd h (by decide))
    refine lv_iinc (v := 5) (lv' := [(6, .int 5), (5, .int 2), (4, .int 1), (3, .ref q1), (0, .ref mr), (1, .int 0), (2, .int 0)]) hx hb dX7_steps_97 hl (k := 0) rfl (by decide) (by decide) rfl (fun ls hl => ?_)
    refine lv_goto (tgt := 64) hx hb dX7_steps_100 (by decide) ?_
    refine lv_iload hx hb dX7_steps_64 (lv_at hl 0 rfl) ?_
    refine lv_bipush (v := 10) hx hb dX7_steps_66 (by decide) ?_
    refine lv_icmp_ge (tgt := 103) hx hb dX7_steps_68 (by decide) (fun h => absurd h (by decide)) (fun _ => ?_)
    refine lv_iload hx hb dX7_steps_71 (lv_at hl 1 rfl) ?_
    refine lv_iload hx hb dX7_steps_73 (lv_at hl 0 rfl) ?_
    refine lv_ishr hx hb dX7_steps_75 ?_
    refine zo_i (v := 0) (by decide) ?_
    refine lv_iconst (v := 1) hx hb dX7_steps_76 (by decide) ?_
    refine lv_iand hx hb dX7_steps_77 ?_
    refine zo_i (v := 0) q_0and ?_
    refine lv_iconst (v := 1) hx hb dX7_steps_78 (by decide) ?_
    refine lv_icmp_ne (tgt := 97) hx hb dX7_steps_79 (by decide) (fun _ => ?_) (fun h => absurd h (by decide))
    refine lv_iinc (v := 6) (lv' := [(6, .int 6), (5, .int 2), (4, .int 1), (3, .ref q1), (0, .ref mr), (1, .int 0), (2, .int 0)]) hx hb dX7_steps_97 hl (k := 0) rfl (by decide) (by decide) rfl (fun ls hl => ?_)
    refine lv_goto (tgt := 64) hx hb dX7_steps_100 (by decide) ?_
    refine lv_iload hx hb dX7_steps_64 (lv_at hl 0 rfl) ?_
    refine lv_bipush (v := 10) hx hb dX7_steps_66 (by decide) ?_
    refine lv_icmp_ge (tgt := 103) hx hb dX7_steps_68 (by decide) (fun h => absurd h (by decide)) (fun _ => ?_)
    refine lv_iload hx hb dX7_steps_71 (lv_at hl 1 rfl) ?_
    refine lv_iload hx hb dX7_steps_73 (lv_at hl 0 rfl) ?_
    refine lv_ishr hx hb dX7_steps_75 ?_
    refine zo_i (v := 0) (by decide) ?_
    refine lv_iconst (v := 1) hx hb dX7_steps_76 (by decide) ?_
    refine lv_iand hx hb dX7_steps_77 ?_
    refine zo_i (v := 0) q_0and ?_
    refine lv_iconst (v := 1) hx hb dX7_steps_78 (by decide) ?_
    refine lv_icmp_ne (tgt := 97) hx hb dX7_steps_79 (by decide) (fun _ => ?_) (fun h => absurd h (by decide))
    refine lv_iinc (v := 7) (lv' := [(6, .int 7), (5, .int 2), (4, .int 1), (3, .ref q1), (0, .ref mr), (1, .int 0), (2, .int 0)]) hx hb dX7_steps_97 hl (k := 0) rfl (by decide) (by decide) rfl (fun ls hl => ?_)
    refine lv_goto (tgt := 64) hx hb dX7_steps_100 (by decide) ?_
    refine lv_iload hx hb dX7_steps_64 (lv_at hl 0 rfl) ?_
    refine lv_bipush (v := 10) hx hb dX7_steps_66 (by decide) ?_
    refine lv_icmp_ge (tgt := 103) hx hb dX7_steps_68 (by decide) (fun h => absurd h (by decide)) (fun _ => ?_)
    refine lv_iload hx hb dX7_steps_71 (lv_at hl 1 rfl) ?_
    refine lv_iload hx hb dX7_steps_73 (lv_at hl 0 rfl) ?_
    refine lv_ishr hx hb dX7_steps_75 ?_
    refine zo_i (v := 0) (by decide) ?_
    refine lv_iconst (v := 1) hx hb dX7_steps_76 (by decide) ?_
    refine lv_iand hx hb dX7_steps_77 ?_
    refine zo_i (v := 0) q_0and ?_
    refine lv_iconst (v := 1) hx hb dX7_steps_78 (by decide) ?_
    refine lv_icmp_ne (tgt := 97) hx hb dX7_steps_79 (by decide) (fun _ => ?_) (fun h => absurd h (by decide))
    refine lv_iinc (v := 8) (lv' := [(6, .int 8), (5, .int 2), (4, .int 1), (3, .ref q1), (0, .ref mr), (1, .int 0), (2, .int 0)]) hx hb dX7_steps_97 hl (k := 0) rfl (by decide) (by decide) rfl (fun ls hl => ?_)
    refine lv_goto (tgt := 64) hx hb dX7_steps_100 (by decide) ?_
    refine lv_iload hx hb dX7_steps_64 (lv_at hl 0 rfl) ?_
    refine lv_bipush (v := 10) hx hb dX7_steps_66 (by decide) ?_
    refine lv_icmp_ge (tgt := 103) hx hb dX7_steps_68 (by decide) (fun h => absurd h (by decide)) (fun _ => ?_)
    refine lv_iload hx hb dX7_steps_71 (lv_at hl 1 rfl) ?_
    refine lv_iload hx hb dX7_steps_73 (lv_at hl 0 rfl) ?_
    refine lv_ishr hx hb dX7_steps_75 ?_
    refine zo_i (v := 0) (by decide) ?_
    refine lv_iconst (v := 1) hx hb dX7_steps_76 (by decide) ?_
    refine lv_iand hx hb dX7_steps_77 ?_
    refine zo_i (v := 0) q_0and ?_
    refine lv_iconst (v := 1) hx hb dX7_steps_78 (by decide) ?_
    refine lv_icmp_ne (tgt := 97) hx hb dX7_steps_79 (by decide) (fun _ => ?_) (fun h => absurd h (by decide))
    refine lv_iinc (v := 9) (lv' := [(6, .int 9), (5, .int 2), (4, .int 1), (3, .ref q1), (0, .ref mr), (1, .int 0), (2, .int 0)]) hx hb dX7_steps_97 hl (k := 0) rfl (by decide) (by decide) rfl (fun ls hl => ?_)
    refine lv_goto (tgt := 64) hx hb dX7_steps_100 (by decide) ?_
    refine lv_iload hx hb dX7_steps_64 (lv_at hl 0 rfl) ?_
    refine lv_bipush (v := 10) hx hb dX7_steps_66 (by decide) ?_
    refine lv_icmp_ge (tgt := 103) hx hb dX7_steps_68 (by decide) (fun h => absurd h (by decide)) (fun _ => ?_)
    refine lv_iload hx hb dX7_steps_71 (lv_at hl 1 rfl) ?_
    refine lv_iload hx hb dX7_steps_73 (lv_at hl 0 rfl) ?_
    refine lv_ishr hx hb dX7_steps_75 ?_
    refine zo_i (v := 0) (by decide) ?_
    refine lv_iconst (v := 1) hx hb dX7_steps_76 (by decide) ?_
    refine lv_iand hx hb dX7_steps_77 ?_
    refine zo_i (v := 0) q_0and ?_
    refine lv_iconst (v := 1) hx hb dX7_steps_78 (by decide) ?_
    refine lv_icmp_ne (tgt := 97) hx hb dX7_steps_79 (by decide) (fun _ => ?_) (fun h => absurd h (by decide))
    refine lv_iinc (v := 10) (lv' := [(6, .int 10), (5, .int 2), (4, .int 1), (3, .ref q1), (0, .ref mr), (1, .int 0), (2, .int 0)]) hx hb dX7_steps_97 hl (k := 0) rfl (by decide) (by decide) rfl (fun ls hl => ?_)
    refine lv_goto (tgt := 64) hx hb dX7_steps_100 (by decide) ?_
    refine lv_iload hx hb dX7_steps_64 (lv_at hl 0 rfl) ?_
    refine lv_bipush (v := 10) hx hb dX7_steps_66 (by decide) ?_
    refine lv_icmp_ge (tgt := 103) hx hb dX7_steps_68 (by decide) (fun _ => ?_) (fun h => absurd h (by decide))
    refine lv_iinc (v := 2) (lv' := [(4, .int 2), (6, .int 10), (5, .int 2), (3, .ref q1), (0, .ref mr), (1, .int 0), (2, .int 0)]) hx hb dX7_steps_103 hl (k := 2) rfl (by decide) (by decide) rfl (fun ls hl => ?_)
    refine lv_goto (tgt := 34) hx hb dX7_steps_106 (by decide) ?_
    refine lv_iload hx hb dX7_steps_34 (lv_at hl 0 rfl) ?_
    refine lv_aload_n hx hb dX7_steps_36 rfl (lv_at hl 3 rfl) ?_
    refine va_alen hx hb hK hP 0 14 rfl rfl (v := 1024) (by exact rfl) dX7_steps_37 ?_
    refine lv_icmp_ge (tgt := 109) hx hb dX7_steps_38 (by decide) (fun h => absurd h (by decide)) (fun _ => ?_)
    refine lv_aload_n hx hb dX7_steps_41 rfl (lv_at hl 3 rfl) ?_
    refine lv_iload hx hb dX7_steps_42 (lv_at hl 0 rfl) ?_
    refine va_iald hx hb hK hP 0 14 rfl rfl (by unfold vp_in; decide) dX7_steps_44 ?_
    refine zo_i (v := 1) (by rw [show Int32.toNatClampNeg 2 = 2 from by decide]; exact k36) ?_
    refine lv_iconst (v := (-1)) hx hb dX7_steps_45 (by decide) ?_
    refine lv_icmp_ne (tgt := 52) hx hb dX7_steps_46 (by decide) (fun _ => ?_) (fun h => absurd h (by decide))
    refine lv_aload_n hx hb dX7_steps_52 rfl (lv_at hl 4 rfl) ?_
    refine lv_iload hx hb dX7_steps_53 (lv_at hl 0 rfl) ?_
    refine lv_iload_n hx hb dX7_steps_55 rfl (lv_at hl 6 rfl) ?_
    have hPr := ((zo_R hR0 hS hAr)).sub (ws' := [(mr, .inr (9, [.ref ll, .ref lt, .ref lp, .int 0, .int 0, .int 0, .int 0, .int 0, .int 0, .int 0, .int (-1), .int 0, .int 0, .int 0])), (ll, .inr (1, [.int 2, .ref ola, .int 2])), (ola, .inl (cOl, 10, .inr (.inr (.inr (.inr fol))))), (la0, .inl (cA0, 10, .inl fa0)), (la1, .inl (cA1, 10, .inl fa1)), (lt, .inr (1, [.int 10, .ref ota, .int 10])), (ota, .inl (cOt, 10, .inr (.inr (.inr (.inr fot))))), (ta0, .inl (cB0, 5, .inl fb0)), (ta1, .inl (cB1, 5, .inl fb1)), (ta2, .inl (cB2, 5, .inl fb2)), (ta3, .inl (cB3, 5, .inl fb3)), (ta4, .inl (cB4, 5, .inl fb4)), (ta5, .inl (cB5, 5, .inl fb5)), (ta6, .inl (cB6, 5, .inl fb6)), (ta7, .inl (cB7, 5, .inl fb7)), (ta8, .inl (cB8, 5, .inl fb8)), (ta9, .inl (cB9, 5, .inl fb9))]) [0, 1, 2, 3, 4, 5, 6, 7, 8, 9, 10, 11, 12, 13, 14, 15, 16] rfl
    have hPc := hP.sub (ws' := []) [] rfl
    have hDc := hD.sub (ws' := []) [] (by decide) rfl
    have hKc := hK.sub (tys' := [(cOl, .object "java/lang/Object"), (cA0, .int), (cA1, .int), (cOt, .object "java/lang/Object"), (cB0, .int), (cB1, .int), (cB2, .int), (cB3, .int), (cB4, .int), (cB5, .int), (cB6, .int), (cB7, .int), (cB8, .int), (cB9, .int)]) [0, 1, 2, 3, 4, 5, 6, 7, 8, 9, 10, 11, 12, 13] rfl
    have hFc := va_free (wc := []) hD hS hA [] rfl
    refine va_calli (va_runV (As := [.int 2, .int 0]) (rest := []) ⟨hx, hb, hml, hown, hts⟩ (cz_Qnext7_2 l dC dI ed H32.size mr ll lt lp ola cOl fol la0 la1 cA0 fa0 cA1 fa1 ota cOt fot ta0 ta1 ta2 ta3 ta4 ta5 ta6 ta7 ta8 ta9 cB0 fb0 y0 cB1 fb1 y1 cB2 fb2 y2 cB3 fb3 y3 cB4 fb4 y4 cB5 fb5 y5 cB6 fb6 y6 cB7 fb7 y7 cB8 fb8 y8 cB9 fb9 y9 hol0 hol1 ha0_0 ha0_1 ha0_8 ha1_0 ha1_1 ha1_8 hot0 hot1 hot2 hot3 hot4 hot5 hot6 hot7 hot8 hot9 hb0_0 hb0_3 hb1_0 hb1_3 hb2_0 hb2_3 hb3_0 hb3_3 hb4_0 hb4_3 hb5_0 hb5_3 hb6_0 hb6_3 hb7_0 hb7_3 hb8_0 hb8_3 hb9_0 hb9_3) (cwV 2 hts gX7_steps_X7_next rfl rfl rfl (by decide +kernel) ⟨Nat.le_of_ble_eq_true rfl, Nat.le_of_ble_eq_true rfl⟩) ⟨zb_blind, va_recv hK (zo_R hR0 hS hAr) (ci := 9) (q0 := 0) rfl rfl, fun U hU hW => ⟨rfl, zb_mk hU hW hPr hPc hKc hDc hN hH hS hFc zx_e⟩⟩ rfl rfl hl.1 rfl (lv_room (Nat.le_of_ble_eq_true rfl)) dX7_steps_56 ⟨Nat.le_of_ble_eq_true rfl, Nat.le_of_ble_eq_true rfl⟩) hS (fun q _ h => hFc q h) hFc (fun r40 u t H39 locs ht hvm hw hB hz1 hk1 hS => ?_)
    obtain rfl : r40 = 1 := hw
    have hP := zo_K hP hk1
    refine lv_istore (lv' := [(5, .int 1), (4, .int 2), (6, .int 10), (3, .ref q1), (0, .ref mr), (1, .int 0), (2, .int 0)]) hx hb dX7_steps_59 hl (by decide) rfl (fun ls hl => ?_)
    refine lv_iconst (v := 0) hx hb dX7_steps_61 (by decide) ?_
    refine lv_istore (lv' := [(6, .int 0), (5, .int 1), (4, .int 2), (3, .ref q1), (0, .ref mr), (1, .int 0), (2, .int 0)]) hx hb dX7_steps_62 hl (by decide) rfl (fun ls hl => ?_)
    refine lv_iload hx hb dX7_steps_64 (lv_at hl 0 rfl) ?_
    refine lv_bipush (v := 10) hx hb dX7_steps_66 (by decide) ?_
    refine lv_icmp_ge (tgt := 103) hx hb dX7_steps_68 (by decide) (fun h => absurd h (by decide)) (fun _ => ?_)
    refine lv_iload hx hb dX7_steps_71 (lv_at hl 1 rfl) ?_
    refine lv_iload hx hb dX7_steps_73 (lv_at hl 0 rfl) ?_
    refine lv_ishr hx hb dX7_steps_75 ?_
    refine zo_i (v := 1) (by decide) ?_
    refine lv_iconst (v := 1) hx hb dX7_steps_76 (by decide) ?_
    refine lv_iand hx hb dX7_steps_77 ?_
    refine zo_i (v := 1) (by decide) ?_
    refine lv_iconst (v := 1) hx hb dX7_steps_78 (by decide) ?_
    refine lv_icmp_ne (tgt := 97) hx hb dX7_steps_79 (by decide) (fun h => absurd h (by decide)) (fun _ => ?_)
    refine lv_aload_n hx hb dX7_steps_82 rfl (lv_at hl 3 rfl) ?_
    refine lv_iload hx hb dX7_steps_83 (lv_at hl 2 rfl) ?_
    refine lv_iconst (v := 1) hx hb dX7_steps_85 (by decide) ?_
    refine lv_iload hx hb dX7_steps_86 (lv_at hl 0 rfl) ?_
    refine lv_ishl hx hb dX7_steps_88 ?_
    refine zo_i (v := 1) (by decide) ?_
    refine lv_ior hx hb dX7_steps_89 ?_
    refine zo_i (v := 3) (by decide) ?_
    refine lv_aload_n hx hb dX7_steps_90 rfl (lv_at hl 3 rfl) ?_
    refine lv_iload hx hb dX7_steps_91 (lv_at hl 2 rfl) ?_
    refine va_iald hx hb hK hP 0 14 rfl rfl (by unfold vp_in; decide) dX7_steps_93 ?_
    refine zo_i (v := 1) (by rw [show Int32.toNatClampNeg 2 = 2 from by decide]; exact k36) ?_
    refine lv_iconst (v := 1) hx hb dX7_steps_94 (by decide) ?_
    refine lv_iadd hx hb dX7_steps_95 ?_
    refine zo_i (v := 2) (by decide) ?_
    refine va_iast hx hb hK hP hD hS 0 14 rfl rfl (by unfold vp_in; decide) dX7_steps_96 (fun H41 locs hP hD hS => ?_)
    obtain ⟨f42, ef42⟩ : ∃ z : Nat → Int32, z = upd f33 3 2 := ⟨_, rfl⟩
    have k43 : f42 0 = 0 := by rw [ef42]; exact (pk_un (by decide)).trans (k34)
    have k44 : f42 1 = 1 := by rw [ef42]; exact (pk_un (by decide)).trans (k35)
    have k45 : f42 2 = 1 := by rw [ef42]; exact (pk_un (by decide)).trans (k36)
    have k46 : f42 3 = 2 := by rw [ef42]; exact pk_us
    have hP : va_P (dC, dI) vwCl [(q1, .inl (cA3, 1024, .inl f42))] H41 := by rw [ef42]; exact hP
    have hD : va_D A [(q1, .inl (cA3, 1024, .inl f42))] := by rw [ef42]; exact hD
    have hg47 : ∀ j : Nat, 3 < j → j < 1024 → f42 j = -1 := fun j h1 h2 => by rw [ef42]; exact (pk_un (by omega)).trans (hg38 j h1 h2)
    refine lv_iinc (v := 1) (lv' := [(6, .int 1), (5, .int 1), (4, .int 2), (3, .ref q1), (0, .ref mr), (1, .int 0), (2, .int 0)]) hx hb dX7_steps_97 hl (k := 0) rfl (by decide) (by decide) rfl (fun ls hl => ?_)
    refine lv_goto (tgt := 64) hx hb dX7_steps_100 (by decide) ?_
    refine lv_iload hx hb dX7_steps_64 (lv_at hl 0 rfl) ?_
    refine lv_bipush (v := 10) hx hb dX7_steps_66 (by decide) ?_
    refine lv_icmp_ge (tgt := 103) hx hb dX7_steps_68 (by decide) (fun h => absurd h (by decide)) (fun _ => ?_)
    refine lv_iload hx hb dX7_steps_71 (lv_at hl 1 rfl) ?_
    refine lv_iload hx hb dX7_steps_73 (lv_at hl 0 rfl) ?_
    refine lv_ishr hx hb dX7_steps_75 ?_
    refine zo_i (v := 0) (by decide) ?_
    refine lv_iconst (v := 1) hx hb dX7_steps_76 (by decide) ?_
    refine lv_iand hx hb dX7_steps_77 ?_
    refine zo_i (v := 0) q_0and ?_
    refine lv_iconst (v := 1) hx hb dX7_steps_78 (by decide) ?_
    refine lv_icmp_ne (tgt := 97) hx hb dX7_steps_79 (by decide) (fun _ => ?_) (fun h => absurd h (by decide))
    refine lv_iinc (v := 2) (lv' := [(6, .int 2), (5, .int 1), (4, .int 2), (3, .ref q1), (0, .ref mr), (1, .int 0), (2, .int 0)]) hx hb dX7_steps_97 hl (k := 0) rfl (by decide) (by decide) rfl (fun ls hl => ?_)
    refine lv_goto (tgt := 64) hx hb dX7_steps_100 (by decide) ?_
    refine lv_iload hx hb dX7_steps_64 (lv_at hl 0 rfl) ?_
    refine lv_bipush (v := 10) hx hb dX7_steps_66 (by decide) ?_
    refine lv_icmp_ge (tgt := 103) hx hb dX7_steps_68 (by decide) (fun h => absurd h (by decide)) (fun _ => ?_)
    refine lv_iload hx hb dX7_steps_71 (lv_at hl 1 rfl) ?_
    refine lv_iload hx hb dX7_steps_73 (lv_at hl 0 rfl) ?_
    refine lv_ishr hx hb dX7_steps_75 ?_
    refine zo_i (v := 0) (by decide) ?_
    refine lv_iconst (v := 1) hx hb dX7_steps_76 (by decide) ?_
    refine lv_iand hx hb dX7_steps_77 ?_
    refine zo_i (v := 0) q_0and ?_
    refine lv_iconst (v := 1) hx hb dX7_steps_78 (by decide) ?_
    refine lv_icmp_ne (tgt := 97) hx hb dX7_steps_79 (by decide) (fun _ => ?_) (fun h => absurd h (by decide))
    refine lv_iinc (v := 3) (lv' := [(6, .int 3), (5, .int 1), (4, .int 2), (3, .ref q1), (0, .ref mr), (1, .int 0), (2, .int 0)]) hx hb dX7_steps_97 hl (k := 0) rfl (by decide) (by decide) rfl (fun ls hl => ?_)
    refine lv_goto (tgt := 64) hx hb dX7_steps_100 (by decide) ?_
    refine lv_iload hx hb dX7_steps_64 (lv_at hl 0 rfl) ?_
    refine lv_bipush (v := 10) hx hb dX7_steps_66 (by decide) ?_
    refine lv_icmp_ge (tgt := 103) hx hb dX7_steps_68 (by decide) (fun h => absurd h (by decide)) (fun _ => ?_)
    refine lv_iload hx hb dX7_steps_71 (lv_at hl 1 rfl) ?_
    refine lv_iload hx hb dX7_steps_73 (lv_at hl 0 rfl) ?_
    refine lv_ishr hx hb dX7_steps_75 ?_
    refine zo_i (v := 0) (by decide) ?_
    refine lv_iconst (v := 1) hx hb dX7_steps_76 (by decide) ?_
    refine lv_iand hx hb dX7_steps_77 ?_
    refine zo_i (v := 0) q_0and ?_
    refine lv_iconst (v := 1) hx hb dX7_steps_78 (by decide) ?_
    refine lv_icmp_ne (tgt := 97) hx hb dX7_steps_79 (by decide) (fun _ => ?_) (fun h => absurd h (by decide))
    refine lv_iinc (v := 4) (lv' := [(6, .int 4), (5, .int 1), (4, .int 2), (3, .ref q1), (0, .ref mr), (1, .int 0), (2, .int 0)]) hx hb dX7_steps_97 hl (k := 0) rfl (by decide) (by decide) rfl (fun ls hl => ?_)
    refine lv_goto (tgt := 64) hx hb dX7_steps_100 (by decide) ?_
    refine lv_iload hx hb dX7_steps_64 (lv_at hl 0 rfl) ?_
    refine lv_bipush (v := 10) hx hb dX7_steps_66 (by decide) ?_
    refine lv_icmp_ge (tgt := 103) hx hb dX7_steps_68 (by decide) (fun h => absurd h (by decide)) (fun _ => ?_)
    refine lv_iload hx hb dX7_steps_71 (lv_at hl 1 rfl) ?_
    refine lv_iload hx hb dX7_steps_73 (lv_at hl 0 rfl) ?_
    refine lv_ishr hx hb dX7_steps_75 ?_
    refine zo_i (v := 0) (by decide) ?_
    refine lv_iconst (v := 1) hx hb dX7_steps_76 (by decide) ?_
    refine lv_iand hx hb dX7_steps_77 ?_
    refine zo_i (v := 0) q_0and ?_
    refine lv_iconst (v := 1) hx hb dX7_steps_78 (by decide) ?_
    refine lv_icmp_ne (tgt := 97) hx hb dX7_steps_79 (by decide) (fun _ => ?_) (fun h => absurd h (by decide))
    refine lv_iinc (v := 5) (lv' := [(6, .int 5), (5, .int 1), (4, .int 2), (3, .ref q1), (0, .ref mr), (1, .int 0), (2, .int 0)]) hx hb dX7_steps_97 hl (k := 0) rfl (by decide) (by decide) rfl (fun ls hl => ?_)
    refine lv_goto (tgt := 64) hx hb dX7_steps_100 (by decide) ?_
    refine lv_iload hx hb dX7_steps_64 (lv_at hl 0 rfl) ?_
    refine lv_bipush (v := 10) hx hb dX7_steps_66 (by decide) ?_
    refine lv_icmp_ge (tgt := 103) hx hb dX7_steps_68 (by decide) (fun h => absurd h (by decide)) (fun _ => ?_)
    refine lv_iload hx hb dX7_steps_71 (lv_at hl 1 rfl) ?_
    refine lv_iload hx hb dX7_steps_73 (lv_at hl 0 rfl) ?_
    refine lv_ishr hx hb dX7_steps_75 ?_
    refine zo_i (v := 0) (by decide) ?_
    refine lv_iconst (v := 1) hx hb dX7_steps_76 (by decide) ?_
    refine lv_iand hx hb dX7_steps_77 ?_
    refine zo_i (v := 0) q_0and ?_
    refine lv_iconst (v := 1) hx hb dX7_steps_78 (by decide) ?_
    refine lv_icmp_ne (tgt := 97) hx hb dX7_steps_79 (by decide) (fun _ => ?_) (fun h => absurd h (by decide))
    refine lv_iinc (v := 6) (lv' := [(6, .int 6), (5, .int 1), (4, .int 2), (3, .ref q1), (0, .ref mr), (1, .int 0), (2, .int 0)]) hx hb dX7_steps_97 hl (k := 0) rfl (by decide) (by decide) rfl (fun ls hl => ?_)
    refine lv_goto (tgt := 64) hx hb dX7_steps_100 (by decide) ?_
    refine lv_iload hx hb dX7_steps_64 (lv_at hl 0 rfl) ?_
    refine lv_bipush (v := 10) hx hb dX7_steps_66 (by decide) ?_
    refine lv_icmp_ge (tgt := 103) hx hb dX7_steps_68 (by decide) (fun h => absurd h (by decide)) (fun _ => ?_)
    refine lv_iload hx hb dX7_steps_71 (lv_at hl 1 rfl) ?_
    refine lv_iload hx hb dX7_steps_73 (lv_at hl 0 rfl) ?_
    refine lv_ishr hx hb dX7_steps_75 ?_
    refine zo_i (v := 0) (by decide) ?_
    refine lv_iconst (v := 1) hx hb dX7_steps_76 (by decide) ?_
    refine lv_iand hx hb dX7_steps_77 ?_
    refine zo_i (v := 0) q_0and ?_
    refine lv_iconst (v := 1) hx hb dX7_steps_78 (by decide) ?_
    refine lv_icmp_ne (tgt := 97) hx hb dX7_steps_79 (by decide) (fun _ => ?_) (fun h => absurd h (by decide))
    refine lv_iinc (v := 7) (lv' := [(6, .int 7), (5, .int 1), (4, .int 2), (3, .ref q1), (0, .ref mr), (1, .int 0), (2, .int 0)]) hx hb dX7_steps_97 hl (k := 0) rfl (by decide) (by decide) rfl (fun ls hl => ?_)
    refine lv_goto (tgt := 64) hx hb dX7_steps_100 (by decide) ?_
    refine lv_iload hx hb dX7_steps_64 (lv_at hl 0 rfl) ?_
    refine lv_bipush (v := 10) hx hb dX7_steps_66 (by decide) ?_
    refine lv_icmp_ge (tgt := 103) hx hb dX7_steps_68 (by decide) (fun h => absurd h (by decide)) (fun _ => ?_)
    refine lv_iload hx hb dX7_steps_71 (lv_at hl 1 rfl) ?_
    refine lv_iload hx hb dX7_steps_73 (lv_at hl 0 rfl) ?_
    refine lv_ishr hx hb dX7_steps_75 ?_
    refine zo_i (v := 0) (by decide) ?_
    refine lv_iconst (v := 1) hx hb dX7_steps_76 (by decide) ?_
    refine lv_iand hx hb dX7_steps_77 ?_
    refine zo_i (v := 0) q_0and ?_
    refine lv_iconst (v := 1) hx hb dX7_steps_78 (by decide) ?_
    refine lv_icmp_ne (tgt := 97) hx hb dX7_steps_79 (by decide) (fun _ => ?_) (fun h => absurd h (by decide))
    refine lv_iinc (v := 8) (lv' := [(6, .int 8), (5, .int 1), (4, .int 2), (3, .ref q1), (0, .ref mr), (1, .int 0), (2, .int 0)]) hx hb dX7_steps_97 hl (k := 0) rfl (by decide) (by decide) rfl (fun ls hl => ?_)
    refine lv_goto (tgt := 64) hx hb dX7_steps_100 (by decide) ?_
    refine lv_iload hx hb dX7_steps_64 (lv_at hl 0 rfl) ?_
    refine lv_bipush (v := 10) hx hb dX7_steps_66 (by decide) ?_
    refine lv_icmp_ge (tgt := 103) hx hb dX7_steps_68 (by decide) (fun h => absurd h (by decide)) (fun _ => ?_)
    refine lv_iload hx hb dX7_steps_71 (lv_at hl 1 rfl) ?_
    refine lv_iload hx hb dX7_steps_73 (lv_at hl 0 rfl) ?_
    refine lv_ishr hx hb dX7_steps_75 ?_
    refine zo_i (v := 0) (by decide) ?_
    refine lv_iconst (v := 1) hx hb dX7_steps_76 (by decide) ?_
    refine lv_iand hx hb dX7_steps_77 ?_
    refine zo_i (v := 0) q_0and ?_
    refine lv_iconst (v := 1) hx hb dX7_steps_78 (by decide) ?_
    refine lv_icmp_ne (tgt := 97) hx hb dX7_steps_79 (by decide) (fun _ => ?_) (fun h => absurd h (by decide))
    refine lv_iinc (v := 9) (lv' := [(6, .int 9), (5, .int 1), (4, .int 2), (3, .ref q1), (0, .ref mr), (1, .int 0), (2, .int 0)]) hx hb dX7_steps_97 hl (k := 0) rfl (by decide) (by decide) rfl (fun ls hl => ?_)
    refine lv_goto (tgt := 64) hx hb dX7_steps_100 (by decide) ?_
    refine lv_iload hx hb dX7_steps_64 (lv_at hl 0 rfl) ?_
    refine lv_bipush (v := 10) hx hb dX7_steps_66 (by decide) ?_
    refine lv_icmp_ge (tgt := 103) hx hb dX7_steps_68 (by decide) (fun h => absurd h (by decide)) (fun _ => ?_)
    refine lv_iload hx hb dX7_steps_71 (lv_at hl 1 rfl) ?_
    refine lv_iload hx hb dX7_steps_73 (lv_at hl 0 rfl) ?_
    refine lv_ishr hx hb dX7_steps_75 ?_
    refine zo_i (v := 0) (by decide) ?_
    refine lv_iconst (v := 1) hx hb dX7_steps_76 (by decide) ?_
    refine lv_iand hx hb dX7_steps_77 ?_
    refine zo_i (v := 0) q_0and ?_
    refine lv_iconst (v := 1) hx hb dX7_steps_78 (by decide) ?_
    refine lv_icmp_ne (tgt := 97) hx hb dX7_steps_79 (by decide) (fun _ => ?_) (fun h => absurd h (by decide))
    refine lv_iinc (v := 10) (lv' := [(6, .int 10), (5, .int 1), (4, .int 2), (3, .ref q1), (0, .ref mr), (1, .int 0), (2, .int 0)]) hx hb dX7_steps_97 hl (k := 0) rfl (by decide) (by decide) rfl (fun ls hl => ?_)
    refine lv_goto (tgt := 64) hx hb dX7_steps_100 (by decide) ?_
    refine lv_iload hx hb dX7_steps_64 (lv_at hl 0 rfl) ?_
    refine lv_bipush (v := 10) hx hb dX7_steps_66 (by decide) ?_
    refine lv_icmp_ge (tgt := 103) hx hb dX7_steps_68 (by decide) (fun _ => ?_) (fun h => absurd h (by decide))
    refine lv_iinc (v := 3) (lv' := [(4, .int 3), (6, .int 10), (5, .int 1), (3, .ref q1), (0, .ref mr), (1, .int 0), (2, .int 0)]) hx hb dX7_steps_103 hl (k := 2) rfl (by decide) (by decide) rfl (fun ls hl => ?_)
    refine lv_goto (tgt := 34) hx hb dX7_steps_106 (by decide) ?_
    refine lv_iload hx hb dX7_steps_34 (lv_at hl 0 rfl) ?_
    refine lv_aload_n hx hb dX7_steps_36 rfl (lv_at hl 3 rfl) ?_
    refine va_alen hx hb hK hP 0 14 rfl rfl (v := 1024) (by exact rfl) dX7_steps_37 ?_
    refine lv_icmp_ge (tgt := 109) hx hb dX7_steps_38 (by decide) (fun h => absurd h (by decide)) (fun _ => ?_)
    refine lv_aload_n hx hb dX7_steps_41 rfl (lv_at hl 3 rfl) ?_
    refine lv_iload hx hb dX7_steps_42 (lv_at hl 0 rfl) ?_
    refine va_iald hx hb hK hP 0 14 rfl rfl (by unfold vp_in; decide) dX7_steps_44 ?_
    refine zo_i (v := 2) (by rw [show Int32.toNatClampNeg 3 = 3 from by decide]; exact k46) ?_
    refine lv_iconst (v := (-1)) hx hb dX7_steps_45 (by decide) ?_
    refine lv_icmp_ne (tgt := 52) hx hb dX7_steps_46 (by decide) (fun _ => ?_) (fun h => absurd h (by decide))
    refine lv_aload_n hx hb dX7_steps_52 rfl (lv_at hl 4 rfl) ?_
    refine lv_iload hx hb dX7_steps_53 (lv_at hl 0 rfl) ?_
    refine lv_iload_n hx hb dX7_steps_55 rfl (lv_at hl 6 rfl) ?_
    have hPr := ((zo_R hR0 hS hAr)).sub (ws' := [(mr, .inr (9, [.ref ll, .ref lt, .ref lp, .int 0, .int 0, .int 0, .int 0, .int 0, .int 0, .int 0, .int (-1), .int 0, .int 0, .int 0])), (ll, .inr (1, [.int 2, .ref ola, .int 2])), (ola, .inl (cOl, 10, .inr (.inr (.inr (.inr fol))))), (la0, .inl (cA0, 10, .inl fa0)), (la1, .inl (cA1, 10, .inl fa1)), (lt, .inr (1, [.int 10, .ref ota, .int 10])), (ota, .inl (cOt, 10, .inr (.inr (.inr (.inr fot))))), (ta0, .inl (cB0, 5, .inl fb0)), (ta1, .inl (cB1, 5, .inl fb1)), (ta2, .inl (cB2, 5, .inl fb2)), (ta3, .inl (cB3, 5, .inl fb3)), (ta4, .inl (cB4, 5, .inl fb4)), (ta5, .inl (cB5, 5, .inl fb5)), (ta6, .inl (cB6, 5, .inl fb6)), (ta7, .inl (cB7, 5, .inl fb7)), (ta8, .inl (cB8, 5, .inl fb8)), (ta9, .inl (cB9, 5, .inl fb9))]) [0, 1, 2, 3, 4, 5, 6, 7, 8, 9, 10, 11, 12, 13, 14, 15, 16] rfl
    have hPc := hP.sub (ws' := []) [] rfl
    have hDc := hD.sub (ws' := []) [] (by decide) rfl
    have hKc := hK.sub (tys' := [(cOl, .object "java/lang/Object"), (cA0, .int), (cA1, .int), (cOt, .object "java/lang/Object"), (cB0, .int), (cB1, .int), (cB2, .int), (cB3, .int), (cB4, .int), (cB5, .int), (cB6, .int), (cB7, .int), (cB8, .int), (cB9, .int)]) [0, 1, 2, 3, 4, 5, 6, 7, 8, 9, 10, 11, 12, 13] rfl
    have hFc := va_free (wc := []) hD hS hA [] rfl
    refine va_calli (va_runV (As := [.int 3, .int 0]) (rest := []) ⟨hx, hb, hml, hown, hts⟩ (cz_Qnext7_3 l dC dI ed H41.size mr ll lt lp ola cOl fol la0 la1 cA0 fa0 cA1 fa1 ota cOt fot ta0 ta1 ta2 ta3 ta4 ta5 ta6 ta7 ta8 ta9 cB0 fb0 y0 cB1 fb1 y1 cB2 fb2 y2 cB3 fb3 y3 cB4 fb4 y4 cB5 fb5 y5 cB6 fb6 y6 cB7 fb7 y7 cB8 fb8 y8 cB9 fb9 y9 hol0 hol1 ha0_0 ha0_1 ha0_8 ha1_0 ha1_1 ha1_8 hot0 hot1 hot2 hot3 hot4 hot5 hot6 hot7 hot8 hot9 hb0_0 hb0_3 hb1_0 hb1_3 hb2_0 hb2_3 hb3_0 hb3_3 hb4_0 hb4_3 hb5_0 hb5_3 hb6_0 hb6_3 hb7_0 hb7_3 hb8_0 hb8_3 hb9_0 hb9_3) (cwV 2 hts gX7_steps_X7_next rfl rfl rfl (by decide +kernel) ⟨Nat.le_of_ble_eq_true rfl, Nat.le_of_ble_eq_true rfl⟩) ⟨zb_blind, va_recv hK (zo_R hR0 hS hAr) (ci := 9) (q0 := 0) rfl rfl, fun U hU hW => ⟨rfl, zb_mk hU hW hPr hPc hKc hDc hN hH hS hFc zx_e⟩⟩ rfl rfl hl.1 rfl (lv_room (Nat.le_of_ble_eq_true rfl)) dX7_steps_56 ⟨Nat.le_of_ble_eq_true rfl, Nat.le_of_ble_eq_true rfl⟩) hS (fun q _ h => hFc q h) hFc (fun r49 u t H48 locs ht hvm hw hB hz1 hk1 hS => ?_)
    obtain rfl : r49 = 0 := hw
    have hP := zo_K hP hk1
    refine lv_istore (lv' := [(5, .int 0), (4, .int 3), (6, .int 10), (3, .ref q1), (0, .ref mr), (1, .int 0), (2, .int 0)]) hx hb dX7_steps_59 hl (by decide) rfl (fun ls hl => ?_)
    refine lv_iconst (v := 0) hx hb dX7_steps_61 (by decide) ?_
    refine lv_istore (lv' := [(6, .int 0), (5, .int 0), (4, .int 3), (3, .ref q1), (0, .ref mr), (1, .int 0), (2, .int 0)]) hx hb dX7_steps_62 hl (by decide) rfl (fun ls hl => ?_)
    refine lv_iload hx hb dX7_steps_64 (lv_at hl 0 rfl) ?_
    refine lv_bipush (v := 10) hx hb dX7_steps_66 (by decide) ?_
    refine lv_icmp_ge (tgt := 103) hx hb dX7_steps_68 (by decide) (fun h => absurd h (by decide)) (fun _ => ?_)
    refine lv_iload hx hb dX7_steps_71 (lv_at hl 1 rfl) ?_
    refine lv_iload hx hb dX7_steps_73 (lv_at hl 0 rfl) ?_
    refine lv_ishr hx hb dX7_steps_75 ?_
    refine zo_i (v := 0) (by decide) ?_
    refine lv_iconst (v := 1) hx hb dX7_steps_76 (by decide) ?_
    refine lv_iand hx hb dX7_steps_77 ?_
    refine zo_i (v := 0) q_0and ?_
    refine lv_iconst (v := 1) hx hb dX7_steps_78 (by decide) ?_
    refine lv_icmp_ne (tgt := 97) hx hb dX7_steps_79 (by decide) (fun _ => ?_) (fun h => absurd h (by decide))
    refine lv_iinc (v := 1) (lv' := [(6, .int 1), (5, .int 0), (4, .int 3), (3, .ref q1), (0, .ref mr), (1, .int 0), (2, .int 0)]) hx hb dX7_steps_97 hl (k := 0) rfl (by decide) (by decide) rfl (fun ls hl => ?_)
    refine lv_goto (tgt := 64) hx hb dX7_steps_100 (by decide) ?_
    refine lv_iload hx hb dX7_steps_64 (lv_at hl 0 rfl) ?_
    refine lv_bipush (v := 10) hx hb dX7_steps_66 (by decide) ?_
    refine lv_icmp_ge (tgt := 103) hx hb dX7_steps_68 (by decide) (fun h => absurd h (by decide)) (fun _ => ?_)
    refine lv_iload hx hb dX7_steps_71 (lv_at hl 1 rfl) ?_
    refine lv_iload hx hb dX7_steps_73 (lv_at hl 0 rfl) ?_
    refine lv_ishr hx hb dX7_steps_75 ?_
    refine zo_i (v := 0) (by decide) ?_
    refine lv_iconst (v := 1) hx hb dX7_steps_76 (by decide) ?_
    refine lv_iand hx hb dX7_steps_77 ?_
    refine zo_i (v := 0) q_0and ?_
    refine lv_iconst (v := 1) hx hb dX7_steps_78 (by decide) ?_
    refine lv_icmp_ne (tgt := 97) hx hb dX7_steps_79 (by decide) (fun _ => ?_) (fun h => absurd h (by decide))
    refine lv_iinc (v := 2) (lv' := [(6, .int 2), (5, .int 0), (4, .int 3), (3, .ref q1), (0, .ref mr), (1, .int 0), (2, .int 0)]) hx hb dX7_steps_97 hl (k := 0) rfl (by decide) (by decide) rfl (fun ls hl => ?_)
    refine lv_goto (tgt := 64) hx hb dX7_steps_100 (by decide) ?_
    refine lv_iload hx hb dX7_steps_64 (lv_at hl 0 rfl) ?_
    refine lv_bipush (v := 10) hx hb dX7_steps_66 (by decide) ?_
    refine lv_icmp_ge (tgt := 103) hx hb dX7_steps_68 (by decide) (fun h => absurd h (by decide)) (fun _ => ?_)
    refine lv_iload hx hb dX7_steps_71 (lv_at hl 1 rfl) ?_
    refine lv_iload hx hb dX7_steps_73 (lv_at hl 0 rfl) ?_
    refine lv_ishr hx hb dX7_steps_75 ?_
    refine zo_i (v := 0) (by decide) ?_
    refine lv_iconst (v := 1) hx hb dX7_steps_76 (by decide) ?_
    refine lv_iand hx hb dX7_steps_77 ?_
    refine zo_i (v := 0) q_0and ?_
    refine lv_iconst (v := 1) hx hb dX7_steps_78 (by decide) ?_
    refine lv_icmp_ne (tgt := 97) hx hb dX7_steps_79 (by decide) (fun _ => ?_) (fun h => absurd h (by decide))
    refine lv_iinc (v := 3) (lv' := [(6, .int 3), (5, .int 0), (4, .int 3), (3, .ref q1), (0, .ref mr), (1, .int 0), (2, .int 0)]) hx hb dX7_steps_97 hl (k := 0) rfl (by decide) (by decide) rfl (fun ls hl => ?_)
    refine lv_goto (tgt := 64) hx hb dX7_steps_100 (by decide) ?_
    refine lv_iload hx hb dX7_steps_64 (lv_at hl 0 rfl) ?_
    refine lv_bipush (v := 10) hx hb dX7_steps_66 (by decide) ?_
    refine lv_icmp_ge (tgt := 103) hx hb dX7_steps_68 (by decide) (fun h => absurd h (by decide)) (fun _ => ?_)
    refine lv_iload hx hb dX7_steps_71 (lv_at hl 1 rfl) ?_
    refine lv_iload hx hb dX7_steps_73 (lv_at hl 0 rfl) ?_
    refine lv_ishr hx hb dX7_steps_75 ?_
    refine zo_i (v := 0) (by decide) ?_
    refine lv_iconst (v := 1) hx hb dX7_steps_76 (by decide) ?_
    refine lv_iand hx hb dX7_steps_77 ?_
    refine zo_i (v := 0) q_0and ?_
    refine lv_iconst (v := 1) hx hb dX7_steps_78 (by decide) ?_
    refine lv_icmp_ne (tgt := 97) hx hb dX7_steps_79 (by decide) (fun _ => ?_) (fun h => absurd h (by decide))
    refine lv_iinc (v := 4) (lv' := [(6, .int 4), (5, .int 0), (4, .int 3), (3, .ref q1), (0, .ref mr), (1, .int 0), (2, .int 0)]) hx hb dX7_steps_97 hl (k := 0) rfl (by decide) (by decide) rfl (fun ls hl => ?_)
    refine lv_goto (tgt := 64) hx hb dX7_steps_100 (by decide) ?_
    refine lv_iload hx hb dX7_steps_64 (lv_at hl 0 rfl) ?_
    refine lv_bipush (v := 10) hx hb dX7_steps_66 (by decide) ?_
    refine lv_icmp_ge (tgt := 103) hx hb dX7_steps_68 (by decide) (fun h => absurd h (by decide)) (fun _ => ?_)
    refine lv_iload hx hb dX7_steps_71 (lv_at hl 1 rfl) ?_
    refine lv_iload hx hb dX7_steps_73 (lv_at hl 0 rfl) ?_
    refine lv_ishr hx hb dX7_steps_75 ?_
    refine zo_i (v := 0) (by decide) ?_
    refine lv_iconst (v := 1) hx hb dX7_steps_76 (by decide) ?_
    refine lv_iand hx hb dX7_steps_77 ?_
    refine zo_i (v := 0) q_0and ?_
    refine lv_iconst (v := 1) hx hb dX7_steps_78 (by decide) ?_
    refine lv_icmp_ne (tgt := 97) hx hb dX7_steps_79 (by decide) (fun _ => ?_) (fun h => absurd h (by decide))
    refine lv_iinc (v := 5) (lv' := [(6, .int 5), (5, .int 0), (4, .int 3), (3, .ref q1), (0, .ref mr), (1, .int 0), (2, .int 0)]) hx hb dX7_steps_97 hl (k := 0) rfl (by decide) (by decide) rfl (fun ls hl => ?_)
    refine lv_goto (tgt := 64) hx hb dX7_steps_100 (by decide) ?_
    refine lv_iload hx hb dX7_steps_64 (lv_at hl 0 rfl) ?_
    refine lv_bipush (v := 10) hx hb dX7_steps_66 (by decide) ?_
    refine lv_icmp_ge (tgt := 103) hx hb dX7_steps_68 (by decide) (fun h => absurd h (by decide)) (fun _ => ?_)
    refine lv_iload hx hb dX7_steps_71 (lv_at hl 1 rfl) ?_
    refine lv_iload hx hb dX7_steps_73 (lv_at hl 0 rfl) ?_
    refine lv_ishr hx hb dX7_steps_75 ?_
    refine zo_i (v := 0) (by decide) ?_
    refine lv_iconst (v := 1) hx hb dX7_steps_76 (by decide) ?_
    refine lv_iand hx hb dX7_steps_77 ?_
    refine zo_i (v := 0) q_0and ?_
    refine lv_iconst (v := 1) hx hb dX7_steps_78 (by decide) ?_
    refine lv_icmp_ne (tgt := 97) hx hb dX7_steps_79 (by decide) (fun _ => ?_) (fun h => absurd h (by decide))
    refine lv_iinc (v := 6) (lv' := [(6, .int 6), (5, .int 0), (4, .int 3), (3, .ref q1), (0, .ref mr), (1, .int 0), (2, .int 0)]) hx hb dX7_steps_97 hl (k := 0) rfl (by decide) (by decide) rfl (fun ls hl => ?_)
    refine lv_goto (tgt := 64) hx hb dX7_steps_100 (by decide) ?_
    refine lv_iload hx hb dX7_steps_64 (lv_at hl 0 rfl) ?_
    refine lv_bipush (v := 10) hx hb dX7_steps_66 (by decide) ?_
    refine lv_icmp_ge (tgt := 103) hx hb dX7_steps_68 (by decide) (fun h => absurd h (by decide)) (fun _ => ?_)
    refine lv_iload hx hb dX7_steps_71 (lv_at hl 1 rfl) ?_
    refine lv_iload hx hb dX7_steps_73 (lv_at hl 0 rfl) ?_
    refine lv_ishr hx hb dX7_steps_75 ?_
    refine zo_i (v := 0) (by decide) ?_
    refine lv_iconst (v := 1) hx hb dX7_steps_76 (by decide) ?_
    refine lv_iand hx hb dX7_steps_77 ?_
    refine zo_i (v := 0) q_0and ?_
    refine lv_iconst (v := 1) hx hb dX7_steps_78 (by decide) ?_
    refine lv_icmp_ne (tgt := 97) hx hb dX7_steps_79 (by decide) (fun _ => ?_) (fun h => absurd h (by decide))
    refine lv_iinc (v := 7) (lv' := [(6, .int 7), (5, .int 0), (4, .int 3), (3, .ref q1), (0, .ref mr), (1, .int 0), (2, .int 0)]) hx hb dX7_steps_97 hl (k := 0) rfl (by decide) (by decide) rfl (fun ls hl => ?_)
    refine lv_goto (tgt := 64) hx hb dX7_steps_100 (by decide) ?_
    refine lv_iload hx hb dX7_steps_64 (lv_at hl 0 rfl) ?_
    refine lv_bipush (v := 10) hx hb dX7_steps_66 (by decide) ?_
    refine lv_icmp_ge (tgt := 103) hx hb dX7_steps_68 (by decide) (fun h => absurd h (by decide)) (fun _ => ?_)
    refine lv_iload hx hb dX7_steps_71 (lv_at hl 1 rfl) ?_
    refine lv_iload hx hb dX7_steps_73 (lv_at hl 0 rfl) ?_
    refine lv_ishr hx hb dX7_steps_75 ?_
    refine zo_i (v := 0) (by decide) ?_
    refine lv_iconst (v := 1) hx hb dX7_steps_76 (by decide) ?_
    refine lv_iand hx hb dX7_steps_77 ?_
    refine zo_i (v := 0) q_0and ?_
    refine lv_iconst (v := 1) hx hb dX7_steps_78 (by decide) ?_
    refine lv_icmp_ne (tgt := 97) hx hb dX7_steps_79 (by decide) (fun _ => ?_) (fun h => absurd h (by decide))
    refine lv_iinc (v := 8) (lv' := [(6, .int 8), (5, .int 0), (4, .int 3), (3, .ref q1), (0, .ref mr), (1, .int 0), (2, .int 0)]) hx hb dX7_steps_97 hl (k := 0) rfl (by decide) (by decide) rfl (fun ls hl => ?_)
    refine lv_goto (tgt := 64) hx hb dX7_steps_100 (by decide) ?_
    refine lv_iload hx hb dX7_steps_64 (lv_at hl 0 rfl) ?_
    refine lv_bipush (v := 10) hx hb dX7_steps_66 (by decide) ?_
    refine lv_icmp_ge (tgt := 103) hx hb dX7_steps_68 (by decide) (fun h => absurd h (by decide)) (fun _ => ?_)
    refine lv_iload hx hb dX7_steps_71 (lv_at hl 1 rfl) ?_
    refine lv_iload hx hb dX7_steps_73 (lv_at hl 0 rfl) ?_
    refine lv_ishr hx hb dX7_steps_75 ?_
    refine zo_i (v := 0) (by decide) ?_
    refine lv_iconst (v := 1) hx hb dX7_steps_76 (by decide) ?_
    refine lv_iand hx hb dX7_steps_77 ?_
    refine zo_i (v := 0) q_0and ?_
    refine lv_iconst (v := 1) hx hb dX7_steps_78 (by decide) ?_
    refine lv_icmp_ne (tgt := 97) hx hb dX7_steps_79 (by decide) (fun _ => ?_) (fun h => absurd h (by decide))
    refine lv_iinc (v := 9) (lv' := [(6, .int 9), (5, .int 0), (4, .int 3), (3, .ref q1), (0, .ref mr), (1, .int 0), (2, .int 0)]) hx hb dX7_steps_97 hl (k := 0) rfl (by decide) (by decide) rfl (fun ls hl => ?_)
    refine lv_goto (tgt := 64) hx hb dX7_steps_100 (by decide) ?_
    refine lv_iload hx hb dX7_steps_64 (lv_at hl 0 rfl) ?_
    refine lv_bipush (v := 10) hx hb dX7_steps_66 (by decide) ?_
    refine lv_icmp_ge (tgt := 103) hx hb dX7_steps_68 (by decide) (fun h => absurd h (by decide)) (fun _ => ?_)
    refine lv_iload hx hb dX7_steps_71 (lv_at hl 1 rfl) ?_
    refine lv_iload hx hb dX7_steps_73 (lv_at hl 0 rfl) ?_
    refine lv_ishr hx hb dX7_steps_75 ?_
    refine zo_i (v := 0) (by decide) ?_
    refine lv_iconst (v := 1) hx hb dX7_steps_76 (by decide) ?_
    refine lv_iand hx hb dX7_steps_77 ?_
    refine zo_i (v := 0) q_0and ?_
    refine lv_iconst (v := 1) hx hb dX7_steps_78 (by decide) ?_
    refine lv_icmp_ne (tgt := 97) hx hb dX7_steps_79 (by decide) (fun _ => ?_) (fun h => absurd h (by decide))
    refine lv_iinc (v := 10) (lv' := [(6, .int 10), (5, .int 0), (4, .int 3), (3, .ref q1), (0, .ref mr), (1, .int 0), (2, .int 0)]) hx hb dX7_steps_97 hl (k := 0) rfl (by decide) (by decide) rfl (fun ls hl => ?_)
    refine lv_goto (tgt := 64) hx hb dX7_steps_100 (by decide) ?_
    refine lv_iload hx hb dX7_steps_64 (lv_at hl 0 rfl) ?_
    refine lv_bipush (v := 10) hx hb dX7_steps_66 (by decide) ?_
    refine lv_icmp_ge (tgt := 103) hx hb dX7_steps_68 (by decide) (fun _ => ?_) (fun h => absurd h (by decide))
    refine lv_iinc (v := 4) (lv' := [(4, .int 4), (6, .int 10), (5, .int 0), (3, .ref q1), (0, .ref mr), (1, .int 0), (2, .int 0)]) hx hb dX7_steps_103 hl (k := 2) rfl (by decide) (by decide) rfl (fun ls hl => ?_)
    refine lv_goto (tgt := 34) hx hb dX7_steps_106 (by decide) ?_
    refine zo_loop (fun (i : Nat) (H : Heap) (locs : List Loc) (ls : Array Slot) => va_P (dC, dI) vwCl [(q1, .inl (cA3, 1024, .inl f42))] H ∧ va_D A [(q1, .inl (cA3, 1024, .inl f42))] ∧ va_S A s.heap H locs ∧ lv_has ls 7 [(4, .int (nI (4 + i))), (3, .ref q1), (0, .ref mr), (1, .int 0), (2, .int 0)]) 1020 ⟨hP, hD, hS, lv_sub hl [0, 3, 4, 5, 6] rfl⟩ (fun i hi ih H locs ls hI => ?_) (fun H locs ls hI => ?_)
    · obtain ⟨hP, hD, hS, hl⟩ := hI
      refine lv_iload hx hb dX7_steps_34 (lv_at hl 0 rfl) ?_
      refine lv_aload_n hx hb dX7_steps_36 rfl (lv_at hl 1 rfl) ?_
      refine va_alen hx hb hK hP 0 14 rfl rfl (v := 1024) (by exact rfl) dX7_steps_37 ?_
      refine lv_icmp_ge (tgt := 109) hx hb dX7_steps_38 (by decide) (fun h => absurd h (nI_ge (a := 4 + i) (b := 1024) (by omega) (by decide))) (fun _ => ?_)
      refine lv_aload_n hx hb dX7_steps_41 rfl (lv_at hl 1 rfl) ?_
      refine lv_iload hx hb dX7_steps_42 (lv_at hl 0 rfl) ?_
      refine va_iald hx hb hK hP 0 14 rfl rfl (vp_in_nI (by omega) (by decide)) dX7_steps_44 ?_
      refine zo_i (v := (-1)) (by rw [nI_clamp (n := (4 + i)) (by omega)]; exact hg47 ((4 + i)) (by omega) (by omega)) ?_
      refine lv_iconst (v := (-1)) hx hb dX7_steps_45 (by decide) ?_
      refine lv_icmp_ne (tgt := 52) hx hb dX7_steps_46 (by decide) (fun h => absurd h (by decide)) (fun _ => ?_)
      refine lv_goto (tgt := 103) hx hb dX7_steps_49 (by decide) ?_
      refine lv_iinc (v := (nI ((4 + i) + 1))) (lv' := [(4, .int (nI ((4 + i) + 1))), (3, .ref q1), (0, .ref mr), (1, .int 0), (2, .int 0)]) hx hb dX7_steps_103 hl (k := 0) rfl (nI_1 (4 + i)) (by decide) rfl (fun ls hl => ?_)
      refine lv_goto (tgt := 34) hx hb dX7_steps_106 (by decide) ?_
      exact ih _ _ _ ⟨hP, hD, hS, lv_sub hl [0, 1, 2, 3, 4] rfl⟩
    · obtain ⟨hP, hD, hS, hl⟩ := hI
      refine lv_iload hx hb dX7_steps_34 (lv_at hl 0 rfl) ?_
      refine lv_aload_n hx hb dX7_steps_36 rfl (lv_at hl 1 rfl) ?_
      refine va_alen hx hb hK hP 0 14 rfl rfl (v := 1024) (by exact rfl) dX7_steps_37 ?_
      refine lv_icmp_ge (tgt := 109) hx hb dX7_steps_38 (by decide) (fun _ => ?_) (fun h => absurd (nI_le (a := 1024) (b := 4 + 1020) (by omega) (by decide)) h)
      refine lv_aload_n hx hb dX7_steps_109 rfl (lv_at hl 1 rfl) ?_
      refine W.widen (k := 1) (n := 1024) (Nat.le_of_ble_eq_true rfl) (Nat.le_of_ble_eq_true rfl) ?_
      have hP9 := hP.sub (ws' := [(q1, .inl (cA3, 1024, .inl f42))]) [0] rfl
      have hD9 := hD.sub (ws' := [(q1, .inl (cA3, 1024, .inl f42))]) [0] (by decide) rfl
      have hK9 := hK.sub (tys' := [(cA3, .int)]) [14] rfl
      exact W.aret hx hb hr (Or.inr ⟨_, rfl⟩) (Or.inr ⟨_, rfl⟩) (fun t ht hW => ⟨⟨(), q1, rfl, trivial, ⟨cA3, f42, hg47, ⟨k43, k44, k45, k46⟩, by rw [ht]; exact hP9, hD9, va_K.moved hW.alike hK9⟩⟩, hS.F ht⟩) hS.2.2 dX7_steps_110

set_option maxHeartbeats 4000000 in
set_option maxRecDepth 100000 in
theorem cs_QX8_digest_7 (l : Launch) (dC : Nat → ClassId) (dI : Nat → Nat → Nat) (ed : Nat) (mr : Nat) (ll : Nat) (lt : Nat) (lp : Nat) (ola : Nat) (ota : Nat) (cOl : ClassId) (fol : Nat → Option Nat) (la0 : Nat) (la1 : Nat) (cOt : ClassId) (fot : Nat → Option Nat) (ta0 : Nat) (ta1 : Nat) (ta2 : Nat) (ta3 : Nat) (ta4 : Nat) (ta5 : Nat) (ta6 : Nat) (ta7 : Nat) (ta8 : Nat) (ta9 : Nat) (mo : Nat) (x9 : Int32) (s9 : Int64) (cA0 : ClassId) (fa0 : Nat → Int32) (cA1 : ClassId) (fa1 : Nat → Int32) (cB0 : ClassId) (fb0 : Nat → Int32) (cB1 : ClassId) (fb1 : Nat → Int32) (cB2 : ClassId) (fb2 : Nat → Int32) (cB3 : ClassId) (fb3 : Nat → Int32) (cB4 : ClassId) (fb4 : Nat → Int32) (cB5 : ClassId) (fb5 : Nat → Int32) (cB6 : ClassId) (fb6 : Nat → Int32) (cB7 : ClassId) (fb7 : Nat → Int32) (cB8 : ClassId) (fb8 : Nat → Int32) (cB9 : ClassId) (fb9 : Nat → Int32) (hol0 : fol 0 = some la0) (hol1 : fol 1 = some la1) (hot0 : fot 0 = some ta0) (hot1 : fot 1 = some ta1) (hot2 : fot 2 = some ta2) (hot3 : fot 3 = some ta3) (hot4 : fot 4 = some ta4) (hot5 : fot 5 = some ta5) (hot6 : fot 6 = some ta6) (hot7 : fot 7 = some ta7) (hot8 : fot 8 = some ta8) (hot9 : fot 9 = some ta9) (ha0_0 : fa0 0 = 0) (ha0_1 : fa0 1 = 0) (ha0_2 : fa0 2 = 60) (ha0_3 : fa0 3 = 0) (ha0_4 : fa0 4 = 0) (ha0_5 : fa0 5 = 0) (ha0_6 : fa0 6 = 0) (ha0_7 : fa0 7 = 0) (ha0_8 : fa0 8 = 0) (ha0_9 : fa0 9 = 0) (ha1_0 : fa1 0 = 0) (ha1_1 : fa1 1 = 0) (ha1_2 : fa1 2 = 60) (ha1_3 : fa1 3 = 0) (ha1_4 : fa1 4 = 0) (ha1_5 : fa1 5 = 0) (ha1_6 : fa1 6 = 0) (ha1_7 : fa1 7 = 0) (ha1_8 : fa1 8 = 0) (ha1_9 : fa1 9 = 0) (hb0_0 : fb0 0 = (-1)) (hb0_1 : fb0 1 = 0) (hb0_2 : fb0 2 = 0) (hb0_3 : fb0 3 = 0) (hb0_4 : fb0 4 = 0) (hb1_0 : fb1 0 = (-1)) (hb1_1 : fb1 1 = 0) (hb1_2 : fb1 2 = 0) (hb1_3 : fb1 3 = 0) (hb1_4 : fb1 4 = 0) (hb2_0 : fb2 0 = (-1)) (hb2_1 : fb2 1 = 0) (hb2_2 : fb2 2 = 0) (hb2_3 : fb2 3 = 0) (hb2_4 : fb2 4 = 0) (hb3_0 : fb3 0 = (-1)) (hb3_1 : fb3 1 = 0) (hb3_2 : fb3 2 = 0) (hb3_3 : fb3 3 = 0) (hb3_4 : fb3 4 = 0) (hb4_0 : fb4 0 = (-1)) (hb4_1 : fb4 1 = 0) (hb4_2 : fb4 2 = 0) (hb4_3 : fb4 3 = 0) (hb4_4 : fb4 4 = 0) (hb5_0 : fb5 0 = (-1)) (hb5_1 : fb5 1 = 0) (hb5_2 : fb5 2 = 0) (hb5_3 : fb5 3 = 0) (hb5_4 : fb5 4 = 0) (hb6_0 : fb6 0 = (-1)) (hb6_1 : fb6 1 = 0) (hb6_2 : fb6 2 = 0) (hb6_3 : fb6 3 = 0) (hb6_4 : fb6 4 = 0) (hb7_0 : fb7 0 = (-1)) (hb7_1 : fb7 1 = 0) (hb7_2 : fb7 2 = 0) (hb7_3 : fb7 3 = 0) (hb7_4 : fb7 4 = 0) (hb8_0 : fb8 0 = (-1)) (hb8_1 : fb8 1 = 0) (hb8_2 : fb8 2 = 0) (hb8_3 : fb8 3 = 0) (hb8_4 : fb8 4 = 0) (hb9_0 : fb9 0 = (-1)) (hb9_1 : fb9 1 = 0) (hb9_2 : fb9 2 = 0) (hb9_3 : fb9 3 = 0) (hb9_4 : fb9 4 = 0) {p : Program} {e : Env} {s : State} {m : MethodId} {below : List Frame} {meth : Method} {c : Code} {A : Nat → Prop} {H : Heap} {locs : List Loc} {ls : Array Slot} (hx : p.tables.exec = Jvm.exec) (hb : c.code = cX8_digest) (hr : meth.sig.returnType = (some .long)) (hml : c.maxLocals = 7) (hown : s.vm.findClass RX8 = some m.cls) (hlocks : meth.locks = false) (hts : ∀ w ∈ wsX8_digest, w.before ([.ref mo] : List Value).toArray s = true) (hR0 : va_P (dC, dI) vwCl [(mr, .inr (9, [.ref ll, .ref lt, .ref lp, .int 0, .int 0, .int 0, .int 0, .int 0, .int 0, .int 0, .int (-1), .int 0, .int 0, .int 0])), (ll, .inr (1, [.int 2, .ref ola, .int 2])), (lt, .inr (1, [.int 10, .ref ota, .int 10])), (lp, .inr (1, [.int 0, .ref ed, .int 0])), (ola, .inl (cOl, 10, .inr (.inr (.inr (.inr fol))))), (ota, .inl (cOt, 10, .inr (.inr (.inr (.inr fot)))))] s.heap) (hN : zN s) (hA : ∀ q : Nat, s.heap.size ≤ q → A q) (hAr : ∀ p ∈ ([(mr, .inr (9, [.ref ll, .ref lt, .ref lp, .int 0, .int 0, .int 0, .int 0, .int 0, .int 0, .int 0, .int (-1), .int 0, .int 0, .int 0])), (ll, .inr (1, [.int 2, .ref ola, .int 2])), (lt, .inr (1, [.int 10, .ref ota, .int 10])), (lp, .inr (1, [.int 0, .ref ed, .int 0])), (ola, .inl (cOl, 10, .inr (.inr (.inr (.inr fol))))), (ota, .inl (cOt, 10, .inr (.inr (.inr (.inr fot)))))] : va_W), ¬ A p.1) (hH : zH ed A s s.heap) (hAe : va_A [(mo, .inr (10, [.int x9, .ref mr, .int 1, .long s9])), (la0, .inl (cA0, 10, .inl fa0)), (la1, .inl (cA1, 10, .inl fa1)), (ta0, .inl (cB0, 5, .inl fb0)), (ta1, .inl (cB1, 5, .inl fb1)), (ta2, .inl (cB2, 5, .inl fb2)), (ta3, .inl (cB3, 5, .inl fb3)), (ta4, .inl (cB4, 5, .inl fb4)), (ta5, .inl (cB5, 5, .inl fb5)), (ta6, .inl (cB6, 5, .inl fb6)), (ta7, .inl (cB7, 5, .inl fb7)), (ta8, .inl (cB8, 5, .inl fb8)), (ta9, .inl (cB9, 5, .inl fb9))] s.heap.size = A) (hK : va_K (dC, dI) vwCl [(cOl, .object "java/lang/Object"), (cOt, .object "java/lang/Object"), (cA0, .int), (cA1, .int), (cB0, .int), (cB1, .int), (cB2, .int), (cB3, .int), (cB4, .int), (cB5, .int), (cB6, .int), (cB7, .int), (cB8, .int), (cB9, .int)] s) (hP : va_P (dC, dI) vwCl [(la0, .inl (cA0, 10, .inl fa0)), (la1, .inl (cA1, 10, .inl fa1)), (ta0, .inl (cB0, 5, .inl fb0)), (ta1, .inl (cB1, 5, .inl fb1)), (ta2, .inl (cB2, 5, .inl fb2)), (ta3, .inl (cB3, 5, .inl fb3)), (ta4, .inl (cB4, 5, .inl fb4)), (ta5, .inl (cB5, 5, .inl fb5)), (ta6, .inl (cB6, 5, .inl fb6)), (ta7, .inl (cB7, 5, .inl fb7)), (ta8, .inl (cB8, 5, .inl fb8)), (ta9, .inl (cB9, 5, .inl fb9)), (mo, .inr (10, [.int 0, .ref mr, .int 1, .long 1343917789087455487]))] H) (hD : va_D A [(la0, .inl (cA0, 10, .inl fa0)), (la1, .inl (cA1, 10, .inl fa1)), (ta0, .inl (cB0, 5, .inl fb0)), (ta1, .inl (cB1, 5, .inl fb1)), (ta2, .inl (cB2, 5, .inl fb2)), (ta3, .inl (cB3, 5, .inl fb3)), (ta4, .inl (cB4, 5, .inl fb4)), (ta5, .inl (cB5, 5, .inl fb5)), (ta6, .inl (cB6, 5, .inl fb6)), (ta7, .inl (cB7, 5, .inl fb7)), (ta8, .inl (cB8, 5, .inl fb8)), (ta9, .inl (cB9, 5, .inl fb9)), (mo, .inr (10, [.int 0, .ref mr, .int 1, .long 1343917789087455487]))]) (hS : va_S A s.heap H locs) (hl : lv_has ls 7 [(1, .int 8), (2, .int 6), (0, .ref mo)]) : W p l e (headSpec wsX8_digest ({ frames := 9, cells := 59, slots := 18922, locals := 211 } : Jvm.Room)).room s m (([.ref mo] : List Value).toArray) below meth c H locs 19 361 (MQ below (va_Ql (fun (r : Int64) (_ : Unit) => r = 1244744325466633148) (fun (_ : Unit) (t : State) => (18432 ≤ zc_S s.heap.size t.heap) ∧ (fa0 0 = 0 ∧ fa0 1 = 0 ∧ fa0 2 = 60 ∧ fa0 3 = 0 ∧ fa0 4 = 0 ∧ fa0 5 = 0 ∧ fa0 6 = 0 ∧ fa0 7 = 0 ∧ fa0 8 = 0 ∧ fa0 9 = 0 ∧ fa1 0 = 0 ∧ fa1 1 = 0 ∧ fa1 2 = 60 ∧ fa1 3 = 0 ∧ fa1 4 = 0 ∧ fa1 5 = 0 ∧ fa1 6 = 0 ∧ fa1 7 = 0 ∧ fa1 8 = 0 ∧ fa1 9 = 0 ∧ fb0 0 = (-1) ∧ fb0 1 = 0 ∧ fb0 2 = 0 ∧ fb0 3 = 0 ∧ fb0 4 = 0 ∧ fb1 0 = (-1) ∧ fb1 1 = 0 ∧ fb1 2 = 0 ∧ fb1 3 = 0 ∧ fb1 4 = 0 ∧ fb2 0 = (-1) ∧ fb2 1 = 0 ∧ fb2 2 = 0 ∧ fb2 3 = 0 ∧ fb2 4 = 0 ∧ fb3 0 = (-1) ∧ fb3 1 = 0 ∧ fb3 2 = 0 ∧ fb3 3 = 0 ∧ fb3 4 = 0 ∧ fb4 0 = (-1) ∧ fb4 1 = 0 ∧ fb4 2 = 0 ∧ fb4 3 = 0 ∧ fb4 4 = 0 ∧ fb5 0 = (-1) ∧ fb5 1 = 0 ∧ fb5 2 = 0 ∧ fb5 3 = 0 ∧ fb5 4 = 0 ∧ fb6 0 = (-1) ∧ fb6 1 = 0 ∧ fb6 2 = 0 ∧ fb6 3 = 0 ∧ fb6 4 = 0 ∧ fb7 0 = (-1) ∧ fb7 1 = 0 ∧ fb7 2 = 0 ∧ fb7 3 = 0 ∧ fb7 4 = 0 ∧ fb8 0 = (-1) ∧ fb8 1 = 0 ∧ fb8 2 = 0 ∧ fb8 3 = 0 ∧ fb8 4 = 0 ∧ fb9 0 = (-1) ∧ fb9 1 = 0 ∧ fb9 2 = 0 ∧ fb9 3 = 0 ∧ fb9 4 = 0) ∧ va_P (dC, dI) vwCl [(mo, .inr (10, [.int 0, .ref mr, .int 1, .long 1244744325466633148])), (la0, .inl (cA0, 10, .inl fa0)), (la1, .inl (cA1, 10, .inl fa1)), (ta0, .inl (cB0, 5, .inl fb0)), (ta1, .inl (cB1, 5, .inl fb1)), (ta2, .inl (cB2, 5, .inl fb2)), (ta3, .inl (cB3, 5, .inl fb3)), (ta4, .inl (cB4, 5, .inl fb4)), (ta5, .inl (cB5, 5, .inl fb5)), (ta6, .inl (cB6, 5, .inl fb6)), (ta7, .inl (cB7, 5, .inl fb7)), (ta8, .inl (cB8, 5, .inl fb8)), (ta9, .inl (cB9, 5, .inl fb9))] t.heap ∧ va_D A [(mo, .inr (10, [.int 0, .ref mr, .int 1, .long 1244744325466633148])), (la0, .inl (cA0, 10, .inl fa0)), (la1, .inl (cA1, 10, .inl fa1)), (ta0, .inl (cB0, 5, .inl fb0)), (ta1, .inl (cB1, 5, .inl fb1)), (ta2, .inl (cB2, 5, .inl fb2)), (ta3, .inl (cB3, 5, .inl fb3)), (ta4, .inl (cB4, 5, .inl fb4)), (ta5, .inl (cB5, 5, .inl fb5)), (ta6, .inl (cB6, 5, .inl fb6)), (ta7, .inl (cB7, 5, .inl fb7)), (ta8, .inl (cB8, 5, .inl fb8)), (ta9, .inl (cB9, 5, .inl fb9))] ∧ va_K (dC, dI) vwCl [(cA0, .int), (cA1, .int), (cB0, .int), (cB1, .int), (cB2, .int), (cB3, .int), (cB4, .int), (cB5, .int), (cB6, .int), (cB7, .int), (cB8, .int), (cB9, .int)] t) A) (([.ref mo] : List Value).toArray) s 59 18922 A) (F0 m 83 ls []) := by
  refine lv_iload_n hx hb dX8_digest_83 rfl (lv_at hl 0 rfl) ?_
  refine lv_aload_n hx hb dX8_digest_84 rfl (lv_at hl 2 rfl) ?_
  refine va_get (D := (dC, dI)) (ci := 10) (v := .ref mr) (C := RX8) (T := TX8) (N := 4) hx hb hts zi_X8_digest_X8 hown hK hP 12 rfl rfl 1 (by decide) (hts (.fieldLink RX8 10 "LockRoomsModel" "room" "LLockRoomsModel$Room;") (by decide +kernel)) (fun _ h9 => h9) rfl dX8_digest_85 ?_
  refine va_getN (D := (dC, dI)) (ci := 9) (v := .ref lt) (C := RX7) (T := TX7) (N := 14) hx hb hts zi_X8_digest_X7 hown hK (zo_R hR0 hS hAr) 0 rfl rfl 1 (by decide) (va_Nw.use rfl (hN.1 ("LockRoomsModel", 38, "LockRoomsModel$Room", "things", "Ljava/util/ArrayList;", "LockRoomsModel") (List.mem_of_getElem? (i := 2) rfl))) (fun _ h9 => h9) rfl dX8_digest_88 ?_
  have hPr := ((zo_R hR0 hS hAr)).sub (ws' := [(lt, .inr (1, [.int 10, .ref ota, .int 10]))]) [2] rfl
  have hPc := hP.sub (ws' := []) [] rfl
  have hDc := hD.sub (ws' := []) [] (by decide) rfl
  have hKc := hK.sub (tys' := []) [] rfl
  have hFc := va_free (wc := []) hD hS hA [] rfl
  refine va_calli (va_runV (As := []) (rest := [.int 8]) ⟨hx, hb, hml, hown, hts⟩ (cz_Qsize l dC dI ed H.size lt 10 ota 10) (cwV 0 hts gX8_digest_Jx4a65c_size_8abf5 rfl rfl rfl (by decide +kernel) ⟨Nat.le_of_ble_eq_true rfl, Nat.le_of_ble_eq_true rfl⟩) ⟨zb_blind, va_recv hK (zo_R hR0 hS hAr) (ci := 1) (q0 := 2) rfl rfl, fun U hU hW => ⟨rfl, zb_mk hU hW hPr hPc hKc hDc hN hH hS hFc zx_e⟩⟩ rfl rfl hl.1 rfl (lv_room (Nat.le_of_ble_eq_true rfl)) dX8_digest_91 ⟨Nat.le_of_ble_eq_true rfl, Nat.le_of_ble_eq_true rfl⟩) hS (fun q _ h => hFc q h) hFc (fun r461 u t H460 locs ht hvm hw hB hz1 hk1 hS => ?_)
  obtain rfl : r461 = 10 := hw.trans (by decide +kernel)
  have hP := zo_K hP hk1
  refine lv_icmp_ge (tgt := 127) hx hb dX8_digest_94 (by decide) (fun h => absurd h (by decide)) (fun _ => ?_)
  refine lv_iconst (v := 0) hx hb dX8_digest_97 (by decide) ?_
  refine lv_istore_n (lv' := [(2, .int 0), (1, .int 8), (0, .ref mo)]) hx hb dX8_digest_98 rfl hl (by decide) rfl (fun ls hl => ?_)
  refine lv_iload_n hx hb dX8_digest_99 rfl (lv_at hl 0 rfl) ?_
  refine lv_bipush (v := 6) hx hb dX8_digest_100 (by decide) ?_
  refine lv_icmp_ge (tgt := 121) hx hb dX8_digest_102 (by decide) (fun h => absurd h (by decide)) (fun _ => ?_)
  refine lv_aload_n hx hb dX8_digest_105 rfl (lv_at hl 2 rfl) ?_
  refine lv_aload_n hx hb dX8_digest_106 rfl (lv_at hl 2 rfl) ?_
  refine lv_iload_n hx hb dX8_digest_107 rfl (lv_at hl 1 rfl) ?_
  refine lv_iload_n hx hb dX8_digest_108 rfl (lv_at hl 0 rfl) ?_
  have hPr := (show va_P (dC, dI) vwCl [(mo, .inr (10, [.int 0, .ref mr, .int 1, .long 1343917789087455487])), (mr, .inr (9, [.ref ll, .ref lt, .ref lp, .int 0, .int 0, .int 0, .int 0, .int 0, .int 0, .int 0, .int (-1), .int 0, .int 0, .int 0])), (lt, .inr (1, [.int 10, .ref ota, .int 10])), (ota, .inl (cOt, 10, .inr (.inr (.inr (.inr fot))))), (ta8, .inl (cB8, 5, .inl fb8))] H460 from (zo_cons ((hP) 12 _ rfl) (zo_cons (((zo_R hR0 hS hAr)) 0 _ rfl) (zo_cons (((zo_R hR0 hS hAr)) 2 _ rfl) (zo_cons (((zo_R hR0 hS hAr)) 5 _ rfl) (zo_cons ((hP) 10 _ rfl) (zo_nil : va_P (dC, dI) vwCl [] H460)))))))
  have hPc := hP.sub (ws' := []) [] rfl
  have hDc := hD.sub (ws' := []) [] (by decide) rfl
  have hKc := hK.sub (tys' := [(cOt, .object "java/lang/Object"), (cB8, .int)]) [1, 12] rfl
  have hFc := va_free (wc := []) hD hS hA [] rfl
  refine va_calli (va_runV (As := [.int 8, .int 0]) (rest := [.ref mo]) ⟨hx, hb, hml, hown, hts⟩ (cz_QofThingNow_8_0 l dC dI ed H460.size mo mr 0 1343917789087455487 ll lt lp ota cOt fot ta8 cB8 fb8 hot8 hb8_0) (cwV 2 hts gX8_digest_X8_ofThingNow rfl rfl rfl (by decide +kernel) ⟨Nat.le_of_ble_eq_true rfl, Nat.le_of_ble_eq_true rfl⟩) ⟨zb_blind, va_recv hK hP (ci := 10) (q0 := 12) rfl rfl, fun U hU hW => ⟨rfl, zb_mk hU hW hPr hPc hKc hDc hN hH hS hFc zx_e⟩⟩ rfl rfl hl.1 rfl (lv_room (Nat.le_of_ble_eq_true rfl)) dX8_digest_109 ⟨Nat.le_of_ble_eq_true rfl, Nat.le_of_ble_eq_true rfl⟩) hS (fun q _ h => hFc q h) hFc (fun r463 u t H462 locs ht hvm hw hB hz1 hk1 hS => ?_)
  obtain rfl : r463 = (-1) := hw
  have hP := zo_K hP hk1
  have hPr := (zo_nil : va_P (dC, dI) vwCl [] H462)
  have hPc := hP.sub (ws' := [(mo, .inr (10, [.int 0, .ref mr, .int 1, .long 1343917789087455487]))]) [12] rfl
  have hDc := hD.sub (ws' := [(mo, .inr (10, [.int 0, .ref mr, .int 1, .long 1343917789087455487]))]) [12] (by decide) rfl
  have hKc := hK.sub (tys' := []) [] rfl
  have hFc := va_free (wc := [(mo, .inr (10, [.int 0, .ref mr, .int 1, .long 1343917789087455487]))]) hD hS hA [12] rfl
  refine va_callv (va_runV (As := [.int (-1)]) (rest := []) ⟨hx, hb, hml, hown, hts⟩ (cz_X8_add l dC dI ed H462.size mo mr 0 1343917789087455487 (-1)) (cwV 1 hts gX8_digest_X8_add rfl rfl rfl (by decide +kernel) ⟨Nat.le_of_ble_eq_true rfl, Nat.le_of_ble_eq_true rfl⟩) ⟨zb_blind, va_recv hK hP (ci := 10) (q0 := 12) rfl rfl, fun U hU hW => ⟨rfl, zb_mk hU hW hPr hPc hKc hDc hN hH hS hFc zx_nil⟩⟩ rfl rfl hl.1 rfl (lv_room (Nat.le_of_ble_eq_true rfl)) dX8_digest_112 ⟨Nat.le_of_ble_eq_true rfl, Nat.le_of_ble_eq_true rfl⟩) hS (fun q _ h => hFc q h) hFc (fun u t H464 locs ht hvm hw hB hz1 hk1 hS => ?_)
  obtain ⟨s1_466, hf466_0, hP1, hD1, hK1⟩ := hB
  obtain rfl : s1_466 = 4767963314292016864 := hf466_0.trans (by first | rfl | decide +kernel)
  rw [ht] at hP1
  obtain ⟨hP, hD⟩ := va_join (wr := [(la0, .inl (cA0, 10, .inl fa0)), (la1, .inl (cA1, 10, .inl fa1)), (ta0, .inl (cB0, 5, .inl fb0)), (ta1, .inl (cB1, 5, .inl fb1)), (ta2, .inl (cB2, 5, .inl fb2)), (ta3, .inl (cB3, 5, .inl fb3)), (ta4, .inl (cB4, 5, .inl fb4)), (ta5, .inl (cB5, 5, .inl fb5)), (ta6, .inl (cB6, 5, .inl fb6)), (ta7, .inl (cB7, 5, .inl fb7)), (ta8, .inl (cB8, 5, .inl fb8)), (ta9, .inl (cB9, 5, .inl fb9))]) (w1 := [(mo, .inr (10, [.int 0, .ref mr, .int 1, .long 4767963314292016864]))]) hP hD [12] [0, 1, 2, 3, 4, 5, 6, 7, 8, 9, 10, 11] rfl rfl (by decide) (by decide) hk1 hFc hP1 hD1
  have hP : va_P (dC, dI) vwCl [(la0, .inl (cA0, 10, .inl fa0)), (la1, .inl (cA1, 10, .inl fa1)), (ta0, .inl (cB0, 5, .inl fb0)), (ta1, .inl (cB1, 5, .inl fb1)), (ta2, .inl (cB2, 5, .inl fb2)), (ta3, .inl (cB3, 5, .inl fb3)), (ta4, .inl (cB4, 5, .inl fb4)), (ta5, .inl (cB5, 5, .inl fb5)), (ta6, .inl (cB6, 5, .inl fb6)), (ta7, .inl (cB7, 5, .inl fb7)), (ta8, .inl (cB8, 5, .inl fb8)), (ta9, .inl (cB9, 5, .inl fb9)), (mo, .inr (10, [.int 0, .ref mr, .int 1, .long 4767963314292016864]))] H464 := hP
  have hD : va_D A [(la0, .inl (cA0, 10, .inl fa0)), (la1, .inl (cA1, 10, .inl fa1)), (ta0, .inl (cB0, 5, .inl fb0)), (ta1, .inl (cB1, 5, .inl fb1)), (ta2, .inl (cB2, 5, .inl fb2)), (ta3, .inl (cB3, 5, .inl fb3)), (ta4, .inl (cB4, 5, .inl fb4)), (ta5, .inl (cB5, 5, .inl fb5)), (ta6, .inl (cB6, 5, .inl fb6)), (ta7, .inl (cB7, 5, .inl fb7)), (ta8, .inl (cB8, 5, .inl fb8)), (ta9, .inl (cB9, 5, .inl fb9)), (mo, .inr (10, [.int 0, .ref mr, .int 1, .long 4767963314292016864]))] := hD
  refine lv_iinc (v := 1) (lv' := [(2, .int 1), (1, .int 8), (0, .ref mo)]) hx hb dX8_digest_115 hl (k := 0) rfl (by decide) (by decide) rfl (fun ls hl => ?_)
  refine lv_goto (tgt := 99) hx hb dX8_digest_118 (by decide) ?_
  refine lv_iload_n hx hb dX8_digest_99 rfl (lv_at hl 0 rfl) ?_
  refine lv_bipush (v := 6) hx hb dX8_digest_100 (by decide) ?_
  refine lv_icmp_ge (tgt := 121) hx hb dX8_digest_102 (by decide) (fun h => absurd h (by decide)) (fun _ => ?_)
  refine lv_aload_n hx hb dX8_digest_105 rfl (lv_at hl 2 rfl) ?_
  refine lv_aload_n hx hb dX8_digest_106 rfl (lv_at hl 2 rfl) ?_
  refine lv_iload_n hx hb dX8_digest_107 rfl (lv_at hl 1 rfl) ?_
  refine lv_iload_n hx hb dX8_digest_108 rfl (lv_at hl 0 rfl) ?_
  have hPr := (show va_P (dC, dI) vwCl [(mo, .inr (10, [.int 0, .ref mr, .int 1, .long 4767963314292016864])), (mr, .inr (9, [.ref ll, .ref lt, .ref lp, .int 0, .int 0, .int 0, .int 0, .int 0, .int 0, .int 0, .int (-1), .int 0, .int 0, .int 0])), (lt, .inr (1, [.int 10, .ref ota, .int 10])), (ota, .inl (cOt, 10, .inr (.inr (.inr (.inr fot))))), (ta8, .inl (cB8, 5, .inl fb8))] H464 from (zo_cons ((hP) 12 _ rfl) (zo_cons (((zo_R hR0 hS hAr)) 0 _ rfl) (zo_cons (((zo_R hR0 hS hAr)) 2 _ rfl) (zo_cons (((zo_R hR0 hS hAr)) 5 _ rfl) (zo_cons ((hP) 10 _ rfl) (zo_nil : va_P (dC, dI) vwCl [] H464)))))))
  have hPc := hP.sub (ws' := []) [] rfl
  have hDc := hD.sub (ws' := []) [] (by decide) rfl
  have hKc := hK.sub (tys' := [(cOt, .object "java/lang/Object"), (cB8, .int)]) [1, 12] rfl
  have hFc := va_free (wc := []) hD hS hA [] rfl
  refine va_calli (va_runV (As := [.int 8, .int 1]) (rest := [.ref mo]) ⟨hx, hb, hml, hown, hts⟩ (cz_QofThingNow_8_1 l dC dI ed H464.size mo mr 0 4767963314292016864 ll lt lp ota cOt fot ta8 cB8 fb8 hot8 hb8_1) (cwV 2 hts gX8_digest_X8_ofThingNow rfl rfl rfl (by decide +kernel) ⟨Nat.le_of_ble_eq_true rfl, Nat.le_of_ble_eq_true rfl⟩) ⟨zb_blind, va_recv hK hP (ci := 10) (q0 := 12) rfl rfl, fun U hU hW => ⟨rfl, zb_mk hU hW hPr hPc hKc hDc hN hH hS hFc zx_e⟩⟩ rfl rfl hl.1 rfl (lv_room (Nat.le_of_ble_eq_true rfl)) dX8_digest_109 ⟨Nat.le_of_ble_eq_true rfl, Nat.le_of_ble_eq_true rfl⟩) hS (fun q _ h => hFc q h) hFc (fun r468 u t H467 locs ht hvm hw hB hz1 hk1 hS => ?_)
  obtain rfl : r468 = 0 := hw
  have hP := zo_K hP hk1
  have hPr := (zo_nil : va_P (dC, dI) vwCl [] H467)
  have hPc := hP.sub (ws' := [(mo, .inr (10, [.int 0, .ref mr, .int 1, .long 4767963314292016864]))]) [12] rfl
  have hDc := hD.sub (ws' := [(mo, .inr (10, [.int 0, .ref mr, .int 1, .long 4767963314292016864]))]) [12] (by decide) rfl
  have hKc := hK.sub (tys' := []) [] rfl
  have hFc := va_free (wc := [(mo, .inr (10, [.int 0, .ref mr, .int 1, .long 4767963314292016864]))]) hD hS hA [12] rfl
  refine va_callv (va_runV (As := [.int 0]) (rest := []) ⟨hx, hb, hml, hown, hts⟩ (cz_X8_add l dC dI ed H467.size mo mr 0 4767963314292016864 0) (cwV 1 hts gX8_digest_X8_add rfl rfl rfl (by decide +kernel) ⟨Nat.le_of_ble_eq_true rfl, Nat.le_of_ble_eq_true rfl⟩) ⟨zb_blind, va_recv hK hP (ci := 10) (q0 := 12) rfl rfl, fun U hU hW => ⟨rfl, zb_mk hU hW hPr hPc hKc hDc hN hH hS hFc zx_nil⟩⟩ rfl rfl hl.1 rfl (lv_room (Nat.le_of_ble_eq_true rfl)) dX8_digest_112 ⟨Nat.le_of_ble_eq_true rfl, Nat.le_of_ble_eq_true rfl⟩) hS (fun q _ h => hFc q h) hFc (fun u t H469 locs ht hvm hw hB hz1 hk1 hS => ?_)
  obtain ⟨s1_471, hf471_0, hP1, hD1, hK1⟩ := hB
  obtain rfl : s1_471 = 232910153376109856 := hf471_0.trans (by first | rfl | decide +kernel)
  rw [ht] at hP1
  obtain ⟨hP, hD⟩ := va_join (wr := [(la0, .inl (cA0, 10, .inl fa0)), (la1, .inl (cA1, 10, .inl fa1)), (ta0, .inl (cB0, 5, .inl fb0)), (ta1, .inl (cB1, 5, .inl fb1)), (ta2, .inl (cB2, 5, .inl fb2)), (ta3, .inl (cB3, 5, .inl fb3)), (ta4, .inl (cB4, 5, .inl fb4)), (ta5, .inl (cB5, 5, .inl fb5)), (ta6, .inl (cB6, 5, .inl fb6)), (ta7, .inl (cB7, 5, .inl fb7)), (ta8, .inl (cB8, 5, .inl fb8)), (ta9, .inl (cB9, 5, .inl fb9))]) (w1 := [(mo, .inr (10, [.int 0, .ref mr, .int 1, .long 232910153376109856]))]) hP hD [12] [0, 1, 2, 3, 4, 5, 6, 7, 8, 9, 10, 11] rfl rfl (by decide) (by decide) hk1 hFc hP1 hD1
  have hP : va_P (dC, dI) vwCl [(la0, .inl (cA0, 10, .inl fa0)), (la1, .inl (cA1, 10, .inl fa1)), (ta0, .inl (cB0, 5, .inl fb0)), (ta1, .inl (cB1, 5, .inl fb1)), (ta2, .inl (cB2, 5, .inl fb2)), (ta3, .inl (cB3, 5, .inl fb3)), (ta4, .inl (cB4, 5, .inl fb4)), (ta5, .inl (cB5, 5, .inl fb5)), (ta6, .inl (cB6, 5, .inl fb6)), (ta7, .inl (cB7, 5, .inl fb7)), (ta8, .inl (cB8, 5, .inl fb8)), (ta9, .inl (cB9, 5, .inl fb9)), (mo, .inr (10, [.int 0, .ref mr, .int 1, .long 232910153376109856]))] H469 := hP
  have hD : va_D A [(la0, .inl (cA0, 10, .inl fa0)), (la1, .inl (cA1, 10, .inl fa1)), (ta0, .inl (cB0, 5, .inl fb0)), (ta1, .inl (cB1, 5, .inl fb1)), (ta2, .inl (cB2, 5, .inl fb2)), (ta3, .inl (cB3, 5, .inl fb3)), (ta4, .inl (cB4, 5, .inl fb4)), (ta5, .inl (cB5, 5, .inl fb5)), (ta6, .inl (cB6, 5, .inl fb6)), (ta7, .inl (cB7, 5, .inl fb7)), (ta8, .inl (cB8, 5, .inl fb8)), (ta9, .inl (cB9, 5, .inl fb9)), (mo, .inr (10, [.int 0, .ref mr, .int 1, .long 232910153376109856]))] := hD
  refine lv_iinc (v := 2) (lv' := [(2, .int 2), (1, .int 8), (0, .ref mo)]) hx hb dX8_digest_115 hl (k := 0) rfl (by decide) (by decide) rfl (fun ls hl => ?_)
  refine lv_goto (tgt := 99) hx hb dX8_digest_118 (by decide) ?_
  refine lv_iload_n hx hb dX8_digest_99 rfl (lv_at hl 0 rfl) ?_
  refine lv_bipush (v := 6) hx hb dX8_digest_100 (by decide) ?_
  refine lv_icmp_ge (tgt := 121) hx hb dX8_digest_102 (by decide) (fun h => absurd h (by decide)) (fun _ => ?_)
  refine lv_aload_n hx hb dX8_digest_105 rfl (lv_at hl 2 rfl) ?_
  refine lv_aload_n hx hb dX8_digest_106 rfl (lv_at hl 2 rfl) ?_
  refine lv_iload_n hx hb dX8_digest_107 rfl (lv_at hl 1 rfl) ?_
  refine lv_iload_n hx hb dX8_digest_108 rfl (lv_at hl 0 rfl) ?_
  have hPr := (show va_P (dC, dI) vwCl [(mo, .inr (10, [.int 0, .ref mr, .int 1, .long 232910153376109856])), (mr, .inr (9, [.ref ll, .ref lt, .ref lp, .int 0, .int 0, .int 0, .int 0, .int 0, .int 0, .int 0, .int (-1), .int 0, .int 0, .int 0])), (lt, .inr (1, [.int 10, .ref ota, .int 10])), (ota, .inl (cOt, 10, .inr (.inr (.inr (.inr fot))))), (ta8, .inl (cB8, 5, .inl fb8))] H469 from (zo_cons ((hP) 12 _ rfl) (zo_cons (((zo_R hR0 hS hAr)) 0 _ rfl) (zo_cons (((zo_R hR0 hS hAr)) 2 _ rfl) (zo_cons (((zo_R hR0 hS hAr)) 5 _ rfl) (zo_cons ((hP) 10 _ rfl) (zo_nil : va_P (dC, dI) vwCl [] H469)))))))
  have hPc := hP.sub (ws' := []) [] rfl
  have hDc := hD.sub (ws' := []) [] (by decide) rfl
  have hKc := hK.sub (tys' := [(cOt, .object "java/lang/Object"), (cB8, .int)]) [1, 12] rfl
  have hFc := va_free (wc := []) hD hS hA [] rfl
  refine va_calli (va_runV (As := [.int 8, .int 2]) (rest := [.ref mo]) ⟨hx, hb, hml, hown, hts⟩ (cz_QofThingNow_8_2 l dC dI ed H469.size mo mr 0 232910153376109856 ll lt lp ota cOt fot ta8 cB8 fb8 hot8 hb8_2) (cwV 2 hts gX8_digest_X8_ofThingNow rfl rfl rfl (by decide +kernel) ⟨Nat.le_of_ble_eq_true rfl, Nat.le_of_ble_eq_true rfl⟩) ⟨zb_blind, va_recv hK hP (ci := 10) (q0 := 12) rfl rfl, fun U hU hW => ⟨rfl, zb_mk hU hW hPr hPc hKc hDc hN hH hS hFc zx_e⟩⟩ rfl rfl hl.1 rfl (lv_room (Nat.le_of_ble_eq_true rfl)) dX8_digest_109 ⟨Nat.le_of_ble_eq_true rfl, Nat.le_of_ble_eq_true rfl⟩) hS (fun q _ h => hFc q h) hFc (fun r473 u t H472 locs ht hvm hw hB hz1 hk1 hS => ?_)
  obtain rfl : r473 = 0 := hw
  have hP := zo_K hP hk1
  have hPr := (zo_nil : va_P (dC, dI) vwCl [] H472)
  have hPc := hP.sub (ws' := [(mo, .inr (10, [.int 0, .ref mr, .int 1, .long 232910153376109856]))]) [12] rfl
  have hDc := hD.sub (ws' := [(mo, .inr (10, [.int 0, .ref mr, .int 1, .long 232910153376109856]))]) [12] (by decide) rfl
  have hKc := hK.sub (tys' := []) [] rfl
  have hFc := va_free (wc := [(mo, .inr (10, [.int 0, .ref mr, .int 1, .long 232910153376109856]))]) hD hS hA [12] rfl
  refine va_callv (va_runV (As := [.int 0]) (rest := []) ⟨hx, hb, hml, hown, hts⟩ (cz_X8_add l dC dI ed H472.size mo mr 0 232910153376109856 0) (cwV 1 hts gX8_digest_X8_add rfl rfl rfl (by decide +kernel) ⟨Nat.le_of_ble_eq_true rfl, Nat.le_of_ble_eq_true rfl⟩) ⟨zb_blind, va_recv hK hP (ci := 10) (q0 := 12) rfl rfl, fun U hU hW => ⟨rfl, zb_mk hU hW hPr hPc hKc hDc hN hH hS hFc zx_nil⟩⟩ rfl rfl hl.1 rfl (lv_room (Nat.le_of_ble_eq_true rfl)) dX8_digest_112 ⟨Nat.le_of_ble_eq_true rfl, Nat.le_of_ble_eq_true rfl⟩) hS (fun q _ h => hFc q h) hFc (fun u t H474 locs ht hvm hw hB hz1 hk1 hS => ?_)
  obtain ⟨s1_476, hf476_0, hP1, hD1, hK1⟩ := hB
  obtain rfl : s1_476 = 7220214754659405536 := hf476_0.trans (by first | rfl | decide +kernel)
  rw [ht] at hP1
  obtain ⟨hP, hD⟩ := va_join (wr := [(la0, .inl (cA0, 10, .inl fa0)), (la1, .inl (cA1, 10, .inl fa1)), (ta0, .inl (cB0, 5, .inl fb0)), (ta1, .inl (cB1, 5, .inl fb1)), (ta2, .inl (cB2, 5, .inl fb2)), (ta3, .inl (cB3, 5, .inl fb3)), (ta4, .inl (cB4, 5, .inl fb4)), (ta5, .inl (cB5, 5, .inl fb5)), (ta6, .inl (cB6, 5, .inl fb6)), (ta7, .inl (cB7, 5, .inl fb7)), (ta8, .inl (cB8, 5, .inl fb8)), (ta9, .inl (cB9, 5, .inl fb9))]) (w1 := [(mo, .inr (10, [.int 0, .ref mr, .int 1, .long 7220214754659405536]))]) hP hD [12] [0, 1, 2, 3, 4, 5, 6, 7, 8, 9, 10, 11] rfl rfl (by decide) (by decide) hk1 hFc hP1 hD1
  have hP : va_P (dC, dI) vwCl [(la0, .inl (cA0, 10, .inl fa0)), (la1, .inl (cA1, 10, .inl fa1)), (ta0, .inl (cB0, 5, .inl fb0)), (ta1, .inl (cB1, 5, .inl fb1)), (ta2, .inl (cB2, 5, .inl fb2)), (ta3, .inl (cB3, 5, .inl fb3)), (ta4, .inl (cB4, 5, .inl fb4)), (ta5, .inl (cB5, 5, .inl fb5)), (ta6, .inl (cB6, 5, .inl fb6)), (ta7, .inl (cB7, 5, .inl fb7)), (ta8, .inl (cB8, 5, .inl fb8)), (ta9, .inl (cB9, 5, .inl fb9)), (mo, .inr (10, [.int 0, .ref mr, .int 1, .long 7220214754659405536]))] H474 := hP
  have hD : va_D A [(la0, .inl (cA0, 10, .inl fa0)), (la1, .inl (cA1, 10, .inl fa1)), (ta0, .inl (cB0, 5, .inl fb0)), (ta1, .inl (cB1, 5, .inl fb1)), (ta2, .inl (cB2, 5, .inl fb2)), (ta3, .inl (cB3, 5, .inl fb3)), (ta4, .inl (cB4, 5, .inl fb4)), (ta5, .inl (cB5, 5, .inl fb5)), (ta6, .inl (cB6, 5, .inl fb6)), (ta7, .inl (cB7, 5, .inl fb7)), (ta8, .inl (cB8, 5, .inl fb8)), (ta9, .inl (cB9, 5, .inl fb9)), (mo, .inr (10, [.int 0, .ref mr, .int 1, .long 7220214754659405536]))] := hD
  refine lv_iinc (v := 3) (lv' := [(2, .int 3), (1, .int 8), (0, .ref mo)]) hx hb dX8_digest_115 hl (k := 0) rfl (by decide) (by decide) rfl (fun ls hl => ?_)
  refine lv_goto (tgt := 99) hx hb dX8_digest_118 (by decide) ?_
  refine lv_iload_n hx hb dX8_digest_99 rfl (lv_at hl 0 rfl) ?_
  refine lv_bipush (v := 6) hx hb dX8_digest_100 (by decide) ?_
  refine lv_icmp_ge (tgt := 121) hx hb dX8_digest_102 (by decide) (fun h => absurd h (by decide)) (fun _ => ?_)
  refine lv_aload_n hx hb dX8_digest_105 rfl (lv_at hl 2 rfl) ?_
  refine lv_aload_n hx hb dX8_digest_106 rfl (lv_at hl 2 rfl) ?_
  refine lv_iload_n hx hb dX8_digest_107 rfl (lv_at hl 1 rfl) ?_
  refine lv_iload_n hx hb dX8_digest_108 rfl (lv_at hl 0 rfl) ?_
  have hPr := (show va_P (dC, dI) vwCl [(mo, .inr (10, [.int 0, .ref mr, .int 1, .long 7220214754659405536])), (mr, .inr (9, [.ref ll, .ref lt, .ref lp, .int 0, .int 0, .int 0, .int 0, .int 0, .int 0, .int 0, .int (-1), .int 0, .int 0, .int 0])), (lt, .inr (1, [.int 10, .ref ota, .int 10])), (ota, .inl (cOt, 10, .inr (.inr (.inr (.inr fot))))), (ta8, .inl (cB8, 5, .inl fb8))] H474 from (zo_cons ((hP) 12 _ rfl) (zo_cons (((zo_R hR0 hS hAr)) 0 _ rfl) (zo_cons (((zo_R hR0 hS hAr)) 2 _ rfl) (zo_cons (((zo_R hR0 hS hAr)) 5 _ rfl) (zo_cons ((hP) 10 _ rfl) (zo_nil : va_P (dC, dI) vwCl [] H474)))))))
  have hPc := hP.sub (ws' := []) [] rfl
  have hDc := hD.sub (ws' := []) [] (by decide) rfl
  have hKc := hK.sub (tys' := [(cOt, .object "java/lang/Object"), (cB8, .int)]) [1, 12] rfl
  have hFc := va_free (wc := []) hD hS hA [] rfl
  refine va_calli (va_runV (As := [.int 8, .int 3]) (rest := [.ref mo]) ⟨hx, hb, hml, hown, hts⟩ (cz_QofThingNow_8_3 l dC dI ed H474.size mo mr 0 7220214754659405536 ll lt lp ota cOt fot ta8 cB8 fb8 hot8 hb8_3) (cwV 2 hts gX8_digest_X8_ofThingNow rfl rfl rfl (by decide +kernel) ⟨Nat.le_of_ble_eq_true rfl, Nat.le_of_ble_eq_true rfl⟩) ⟨zb_blind, va_recv hK hP (ci := 10) (q0 := 12) rfl rfl, fun U hU hW => ⟨rfl, zb_mk hU hW hPr hPc hKc hDc hN hH hS hFc zx_e⟩⟩ rfl rfl hl.1 rfl (lv_room (Nat.le_of_ble_eq_true rfl)) dX8_digest_109 ⟨Nat.le_of_ble_eq_true rfl, Nat.le_of_ble_eq_true rfl⟩) hS (fun q _ h => hFc q h) hFc (fun r478 u t H477 locs ht hvm hw hB hz1 hk1 hS => ?_)
  obtain rfl : r478 = 0 := hw
  have hP := zo_K hP hk1
  have hPr := (zo_nil : va_P (dC, dI) vwCl [] H477)
  have hPc := hP.sub (ws' := [(mo, .inr (10, [.int 0, .ref mr, .int 1, .long 7220214754659405536]))]) [12] rfl
  have hDc := hD.sub (ws' := [(mo, .inr (10, [.int 0, .ref mr, .int 1, .long 7220214754659405536]))]) [12] (by decide) rfl
  have hKc := hK.sub (tys' := []) [] rfl
  have hFc := va_free (wc := [(mo, .inr (10, [.int 0, .ref mr, .int 1, .long 7220214754659405536]))]) hD hS hA [12] rfl
  refine va_callv (va_runV (As := [.int 0]) (rest := []) ⟨hx, hb, hml, hown, hts⟩ (cz_X8_add l dC dI ed H477.size mo mr 0 7220214754659405536 0) (cwV 1 hts gX8_digest_X8_add rfl rfl rfl (by decide +kernel) ⟨Nat.le_of_ble_eq_true rfl, Nat.le_of_ble_eq_true rfl⟩) ⟨zb_blind, va_recv hK hP (ci := 10) (q0 := 12) rfl rfl, fun U hU hW => ⟨rfl, zb_mk hU hW hPr hPc hKc hDc hN hH hS hFc zx_nil⟩⟩ rfl rfl hl.1 rfl (lv_room (Nat.le_of_ble_eq_true rfl)) dX8_digest_112 ⟨Nat.le_of_ble_eq_true rfl, Nat.le_of_ble_eq_true rfl⟩) hS (fun q _ h => hFc q h) hFc (fun u t H479 locs ht hvm hw hB hz1 hk1 hS => ?_)
  obtain ⟨s1_481, hf481_0, hP1, hD1, hK1⟩ := hB
  obtain rfl : s1_481 = 2465728509926952224 := hf481_0.trans (by first | rfl | decide +kernel)
  rw [ht] at hP1
  obtain ⟨hP, hD⟩ := va_join (wr := [(la0, .inl (cA0, 10, .inl fa0)), (la1, .inl (cA1, 10, .inl fa1)), (ta0, .inl (cB0, 5, .inl fb0)), (ta1, .inl (cB1, 5, .inl fb1)), (ta2, .inl (cB2, 5, .inl fb2)), (ta3, .inl (cB3, 5, .inl fb3)), (ta4, .inl (cB4, 5, .inl fb4)), (ta5, .inl (cB5, 5, .inl fb5)), (ta6, .inl (cB6, 5, .inl fb6)), (ta7, .inl (cB7, 5, .inl fb7)), (ta8, .inl (cB8, 5, .inl fb8)), (ta9, .inl (cB9, 5, .inl fb9))]) (w1 := [(mo, .inr (10, [.int 0, .ref mr, .int 1, .long 2465728509926952224]))]) hP hD [12] [0, 1, 2, 3, 4, 5, 6, 7, 8, 9, 10, 11] rfl rfl (by decide) (by decide) hk1 hFc hP1 hD1
  have hP : va_P (dC, dI) vwCl [(la0, .inl (cA0, 10, .inl fa0)), (la1, .inl (cA1, 10, .inl fa1)), (ta0, .inl (cB0, 5, .inl fb0)), (ta1, .inl (cB1, 5, .inl fb1)), (ta2, .inl (cB2, 5, .inl fb2)), (ta3, .inl (cB3, 5, .inl fb3)), (ta4, .inl (cB4, 5, .inl fb4)), (ta5, .inl (cB5, 5, .inl fb5)), (ta6, .inl (cB6, 5, .inl fb6)), (ta7, .inl (cB7, 5, .inl fb7)), (ta8, .inl (cB8, 5, .inl fb8)), (ta9, .inl (cB9, 5, .inl fb9)), (mo, .inr (10, [.int 0, .ref mr, .int 1, .long 2465728509926952224]))] H479 := hP
  have hD : va_D A [(la0, .inl (cA0, 10, .inl fa0)), (la1, .inl (cA1, 10, .inl fa1)), (ta0, .inl (cB0, 5, .inl fb0)), (ta1, .inl (cB1, 5, .inl fb1)), (ta2, .inl (cB2, 5, .inl fb2)), (ta3, .inl (cB3, 5, .inl fb3)), (ta4, .inl (cB4, 5, .inl fb4)), (ta5, .inl (cB5, 5, .inl fb5)), (ta6, .inl (cB6, 5, .inl fb6)), (ta7, .inl (cB7, 5, .inl fb7)), (ta8, .inl (cB8, 5, .inl fb8)), (ta9, .inl (cB9, 5, .inl fb9)), (mo, .inr (10, [.int 0, .ref mr, .int 1, .long 2465728509926952224]))] := hD
  refine lv_iinc (v := 4) (lv' := [(2, .int 4), (1, .int 8), (0, .ref mo)]) hx hb dX8_digest_115 hl (k := 0) rfl (by decide) (by decide) rfl (fun ls hl => ?_)
  refine lv_goto (tgt := 99) hx hb dX8_digest_118 (by decide) ?_
  refine lv_iload_n hx hb dX8_digest_99 rfl (lv_at hl 0 rfl) ?_
  refine lv_bipush (v := 6) hx hb dX8_digest_100 (by decide) ?_
  refine lv_icmp_ge (tgt := 121) hx hb dX8_digest_102 (by decide) (fun h => absurd h (by decide)) (fun _ => ?_)
  refine lv_aload_n hx hb dX8_digest_105 rfl (lv_at hl 2 rfl) ?_
  refine lv_aload_n hx hb dX8_digest_106 rfl (lv_at hl 2 rfl) ?_
  refine lv_iload_n hx hb dX8_digest_107 rfl (lv_at hl 1 rfl) ?_
  refine lv_iload_n hx hb dX8_digest_108 rfl (lv_at hl 0 rfl) ?_
  have hPr := (show va_P (dC, dI) vwCl [(mo, .inr (10, [.int 0, .ref mr, .int 1, .long 2465728509926952224])), (mr, .inr (9, [.ref ll, .ref lt, .ref lp, .int 0, .int 0, .int 0, .int 0, .int 0, .int 0, .int 0, .int (-1), .int 0, .int 0, .int 0])), (lt, .inr (1, [.int 10, .ref ota, .int 10])), (ota, .inl (cOt, 10, .inr (.inr (.inr (.inr fot))))), (ta8, .inl (cB8, 5, .inl fb8))] H479 from (zo_cons ((hP) 12 _ rfl) (zo_cons (((zo_R hR0 hS hAr)) 0 _ rfl) (zo_cons (((zo_R hR0 hS hAr)) 2 _ rfl) (zo_cons (((zo_R hR0 hS hAr)) 5 _ rfl) (zo_cons ((hP) 10 _ rfl) (zo_nil : va_P (dC, dI) vwCl [] H479)))))))
  have hPc := hP.sub (ws' := []) [] rfl
  have hDc := hD.sub (ws' := []) [] (by decide) rfl
  have hKc := hK.sub (tys' := [(cOt, .object "java/lang/Object"), (cB8, .int)]) [1, 12] rfl
  have hFc := va_free (wc := []) hD hS hA [] rfl
  refine va_calli (va_runV (As := [.int 8, .int 4]) (rest := [.ref mo]) ⟨hx, hb, hml, hown, hts⟩ (cz_QofThingNow_8_4 l dC dI ed H479.size mo mr 0 2465728509926952224 ll lt lp ota cOt fot ta8 cB8 fb8 hot8 hb8_0 hb8_3) (cwV 2 hts gX8_digest_X8_ofThingNow rfl rfl rfl (by decide +kernel) ⟨Nat.le_of_ble_eq_true rfl, Nat.le_of_ble_eq_true rfl⟩) ⟨zb_blind, va_recv hK hP (ci := 10) (q0 := 12) rfl rfl, fun U hU hW => ⟨rfl, zb_mk hU hW hPr hPc hKc hDc hN hH hS hFc zx_e⟩⟩ rfl rfl hl.1 rfl (lv_room (Nat.le_of_ble_eq_true rfl)) dX8_digest_109 ⟨Nat.le_of_ble_eq_true rfl, Nat.le_of_ble_eq_true rfl⟩) hS (fun q _ h => hFc q h) hFc (fun r483 u t H482 locs ht hvm hw hB hz1 hk1 hS => ?_)
  obtain rfl : r483 = 1 := hw
  have hP := zo_K hP hk1
  have hPr := (zo_nil : va_P (dC, dI) vwCl [] H482)
  have hPc := hP.sub (ws' := [(mo, .inr (10, [.int 0, .ref mr, .int 1, .long 2465728509926952224]))]) [12] rfl
  have hDc := hD.sub (ws' := [(mo, .inr (10, [.int 0, .ref mr, .int 1, .long 2465728509926952224]))]) [12] (by decide) rfl
  have hKc := hK.sub (tys' := []) [] rfl
  have hFc := va_free (wc := [(mo, .inr (10, [.int 0, .ref mr, .int 1, .long 2465728509926952224]))]) hD hS hA [12] rfl
  refine va_callv (va_runV (As := [.int 1]) (rest := []) ⟨hx, hb, hml, hown, hts⟩ (cz_X8_add l dC dI ed H482.size mo mr 0 2465728509926952224 1) (cwV 1 hts gX8_digest_X8_add rfl rfl rfl (by decide +kernel) ⟨Nat.le_of_ble_eq_true rfl, Nat.le_of_ble_eq_true rfl⟩) ⟨zb_blind, va_recv hK hP (ci := 10) (q0 := 12) rfl rfl, fun U hU hW => ⟨rfl, zb_mk hU hW hPr hPc hKc hDc hN hH hS hFc zx_nil⟩⟩ rfl rfl hl.1 rfl (lv_room (Nat.le_of_ble_eq_true rfl)) dX8_digest_112 ⟨Nat.le_of_ble_eq_true rfl, Nat.le_of_ble_eq_true rfl⟩) hS (fun q _ h => hFc q h) hFc (fun u t H484 locs ht hvm hw hB hz1 hk1 hS => ?_)
  obtain ⟨s1_486, hf486_0, hP1, hD1, hK1⟩ := hB
  obtain rfl : s1_486 = 2650607512897312481 := hf486_0.trans (by first | rfl | decide +kernel)
  rw [ht] at hP1
  obtain ⟨hP, hD⟩ := va_join (wr := [(la0, .inl (cA0, 10, .inl fa0)), (la1, .inl (cA1, 10, .inl fa1)), (ta0, .inl (cB0, 5, .inl fb0)), (ta1, .inl (cB1, 5, .inl fb1)), (ta2, .inl (cB2, 5, .inl fb2)), (ta3, .inl (cB3, 5, .inl fb3)), (ta4, .inl (cB4, 5, .inl fb4)), (ta5, .inl (cB5, 5, .inl fb5)), (ta6, .inl (cB6, 5, .inl fb6)), (ta7, .inl (cB7, 5, .inl fb7)), (ta8, .inl (cB8, 5, .inl fb8)), (ta9, .inl (cB9, 5, .inl fb9))]) (w1 := [(mo, .inr (10, [.int 0, .ref mr, .int 1, .long 2650607512897312481]))]) hP hD [12] [0, 1, 2, 3, 4, 5, 6, 7, 8, 9, 10, 11] rfl rfl (by decide) (by decide) hk1 hFc hP1 hD1
  have hP : va_P (dC, dI) vwCl [(la0, .inl (cA0, 10, .inl fa0)), (la1, .inl (cA1, 10, .inl fa1)), (ta0, .inl (cB0, 5, .inl fb0)), (ta1, .inl (cB1, 5, .inl fb1)), (ta2, .inl (cB2, 5, .inl fb2)), (ta3, .inl (cB3, 5, .inl fb3)), (ta4, .inl (cB4, 5, .inl fb4)), (ta5, .inl (cB5, 5, .inl fb5)), (ta6, .inl (cB6, 5, .inl fb6)), (ta7, .inl (cB7, 5, .inl fb7)), (ta8, .inl (cB8, 5, .inl fb8)), (ta9, .inl (cB9, 5, .inl fb9)), (mo, .inr (10, [.int 0, .ref mr, .int 1, .long 2650607512897312481]))] H484 := hP
  have hD : va_D A [(la0, .inl (cA0, 10, .inl fa0)), (la1, .inl (cA1, 10, .inl fa1)), (ta0, .inl (cB0, 5, .inl fb0)), (ta1, .inl (cB1, 5, .inl fb1)), (ta2, .inl (cB2, 5, .inl fb2)), (ta3, .inl (cB3, 5, .inl fb3)), (ta4, .inl (cB4, 5, .inl fb4)), (ta5, .inl (cB5, 5, .inl fb5)), (ta6, .inl (cB6, 5, .inl fb6)), (ta7, .inl (cB7, 5, .inl fb7)), (ta8, .inl (cB8, 5, .inl fb8)), (ta9, .inl (cB9, 5, .inl fb9)), (mo, .inr (10, [.int 0, .ref mr, .int 1, .long 2650607512897312481]))] := hD
  refine lv_iinc (v := 5) (lv' := [(2, .int 5), (1, .int 8), (0, .ref mo)]) hx hb dX8_digest_115 hl (k := 0) rfl (by decide) (by decide) rfl (fun ls hl => ?_)
  refine lv_goto (tgt := 99) hx hb dX8_digest_118 (by decide) ?_
  refine lv_iload_n hx hb dX8_digest_99 rfl (lv_at hl 0 rfl) ?_
  refine lv_bipush (v := 6) hx hb dX8_digest_100 (by decide) ?_
  refine lv_icmp_ge (tgt := 121) hx hb dX8_digest_102 (by decide) (fun h => absurd h (by decide)) (fun _ => ?_)
  refine lv_aload_n hx hb dX8_digest_105 rfl (lv_at hl 2 rfl) ?_
  refine lv_aload_n hx hb dX8_digest_106 rfl (lv_at hl 2 rfl) ?_
  refine lv_iload_n hx hb dX8_digest_107 rfl (lv_at hl 1 rfl) ?_
  refine lv_iload_n hx hb dX8_digest_108 rfl (lv_at hl 0 rfl) ?_
  have hPr := (show va_P (dC, dI) vwCl [(mo, .inr (10, [.int 0, .ref mr, .int 1, .long 2650607512897312481])), (mr, .inr (9, [.ref ll, .ref lt, .ref lp, .int 0, .int 0, .int 0, .int 0, .int 0, .int 0, .int 0, .int (-1), .int 0, .int 0, .int 0])), (ll, .inr (1, [.int 2, .ref ola, .int 2])), (ola, .inl (cOl, 10, .inr (.inr (.inr (.inr fol))))), (la0, .inl (cA0, 10, .inl fa0)), (la1, .inl (cA1, 10, .inl fa1))] H484 from (zo_cons ((hP) 12 _ rfl) (zo_cons (((zo_R hR0 hS hAr)) 0 _ rfl) (zo_cons (((zo_R hR0 hS hAr)) 1 _ rfl) (zo_cons (((zo_R hR0 hS hAr)) 4 _ rfl) (zo_cons ((hP) 0 _ rfl) (zo_cons ((hP) 1 _ rfl) (zo_nil : va_P (dC, dI) vwCl [] H484))))))))
  have hPc := hP.sub (ws' := []) [] rfl
  have hDc := hD.sub (ws' := []) [] (by decide) rfl
  have hKc := hK.sub (tys' := [(cOl, .object "java/lang/Object"), (cA0, .int), (cA1, .int)]) [0, 2, 3] rfl
  have hFc := va_free (wc := []) hD hS hA [] rfl
  refine va_calli (va_runV (As := [.int 8, .int 5]) (rest := [.ref mo]) ⟨hx, hb, hml, hown, hts⟩ (cz_QofThingNow_8_5 l dC dI ed H484.size mo mr 0 2650607512897312481 ll lt lp ola cOl fol la0 la1 cA0 fa0 cA1 fa1 hol0 hol1 ha0_0 ha1_0) (cwV 2 hts gX8_digest_X8_ofThingNow rfl rfl rfl (by decide +kernel) ⟨Nat.le_of_ble_eq_true rfl, Nat.le_of_ble_eq_true rfl⟩) ⟨zb_blind, va_recv hK hP (ci := 10) (q0 := 12) rfl rfl, fun U hU hW => ⟨rfl, zb_mk hU hW hPr hPc hKc hDc hN hH hS hFc zx_e⟩⟩ rfl rfl hl.1 rfl (lv_room (Nat.le_of_ble_eq_true rfl)) dX8_digest_109 ⟨Nat.le_of_ble_eq_true rfl, Nat.le_of_ble_eq_true rfl⟩) hS (fun q _ h => hFc q h) hFc (fun r488 u t H487 locs ht hvm hw hB hz1 hk1 hS => ?_)
  obtain rfl : r488 = 0 := hw
  have hP := zo_K hP hk1
  have hPr := (zo_nil : va_P (dC, dI) vwCl [] H487)
  have hPc := hP.sub (ws' := [(mo, .inr (10, [.int 0, .ref mr, .int 1, .long 2650607512897312481]))]) [12] rfl
  have hDc := hD.sub (ws' := [(mo, .inr (10, [.int 0, .ref mr, .int 1, .long 2650607512897312481]))]) [12] (by decide) rfl
  have hKc := hK.sub (tys' := []) [] rfl
  have hFc := va_free (wc := [(mo, .inr (10, [.int 0, .ref mr, .int 1, .long 2650607512897312481]))]) hD hS hA [12] rfl
  refine va_callv (va_runV (As := [.int 0]) (rest := []) ⟨hx, hb, hml, hown, hts⟩ (cz_X8_add l dC dI ed H487.size mo mr 0 2650607512897312481 0) (cwV 1 hts gX8_digest_X8_add rfl rfl rfl (by decide +kernel) ⟨Nat.le_of_ble_eq_true rfl, Nat.le_of_ble_eq_true rfl⟩) ⟨zb_blind, va_recv hK hP (ci := 10) (q0 := 12) rfl rfl, fun U hU hW => ⟨rfl, zb_mk hU hW hPr hPc hKc hDc hN hH hS hFc zx_nil⟩⟩ rfl rfl hl.1 rfl (lv_room (Nat.le_of_ble_eq_true rfl)) dX8_digest_112 ⟨Nat.le_of_ble_eq_true rfl, Nat.le_of_ble_eq_true rfl⟩) hS (fun q _ h => hFc q h) hFc (fun u t H489 locs ht hvm hw hB hz1 hk1 hS => ?_)
  obtain ⟨s1_491, hf491_0, hP1, hD1, hK1⟩ := hB
  obtain rfl : s1_491 = 8381856604978480447 := hf491_0.trans (by first | rfl | decide +kernel)
  rw [ht] at hP1
  obtain ⟨hP, hD⟩ := va_join (wr := [(la0, .inl (cA0, 10, .inl fa0)), (la1, .inl (cA1, 10, .inl fa1)), (ta0, .inl (cB0, 5, .inl fb0)), (ta1, .inl (cB1, 5, .inl fb1)), (ta2, .inl (cB2, 5, .inl fb2)), (ta3, .inl (cB3, 5, .inl fb3)), (ta4, .inl (cB4, 5, .inl fb4)), (ta5, .inl (cB5, 5, .inl fb5)), (ta6, .inl (cB6, 5, .inl fb6)), (ta7, .inl (cB7, 5, .inl fb7)), (ta8, .inl (cB8, 5, .inl fb8)), (ta9, .inl (cB9, 5, .inl fb9))]) (w1 := [(mo, .inr (10, [.int 0, .ref mr, .int 1, .long 8381856604978480447]))]) hP hD [12] [0, 1, 2, 3, 4, 5, 6, 7, 8, 9, 10, 11] rfl rfl (by decide) (by decide) hk1 hFc hP1 hD1
  have hP : va_P (dC, dI) vwCl [(la0, .inl (cA0, 10, .inl fa0)), (la1, .inl (cA1, 10, .inl fa1)), (ta0, .inl (cB0, 5, .inl fb0)), (ta1, .inl (cB1, 5, .inl fb1)), (ta2, .inl (cB2, 5, .inl fb2)), (ta3, .inl (cB3, 5, .inl fb3)), (ta4, .inl (cB4, 5, .inl fb4)), (ta5, .inl (cB5, 5, .inl fb5)), (ta6, .inl (cB6, 5, .inl fb6)), (ta7, .inl (cB7, 5, .inl fb7)), (ta8, .inl (cB8, 5, .inl fb8)), (ta9, .inl (cB9, 5, .inl fb9)), (mo, .inr (10, [.int 0, .ref mr, .int 1, .long 8381856604978480447]))] H489 := hP
  have hD : va_D A [(la0, .inl (cA0, 10, .inl fa0)), (la1, .inl (cA1, 10, .inl fa1)), (ta0, .inl (cB0, 5, .inl fb0)), (ta1, .inl (cB1, 5, .inl fb1)), (ta2, .inl (cB2, 5, .inl fb2)), (ta3, .inl (cB3, 5, .inl fb3)), (ta4, .inl (cB4, 5, .inl fb4)), (ta5, .inl (cB5, 5, .inl fb5)), (ta6, .inl (cB6, 5, .inl fb6)), (ta7, .inl (cB7, 5, .inl fb7)), (ta8, .inl (cB8, 5, .inl fb8)), (ta9, .inl (cB9, 5, .inl fb9)), (mo, .inr (10, [.int 0, .ref mr, .int 1, .long 8381856604978480447]))] := hD
  refine lv_iinc (v := 6) (lv' := [(2, .int 6), (1, .int 8), (0, .ref mo)]) hx hb dX8_digest_115 hl (k := 0) rfl (by decide) (by decide) rfl (fun ls hl => ?_)
  refine lv_goto (tgt := 99) hx hb dX8_digest_118 (by decide) ?_
  refine lv_iload_n hx hb dX8_digest_99 rfl (lv_at hl 0 rfl) ?_
  refine lv_bipush (v := 6) hx hb dX8_digest_100 (by decide) ?_
  refine lv_icmp_ge (tgt := 121) hx hb dX8_digest_102 (by decide) (fun _ => ?_) (fun h => absurd h (by decide))
  refine lv_iinc (v := 9) (lv' := [(1, .int 9), (2, .int 6), (0, .ref mo)]) hx hb dX8_digest_121 hl (k := 1) rfl (by decide) (by decide) rfl (fun ls hl => ?_)
  refine lv_goto (tgt := 83) hx hb dX8_digest_124 (by decide) ?_
  refine lv_iload_n hx hb dX8_digest_83 rfl (lv_at hl 0 rfl) ?_
  refine lv_aload_n hx hb dX8_digest_84 rfl (lv_at hl 2 rfl) ?_
  refine va_get (D := (dC, dI)) (ci := 10) (v := .ref mr) (C := RX8) (T := TX8) (N := 4) hx hb hts zi_X8_digest_X8 hown hK hP 12 rfl rfl 1 (by decide) (hts (.fieldLink RX8 10 "LockRoomsModel" "room" "LLockRoomsModel$Room;") (by decide +kernel)) (fun _ h9 => h9) rfl dX8_digest_85 ?_
  refine va_getN (D := (dC, dI)) (ci := 9) (v := .ref lt) (C := RX7) (T := TX7) (N := 14) hx hb hts zi_X8_digest_X7 hown hK (zo_R hR0 hS hAr) 0 rfl rfl 1 (by decide) (va_Nw.use rfl (hN.1 ("LockRoomsModel", 38, "LockRoomsModel$Room", "things", "Ljava/util/ArrayList;", "LockRoomsModel") (List.mem_of_getElem? (i := 2) rfl))) (fun _ h9 => h9) rfl dX8_digest_88 ?_
  have hPr := ((zo_R hR0 hS hAr)).sub (ws' := [(lt, .inr (1, [.int 10, .ref ota, .int 10]))]) [2] rfl
  have hPc := hP.sub (ws' := []) [] rfl
  have hDc := hD.sub (ws' := []) [] (by decide) rfl
  have hKc := hK.sub (tys' := []) [] rfl
  have hFc := va_free (wc := []) hD hS hA [] rfl
  refine va_calli (va_runV (As := []) (rest := [.int 9]) ⟨hx, hb, hml, hown, hts⟩ (cz_Qsize l dC dI ed H489.size lt 10 ota 10) (cwV 0 hts gX8_digest_Jx4a65c_size_8abf5 rfl rfl rfl (by decide +kernel) ⟨Nat.le_of_ble_eq_true rfl, Nat.le_of_ble_eq_true rfl⟩) ⟨zb_blind, va_recv hK (zo_R hR0 hS hAr) (ci := 1) (q0 := 2) rfl rfl, fun U hU hW => ⟨rfl, zb_mk hU hW hPr hPc hKc hDc hN hH hS hFc zx_e⟩⟩ rfl rfl hl.1 rfl (lv_room (Nat.le_of_ble_eq_true rfl)) dX8_digest_91 ⟨Nat.le_of_ble_eq_true rfl, Nat.le_of_ble_eq_true rfl⟩) hS (fun q _ h => hFc q h) hFc (fun r493 u t H492 locs ht hvm hw hB hz1 hk1 hS => ?_)
  obtain rfl : r493 = 10 := hw.trans (by decide +kernel)
  have hP := zo_K hP hk1
  refine lv_icmp_ge (tgt := 127) hx hb dX8_digest_94 (by decide) (fun h => absurd h (by decide)) (fun _ => ?_)
  refine lv_iconst (v := 0) hx hb dX8_digest_97 (by decide) ?_
  refine lv_istore_n (lv' := [(2, .int 0), (1, .int 9), (0, .ref mo)]) hx hb dX8_digest_98 rfl hl (by decide) rfl (fun ls hl => ?_)
  refine lv_iload_n hx hb dX8_digest_99 rfl (lv_at hl 0 rfl) ?_
  refine lv_bipush (v := 6) hx hb dX8_digest_100 (by decide) ?_
  refine lv_icmp_ge (tgt := 121) hx hb dX8_digest_102 (by decide) (fun h => absurd h (by decide)) (fun _ => ?_)
  refine lv_aload_n hx hb dX8_digest_105 rfl (lv_at hl 2 rfl) ?_
  refine lv_aload_n hx hb dX8_digest_106 rfl (lv_at hl 2 rfl) ?_
  refine lv_iload_n hx hb dX8_digest_107 rfl (lv_at hl 1 rfl) ?_
  refine lv_iload_n hx hb dX8_digest_108 rfl (lv_at hl 0 rfl) ?_
  have hPr := (show va_P (dC, dI) vwCl [(mo, .inr (10, [.int 0, .ref mr, .int 1, .long 8381856604978480447])), (mr, .inr (9, [.ref ll, .ref lt, .ref lp, .int 0, .int 0, .int 0, .int 0, .int 0, .int 0, .int 0, .int (-1), .int 0, .int 0, .int 0])), (lt, .inr (1, [.int 10, .ref ota, .int 10])), (ota, .inl (cOt, 10, .inr (.inr (.inr (.inr fot))))), (ta9, .inl (cB9, 5, .inl fb9))] H492 from (zo_cons ((hP) 12 _ rfl) (zo_cons (((zo_R hR0 hS hAr)) 0 _ rfl) (zo_cons (((zo_R hR0 hS hAr)) 2 _ rfl) (zo_cons (((zo_R hR0 hS hAr)) 5 _ rfl) (zo_cons ((hP) 11 _ rfl) (zo_nil : va_P (dC, dI) vwCl [] H492)))))))
  have hPc := hP.sub (ws' := []) [] rfl
  have hDc := hD.sub (ws' := []) [] (by decide) rfl
  have hKc := hK.sub (tys' := [(cOt, .object "java/lang/Object"), (cB9, .int)]) [1, 13] rfl
  have hFc := va_free (wc := []) hD hS hA [] rfl
  refine va_calli (va_runV (As := [.int 9, .int 0]) (rest := [.ref mo]) ⟨hx, hb, hml, hown, hts⟩ (cz_QofThingNow_9_0 l dC dI ed H492.size mo mr 0 8381856604978480447 ll lt lp ota cOt fot ta9 cB9 fb9 hot9 hb9_0) (cwV 2 hts gX8_digest_X8_ofThingNow rfl rfl rfl (by decide +kernel) ⟨Nat.le_of_ble_eq_true rfl, Nat.le_of_ble_eq_true rfl⟩) ⟨zb_blind, va_recv hK hP (ci := 10) (q0 := 12) rfl rfl, fun U hU hW => ⟨rfl, zb_mk hU hW hPr hPc hKc hDc hN hH hS hFc zx_e⟩⟩ rfl rfl hl.1 rfl (lv_room (Nat.le_of_ble_eq_true rfl)) dX8_digest_109 ⟨Nat.le_of_ble_eq_true rfl, Nat.le_of_ble_eq_true rfl⟩) hS (fun q _ h => hFc q h) hFc (fun r495 u t H494 locs ht hvm hw hB hz1 hk1 hS => ?_)
  obtain rfl : r495 = (-1) := hw
  have hP := zo_K hP hk1
  have hPr := (zo_nil : va_P (dC, dI) vwCl [] H494)
  have hPc := hP.sub (ws' := [(mo, .inr (10, [.int 0, .ref mr, .int 1, .long 8381856604978480447]))]) [12] rfl
  have hDc := hD.sub (ws' := [(mo, .inr (10, [.int 0, .ref mr, .int 1, .long 8381856604978480447]))]) [12] (by decide) rfl
  have hKc := hK.sub (tys' := []) [] rfl
  have hFc := va_free (wc := [(mo, .inr (10, [.int 0, .ref mr, .int 1, .long 8381856604978480447]))]) hD hS hA [12] rfl
  refine va_callv (va_runV (As := [.int (-1)]) (rest := []) ⟨hx, hb, hml, hown, hts⟩ (cz_X8_add l dC dI ed H494.size mo mr 0 8381856604978480447 (-1)) (cwV 1 hts gX8_digest_X8_add rfl rfl rfl (by decide +kernel) ⟨Nat.le_of_ble_eq_true rfl, Nat.le_of_ble_eq_true rfl⟩) ⟨zb_blind, va_recv hK hP (ci := 10) (q0 := 12) rfl rfl, fun U hU hW => ⟨rfl, zb_mk hU hW hPr hPc hKc hDc hN hH hS hFc zx_nil⟩⟩ rfl rfl hl.1 rfl (lv_room (Nat.le_of_ble_eq_true rfl)) dX8_digest_112 ⟨Nat.le_of_ble_eq_true rfl, Nat.le_of_ble_eq_true rfl⟩) hS (fun q _ h => hFc q h) hFc (fun u t H496 locs ht hvm hw hB hz1 hk1 hS => ?_)
  obtain ⟨s1_498, hf498_0, hP1, hD1, hK1⟩ := hB
  obtain rfl : s1_498 = 1583137722399171232 := hf498_0.trans (by first | rfl | decide +kernel)
  rw [ht] at hP1
  obtain ⟨hP, hD⟩ := va_join (wr := [(la0, .inl (cA0, 10, .inl fa0)), (la1, .inl (cA1, 10, .inl fa1)), (ta0, .inl (cB0, 5, .inl fb0)), (ta1, .inl (cB1, 5, .inl fb1)), (ta2, .inl (cB2, 5, .inl fb2)), (ta3, .inl (cB3, 5, .inl fb3)), (ta4, .inl (cB4, 5, .inl fb4)), (ta5, .inl (cB5, 5, .inl fb5)), (ta6, .inl (cB6, 5, .inl fb6)), (ta7, .inl (cB7, 5, .inl fb7)), (ta8, .inl (cB8, 5, .inl fb8)), (ta9, .inl (cB9, 5, .inl fb9))]) (w1 := [(mo, .inr (10, [.int 0, .ref mr, .int 1, .long 1583137722399171232]))]) hP hD [12] [0, 1, 2, 3, 4, 5, 6, 7, 8, 9, 10, 11] rfl rfl (by decide) (by decide) hk1 hFc hP1 hD1
  have hP : va_P (dC, dI) vwCl [(la0, .inl (cA0, 10, .inl fa0)), (la1, .inl (cA1, 10, .inl fa1)), (ta0, .inl (cB0, 5, .inl fb0)), (ta1, .inl (cB1, 5, .inl fb1)), (ta2, .inl (cB2, 5, .inl fb2)), (ta3, .inl (cB3, 5, .inl fb3)), (ta4, .inl (cB4, 5, .inl fb4)), (ta5, .inl (cB5, 5, .inl fb5)), (ta6, .inl (cB6, 5, .inl fb6)), (ta7, .inl (cB7, 5, .inl fb7)), (ta8, .inl (cB8, 5, .inl fb8)), (ta9, .inl (cB9, 5, .inl fb9)), (mo, .inr (10, [.int 0, .ref mr, .int 1, .long 1583137722399171232]))] H496 := hP
  have hD : va_D A [(la0, .inl (cA0, 10, .inl fa0)), (la1, .inl (cA1, 10, .inl fa1)), (ta0, .inl (cB0, 5, .inl fb0)), (ta1, .inl (cB1, 5, .inl fb1)), (ta2, .inl (cB2, 5, .inl fb2)), (ta3, .inl (cB3, 5, .inl fb3)), (ta4, .inl (cB4, 5, .inl fb4)), (ta5, .inl (cB5, 5, .inl fb5)), (ta6, .inl (cB6, 5, .inl fb6)), (ta7, .inl (cB7, 5, .inl fb7)), (ta8, .inl (cB8, 5, .inl fb8)), (ta9, .inl (cB9, 5, .inl fb9)), (mo, .inr (10, [.int 0, .ref mr, .int 1, .long 1583137722399171232]))] := hD
  refine lv_iinc (v := 1) (lv' := [(2, .int 1), (1, .int 9), (0, .ref mo)]) hx hb dX8_digest_115 hl (k := 0) rfl (by decide) (by decide) rfl (fun ls hl => ?_)
  refine lv_goto (tgt := 99) hx hb dX8_digest_118 (by decide) ?_
  refine lv_iload_n hx hb dX8_digest_99 rfl (lv_at hl 0 rfl) ?_
  refine lv_bipush (v := 6) hx hb dX8_digest_100 (by decide) ?_
  refine lv_icmp_ge (tgt := 121) hx hb dX8_digest_102 (by decide) (fun h => absurd h (by decide)) (fun _ => ?_)
  refine lv_aload_n hx hb dX8_digest_105 rfl (lv_at hl 2 rfl) ?_
  refine lv_aload_n hx hb dX8_digest_106 rfl (lv_at hl 2 rfl) ?_
  refine lv_iload_n hx hb dX8_digest_107 rfl (lv_at hl 1 rfl) ?_
  refine lv_iload_n hx hb dX8_digest_108 rfl (lv_at hl 0 rfl) ?_
  have hPr := (show va_P (dC, dI) vwCl [(mo, .inr (10, [.int 0, .ref mr, .int 1, .long 1583137722399171232])), (mr, .inr (9, [.ref ll, .ref lt, .ref lp, .int 0, .int 0, .int 0, .int 0, .int 0, .int 0, .int 0, .int (-1), .int 0, .int 0, .int 0])), (lt, .inr (1, [.int 10, .ref ota, .int 10])), (ota, .inl (cOt, 10, .inr (.inr (.inr (.inr fot))))), (ta9, .inl (cB9, 5, .inl fb9))] H496 from (zo_cons ((hP) 12 _ rfl) (zo_cons (((zo_R hR0 hS hAr)) 0 _ rfl) (zo_cons (((zo_R hR0 hS hAr)) 2 _ rfl) (zo_cons (((zo_R hR0 hS hAr)) 5 _ rfl) (zo_cons ((hP) 11 _ rfl) (zo_nil : va_P (dC, dI) vwCl [] H496)))))))
  have hPc := hP.sub (ws' := []) [] rfl
  have hDc := hD.sub (ws' := []) [] (by decide) rfl
  have hKc := hK.sub (tys' := [(cOt, .object "java/lang/Object"), (cB9, .int)]) [1, 13] rfl
  have hFc := va_free (wc := []) hD hS hA [] rfl
  refine va_calli (va_runV (As := [.int 9, .int 1]) (rest := [.ref mo]) ⟨hx, hb, hml, hown, hts⟩ (cz_QofThingNow_9_1 l dC dI ed H496.size mo mr 0 1583137722399171232 ll lt lp ota cOt fot ta9 cB9 fb9 hot9 hb9_1) (cwV 2 hts gX8_digest_X8_ofThingNow rfl rfl rfl (by decide +kernel) ⟨Nat.le_of_ble_eq_true rfl, Nat.le_of_ble_eq_true rfl⟩) ⟨zb_blind, va_recv hK hP (ci := 10) (q0 := 12) rfl rfl, fun U hU hW => ⟨rfl, zb_mk hU hW hPr hPc hKc hDc hN hH hS hFc zx_e⟩⟩ rfl rfl hl.1 rfl (lv_room (Nat.le_of_ble_eq_true rfl)) dX8_digest_109 ⟨Nat.le_of_ble_eq_true rfl, Nat.le_of_ble_eq_true rfl⟩) hS (fun q _ h => hFc q h) hFc (fun r500 u t H499 locs ht hvm hw hB hz1 hk1 hS => ?_)
  obtain rfl : r500 = 0 := hw
  have hP := zo_K hP hk1
  have hPr := (zo_nil : va_P (dC, dI) vwCl [] H499)
  have hPc := hP.sub (ws' := [(mo, .inr (10, [.int 0, .ref mr, .int 1, .long 1583137722399171232]))]) [12] rfl
  have hDc := hD.sub (ws' := [(mo, .inr (10, [.int 0, .ref mr, .int 1, .long 1583137722399171232]))]) [12] (by decide) rfl
  have hKc := hK.sub (tys' := []) [] rfl
  have hFc := va_free (wc := [(mo, .inr (10, [.int 0, .ref mr, .int 1, .long 1583137722399171232]))]) hD hS hA [12] rfl
  refine va_callv (va_runV (As := [.int 0]) (rest := []) ⟨hx, hb, hml, hown, hts⟩ (cz_X8_add l dC dI ed H499.size mo mr 0 1583137722399171232 0) (cwV 1 hts gX8_digest_X8_add rfl rfl rfl (by decide +kernel) ⟨Nat.le_of_ble_eq_true rfl, Nat.le_of_ble_eq_true rfl⟩) ⟨zb_blind, va_recv hK hP (ci := 10) (q0 := 12) rfl rfl, fun U hU hW => ⟨rfl, zb_mk hU hW hPr hPc hKc hDc hN hH hS hFc zx_nil⟩⟩ rfl rfl hl.1 rfl (lv_room (Nat.le_of_ble_eq_true rfl)) dX8_digest_112 ⟨Nat.le_of_ble_eq_true rfl, Nat.le_of_ble_eq_true rfl⟩) hS (fun q _ h => hFc q h) hFc (fun u t H501 locs ht hvm hw hB hz1 hk1 hS => ?_)
  obtain ⟨s1_503, hf503_0, hP1, hD1, hK1⟩ := hB
  obtain rfl : s1_503 = (-6262962826754346656) := hf503_0.trans (by first | rfl | decide +kernel)
  rw [ht] at hP1
  obtain ⟨hP, hD⟩ := va_join (wr := [(la0, .inl (cA0, 10, .inl fa0)), (la1, .inl (cA1, 10, .inl fa1)), (ta0, .inl (cB0, 5, .inl fb0)), (ta1, .inl (cB1, 5, .inl fb1)), (ta2, .inl (cB2, 5, .inl fb2)), (ta3, .inl (cB3, 5, .inl fb3)), (ta4, .inl (cB4, 5, .inl fb4)), (ta5, .inl (cB5, 5, .inl fb5)), (ta6, .inl (cB6, 5, .inl fb6)), (ta7, .inl (cB7, 5, .inl fb7)), (ta8, .inl (cB8, 5, .inl fb8)), (ta9, .inl (cB9, 5, .inl fb9))]) (w1 := [(mo, .inr (10, [.int 0, .ref mr, .int 1, .long (-6262962826754346656)]))]) hP hD [12] [0, 1, 2, 3, 4, 5, 6, 7, 8, 9, 10, 11] rfl rfl (by decide) (by decide) hk1 hFc hP1 hD1
  have hP : va_P (dC, dI) vwCl [(la0, .inl (cA0, 10, .inl fa0)), (la1, .inl (cA1, 10, .inl fa1)), (ta0, .inl (cB0, 5, .inl fb0)), (ta1, .inl (cB1, 5, .inl fb1)), (ta2, .inl (cB2, 5, .inl fb2)), (ta3, .inl (cB3, 5, .inl fb3)), (ta4, .inl (cB4, 5, .inl fb4)), (ta5, .inl (cB5, 5, .inl fb5)), (ta6, .inl (cB6, 5, .inl fb6)), (ta7, .inl (cB7, 5, .inl fb7)), (ta8, .inl (cB8, 5, .inl fb8)), (ta9, .inl (cB9, 5, .inl fb9)), (mo, .inr (10, [.int 0, .ref mr, .int 1, .long (-6262962826754346656)]))] H501 := hP
  have hD : va_D A [(la0, .inl (cA0, 10, .inl fa0)), (la1, .inl (cA1, 10, .inl fa1)), (ta0, .inl (cB0, 5, .inl fb0)), (ta1, .inl (cB1, 5, .inl fb1)), (ta2, .inl (cB2, 5, .inl fb2)), (ta3, .inl (cB3, 5, .inl fb3)), (ta4, .inl (cB4, 5, .inl fb4)), (ta5, .inl (cB5, 5, .inl fb5)), (ta6, .inl (cB6, 5, .inl fb6)), (ta7, .inl (cB7, 5, .inl fb7)), (ta8, .inl (cB8, 5, .inl fb8)), (ta9, .inl (cB9, 5, .inl fb9)), (mo, .inr (10, [.int 0, .ref mr, .int 1, .long (-6262962826754346656)]))] := hD
  refine lv_iinc (v := 2) (lv' := [(2, .int 2), (1, .int 9), (0, .ref mo)]) hx hb dX8_digest_115 hl (k := 0) rfl (by decide) (by decide) rfl (fun ls hl => ?_)
  refine lv_goto (tgt := 99) hx hb dX8_digest_118 (by decide) ?_
  refine lv_iload_n hx hb dX8_digest_99 rfl (lv_at hl 0 rfl) ?_
  refine lv_bipush (v := 6) hx hb dX8_digest_100 (by decide) ?_
  refine lv_icmp_ge (tgt := 121) hx hb dX8_digest_102 (by decide) (fun h => absurd h (by decide)) (fun _ => ?_)
  refine lv_aload_n hx hb dX8_digest_105 rfl (lv_at hl 2 rfl) ?_
  refine lv_aload_n hx hb dX8_digest_106 rfl (lv_at hl 2 rfl) ?_
  refine lv_iload_n hx hb dX8_digest_107 rfl (lv_at hl 1 rfl) ?_
  refine lv_iload_n hx hb dX8_digest_108 rfl (lv_at hl 0 rfl) ?_
  have hPr := (show va_P (dC, dI) vwCl [(mo, .inr (10, [.int 0, .ref mr, .int 1, .long (-6262962826754346656)])), (mr, .inr (9, [.ref ll, .ref lt, .ref lp, .int 0, .int 0, .int 0, .int 0, .int 0, .int 0, .int 0, .int (-1), .int 0, .int 0, .int 0])), (lt, .inr (1, [.int 10, .ref ota, .int 10])), (ota, .inl (cOt, 10, .inr (.inr (.inr (.inr fot))))), (ta9, .inl (cB9, 5, .inl fb9))] H501 from (zo_cons ((hP) 12 _ rfl) (zo_cons (((zo_R hR0 hS hAr)) 0 _ rfl) (zo_cons (((zo_R hR0 hS hAr)) 2 _ rfl) (zo_cons (((zo_R hR0 hS hAr)) 5 _ rfl) (zo_cons ((hP) 11 _ rfl) (zo_nil : va_P (dC, dI) vwCl [] H501)))))))
  have hPc := hP.sub (ws' := []) [] rfl
  have hDc := hD.sub (ws' := []) [] (by decide) rfl
  have hKc := hK.sub (tys' := [(cOt, .object "java/lang/Object"), (cB9, .int)]) [1, 13] rfl
  have hFc := va_free (wc := []) hD hS hA [] rfl
  refine va_calli (va_runV (As := [.int 9, .int 2]) (rest := [.ref mo]) ⟨hx, hb, hml, hown, hts⟩ (cz_QofThingNow_9_2 l dC dI ed H501.size mo mr 0 (-6262962826754346656) ll lt lp ota cOt fot ta9 cB9 fb9 hot9 hb9_2) (cwV 2 hts gX8_digest_X8_ofThingNow rfl rfl rfl (by decide +kernel) ⟨Nat.le_of_ble_eq_true rfl, Nat.le_of_ble_eq_true rfl⟩) ⟨zb_blind, va_recv hK hP (ci := 10) (q0 := 12) rfl rfl, fun U hU hW => ⟨rfl, zb_mk hU hW hPr hPc hKc hDc hN hH hS hFc zx_e⟩⟩ rfl rfl hl.1 rfl (lv_room (Nat.le_of_ble_eq_true rfl)) dX8_digest_109 ⟨Nat.le_of_ble_eq_true rfl, Nat.le_of_ble_eq_true rfl⟩) hS (fun q _ h => hFc q h) hFc (fun r505 u t H504 locs ht hvm hw hB hz1 hk1 hS => ?_)
  obtain rfl : r505 = 0 := hw
  have hP := zo_K hP hk1
  have hPr := (zo_nil : va_P (dC, dI) vwCl [] H504)
  have hPc := hP.sub (ws' := [(mo, .inr (10, [.int 0, .ref mr, .int 1, .long (-6262962826754346656)]))]) [12] rfl
  have hDc := hD.sub (ws' := [(mo, .inr (10, [.int 0, .ref mr, .int 1, .long (-6262962826754346656)]))]) [12] (by decide) rfl
  have hKc := hK.sub (tys' := []) [] rfl
  have hFc := va_free (wc := [(mo, .inr (10, [.int 0, .ref mr, .int 1, .long (-6262962826754346656)]))]) hD hS hA [12] rfl
  refine va_callv (va_runV (As := [.int 0]) (rest := []) ⟨hx, hb, hml, hown, hts⟩ (cz_X8_add l dC dI ed H504.size mo mr 0 (-6262962826754346656) 0) (cwV 1 hts gX8_digest_X8_add rfl rfl rfl (by decide +kernel) ⟨Nat.le_of_ble_eq_true rfl, Nat.le_of_ble_eq_true rfl⟩) ⟨zb_blind, va_recv hK hP (ci := 10) (q0 := 12) rfl rfl, fun U hU hW => ⟨rfl, zb_mk hU hW hPr hPc hKc hDc hN hH hS hFc zx_nil⟩⟩ rfl rfl hl.1 rfl (lv_room (Nat.le_of_ble_eq_true rfl)) dX8_digest_112 ⟨Nat.le_of_ble_eq_true rfl, Nat.le_of_ble_eq_true rfl⟩) hS (fun q _ h => hFc q h) hFc (fun u t H506 locs ht hvm hw hB hz1 hk1 hS => ?_)
  obtain ⟨s1_508, hf508_0, hP1, hD1, hK1⟩ := hB
  obtain rfl : s1_508 = 8762337181420321440 := hf508_0.trans (by first | rfl | decide +kernel)
  rw [ht] at hP1
  obtain ⟨hP, hD⟩ := va_join (wr := [(la0, .inl (cA0, 10, .inl fa0)), (la1, .inl (cA1, 10, .inl fa1)), (ta0, .inl (cB0, 5, .inl fb0)), (ta1, .inl (cB1, 5, .inl fb1)), (ta2, .inl (cB2, 5, .inl fb2)), (ta3, .inl (cB3, 5, .inl fb3)), (ta4, .inl (cB4, 5, .inl fb4)), (ta5, .inl (cB5, 5, .inl fb5)), (ta6, .inl (cB6, 5, .inl fb6)), (ta7, .inl (cB7, 5, .inl fb7)), (ta8, .inl (cB8, 5, .inl fb8)), (ta9, .inl (cB9, 5, .inl fb9))]) (w1 := [(mo, .inr (10, [.int 0, .ref mr, .int 1, .long 8762337181420321440]))]) hP hD [12] [0, 1, 2, 3, 4, 5, 6, 7, 8, 9, 10, 11] rfl rfl (by decide) (by decide) hk1 hFc hP1 hD1
  have hP : va_P (dC, dI) vwCl [(la0, .inl (cA0, 10, .inl fa0)), (la1, .inl (cA1, 10, .inl fa1)), (ta0, .inl (cB0, 5, .inl fb0)), (ta1, .inl (cB1, 5, .inl fb1)), (ta2, .inl (cB2, 5, .inl fb2)), (ta3, .inl (cB3, 5, .inl fb3)), (ta4, .inl (cB4, 5, .inl fb4)), (ta5, .inl (cB5, 5, .inl fb5)), (ta6, .inl (cB6, 5, .inl fb6)), (ta7, .inl (cB7, 5, .inl fb7)), (ta8, .inl (cB8, 5, .inl fb8)), (ta9, .inl (cB9, 5, .inl fb9)), (mo, .inr (10, [.int 0, .ref mr, .int 1, .long 8762337181420321440]))] H506 := hP
  have hD : va_D A [(la0, .inl (cA0, 10, .inl fa0)), (la1, .inl (cA1, 10, .inl fa1)), (ta0, .inl (cB0, 5, .inl fb0)), (ta1, .inl (cB1, 5, .inl fb1)), (ta2, .inl (cB2, 5, .inl fb2)), (ta3, .inl (cB3, 5, .inl fb3)), (ta4, .inl (cB4, 5, .inl fb4)), (ta5, .inl (cB5, 5, .inl fb5)), (ta6, .inl (cB6, 5, .inl fb6)), (ta7, .inl (cB7, 5, .inl fb7)), (ta8, .inl (cB8, 5, .inl fb8)), (ta9, .inl (cB9, 5, .inl fb9)), (mo, .inr (10, [.int 0, .ref mr, .int 1, .long 8762337181420321440]))] := hD
  refine lv_iinc (v := 3) (lv' := [(2, .int 3), (1, .int 9), (0, .ref mo)]) hx hb dX8_digest_115 hl (k := 0) rfl (by decide) (by decide) rfl (fun ls hl => ?_)
  refine lv_goto (tgt := 99) hx hb dX8_digest_118 (by decide) ?_
  refine lv_iload_n hx hb dX8_digest_99 rfl (lv_at hl 0 rfl) ?_
  refine lv_bipush (v := 6) hx hb dX8_digest_100 (by decide) ?_
  refine lv_icmp_ge (tgt := 121) hx hb dX8_digest_102 (by decide) (fun h => absurd h (by decide)) (fun _ => ?_)
  refine lv_aload_n hx hb dX8_digest_105 rfl (lv_at hl 2 rfl) ?_
  refine lv_aload_n hx hb dX8_digest_106 rfl (lv_at hl 2 rfl) ?_
  refine lv_iload_n hx hb dX8_digest_107 rfl (lv_at hl 1 rfl) ?_
  refine lv_iload_n hx hb dX8_digest_108 rfl (lv_at hl 0 rfl) ?_
  have hPr := (show va_P (dC, dI) vwCl [(mo, .inr (10, [.int 0, .ref mr, .int 1, .long 8762337181420321440])), (mr, .inr (9, [.ref ll, .ref lt, .ref lp, .int 0, .int 0, .int 0, .int 0, .int 0, .int 0, .int 0, .int (-1), .int 0, .int 0, .int 0])), (lt, .inr (1, [.int 10, .ref ota, .int 10])), (ota, .inl (cOt, 10, .inr (.inr (.inr (.inr fot))))), (ta9, .inl (cB9, 5, .inl fb9))] H506 from (zo_cons ((hP) 12 _ rfl) (zo_cons (((zo_R hR0 hS hAr)) 0 _ rfl) (zo_cons (((zo_R hR0 hS hAr)) 2 _ rfl) (zo_cons (((zo_R hR0 hS hAr)) 5 _ rfl) (zo_cons ((hP) 11 _ rfl) (zo_nil : va_P (dC, dI) vwCl [] H506)))))))
  have hPc := hP.sub (ws' := []) [] rfl
  have hDc := hD.sub (ws' := []) [] (by decide) rfl
  have hKc := hK.sub (tys' := [(cOt, .object "java/lang/Object"), (cB9, .int)]) [1, 13] rfl
  have hFc := va_free (wc := []) hD hS hA [] rfl
  refine va_calli (va_runV (As := [.int 9, .int 3]) (rest := [.ref mo]) ⟨hx, hb, hml, hown, hts⟩ (cz_QofThingNow_9_3 l dC dI ed H506.size mo mr 0 8762337181420321440 ll lt lp ota cOt fot ta9 cB9 fb9 hot9 hb9_3) (cwV 2 hts gX8_digest_X8_ofThingNow rfl rfl rfl (by decide +kernel) ⟨Nat.le_of_ble_eq_true rfl, Nat.le_of_ble_eq_true rfl⟩) ⟨zb_blind, va_recv hK hP (ci := 10) (q0 := 12) rfl rfl, fun U hU hW => ⟨rfl, zb_mk hU hW hPr hPc hKc hDc hN hH hS hFc zx_e⟩⟩ rfl rfl hl.1 rfl (lv_room (Nat.le_of_ble_eq_true rfl)) dX8_digest_109 ⟨Nat.le_of_ble_eq_true rfl, Nat.le_of_ble_eq_true rfl⟩) hS (fun q _ h => hFc q h) hFc (fun r510 u t H509 locs ht hvm hw hB hz1 hk1 hS => ?_)
  obtain rfl : r510 = 0 := hw
  have hP := zo_K hP hk1
  have hPr := (zo_nil : va_P (dC, dI) vwCl [] H509)
  have hPc := hP.sub (ws' := [(mo, .inr (10, [.int 0, .ref mr, .int 1, .long 8762337181420321440]))]) [12] rfl
  have hDc := hD.sub (ws' := [(mo, .inr (10, [.int 0, .ref mr, .int 1, .long 8762337181420321440]))]) [12] (by decide) rfl
  have hKc := hK.sub (tys' := []) [] rfl
  have hFc := va_free (wc := [(mo, .inr (10, [.int 0, .ref mr, .int 1, .long 8762337181420321440]))]) hD hS hA [12] rfl
  refine va_callv (va_runV (As := [.int 0]) (rest := []) ⟨hx, hb, hml, hown, hts⟩ (cz_X8_add l dC dI ed H509.size mo mr 0 8762337181420321440 0) (cwV 1 hts gX8_digest_X8_add rfl rfl rfl (by decide +kernel) ⟨Nat.le_of_ble_eq_true rfl, Nat.le_of_ble_eq_true rfl⟩) ⟨zb_blind, va_recv hK hP (ci := 10) (q0 := 12) rfl rfl, fun U hU hW => ⟨rfl, zb_mk hU hW hPr hPc hKc hDc hN hH hS hFc zx_nil⟩⟩ rfl rfl hl.1 rfl (lv_room (Nat.le_of_ble_eq_true rfl)) dX8_digest_112 ⟨Nat.le_of_ble_eq_true rfl, Nat.le_of_ble_eq_true rfl⟩) hS (fun q _ h => hFc q h) hFc (fun u t H511 locs ht hvm hw hB hz1 hk1 hS => ?_)
  obtain ⟨s1_513, hf513_0, hP1, hD1, hK1⟩ := hB
  obtain rfl : s1_513 = (-5068708481613309600) := hf513_0.trans (by first | rfl | decide +kernel)
  rw [ht] at hP1
  obtain ⟨hP, hD⟩ := va_join (wr := [(la0, .inl (cA0, 10, .inl fa0)), (la1, .inl (cA1, 10, .inl fa1)), (ta0, .inl (cB0, 5, .inl fb0)), (ta1, .inl (cB1, 5, .inl fb1)), (ta2, .inl (cB2, 5, .inl fb2)), (ta3, .inl (cB3, 5, .inl fb3)), (ta4, .inl (cB4, 5, .inl fb4)), (ta5, .inl (cB5, 5, .inl fb5)), (ta6, .inl (cB6, 5, .inl fb6)), (ta7, .inl (cB7, 5, .inl fb7)), (ta8, .inl (cB8, 5, .inl fb8)), (ta9, .inl (cB9, 5, .inl fb9))]) (w1 := [(mo, .inr (10, [.int 0, .ref mr, .int 1, .long (-5068708481613309600)]))]) hP hD [12] [0, 1, 2, 3, 4, 5, 6, 7, 8, 9, 10, 11] rfl rfl (by decide) (by decide) hk1 hFc hP1 hD1
  have hP : va_P (dC, dI) vwCl [(la0, .inl (cA0, 10, .inl fa0)), (la1, .inl (cA1, 10, .inl fa1)), (ta0, .inl (cB0, 5, .inl fb0)), (ta1, .inl (cB1, 5, .inl fb1)), (ta2, .inl (cB2, 5, .inl fb2)), (ta3, .inl (cB3, 5, .inl fb3)), (ta4, .inl (cB4, 5, .inl fb4)), (ta5, .inl (cB5, 5, .inl fb5)), (ta6, .inl (cB6, 5, .inl fb6)), (ta7, .inl (cB7, 5, .inl fb7)), (ta8, .inl (cB8, 5, .inl fb8)), (ta9, .inl (cB9, 5, .inl fb9)), (mo, .inr (10, [.int 0, .ref mr, .int 1, .long (-5068708481613309600)]))] H511 := hP
  have hD : va_D A [(la0, .inl (cA0, 10, .inl fa0)), (la1, .inl (cA1, 10, .inl fa1)), (ta0, .inl (cB0, 5, .inl fb0)), (ta1, .inl (cB1, 5, .inl fb1)), (ta2, .inl (cB2, 5, .inl fb2)), (ta3, .inl (cB3, 5, .inl fb3)), (ta4, .inl (cB4, 5, .inl fb4)), (ta5, .inl (cB5, 5, .inl fb5)), (ta6, .inl (cB6, 5, .inl fb6)), (ta7, .inl (cB7, 5, .inl fb7)), (ta8, .inl (cB8, 5, .inl fb8)), (ta9, .inl (cB9, 5, .inl fb9)), (mo, .inr (10, [.int 0, .ref mr, .int 1, .long (-5068708481613309600)]))] := hD
  refine lv_iinc (v := 4) (lv' := [(2, .int 4), (1, .int 9), (0, .ref mo)]) hx hb dX8_digest_115 hl (k := 0) rfl (by decide) (by decide) rfl (fun ls hl => ?_)
  refine lv_goto (tgt := 99) hx hb dX8_digest_118 (by decide) ?_
  refine lv_iload_n hx hb dX8_digest_99 rfl (lv_at hl 0 rfl) ?_
  refine lv_bipush (v := 6) hx hb dX8_digest_100 (by decide) ?_
  refine lv_icmp_ge (tgt := 121) hx hb dX8_digest_102 (by decide) (fun h => absurd h (by decide)) (fun _ => ?_)
  refine lv_aload_n hx hb dX8_digest_105 rfl (lv_at hl 2 rfl) ?_
  refine lv_aload_n hx hb dX8_digest_106 rfl (lv_at hl 2 rfl) ?_
  refine lv_iload_n hx hb dX8_digest_107 rfl (lv_at hl 1 rfl) ?_
  refine lv_iload_n hx hb dX8_digest_108 rfl (lv_at hl 0 rfl) ?_
  have hPr := (show va_P (dC, dI) vwCl [(mo, .inr (10, [.int 0, .ref mr, .int 1, .long (-5068708481613309600)])), (mr, .inr (9, [.ref ll, .ref lt, .ref lp, .int 0, .int 0, .int 0, .int 0, .int 0, .int 0, .int 0, .int (-1), .int 0, .int 0, .int 0])), (lt, .inr (1, [.int 10, .ref ota, .int 10])), (ota, .inl (cOt, 10, .inr (.inr (.inr (.inr fot))))), (ta9, .inl (cB9, 5, .inl fb9))] H511 from (zo_cons ((hP) 12 _ rfl) (zo_cons (((zo_R hR0 hS hAr)) 0 _ rfl) (zo_cons (((zo_R hR0 hS hAr)) 2 _ rfl) (zo_cons (((zo_R hR0 hS hAr)) 5 _ rfl) (zo_cons ((hP) 11 _ rfl) (zo_nil : va_P (dC, dI) vwCl [] H511)))))))
  have hPc := hP.sub (ws' := []) [] rfl
  have hDc := hD.sub (ws' := []) [] (by decide) rfl
  have hKc := hK.sub (tys' := [(cOt, .object "java/lang/Object"), (cB9, .int)]) [1, 13] rfl
  have hFc := va_free (wc := []) hD hS hA [] rfl
  refine va_calli (va_runV (As := [.int 9, .int 4]) (rest := [.ref mo]) ⟨hx, hb, hml, hown, hts⟩ (cz_QofThingNow_9_4 l dC dI ed H511.size mo mr 0 (-5068708481613309600) ll lt lp ota cOt fot ta9 cB9 fb9 hot9 hb9_0 hb9_3) (cwV 2 hts gX8_digest_X8_ofThingNow rfl rfl rfl (by decide +kernel) ⟨Nat.le_of_ble_eq_true rfl, Nat.le_of_ble_eq_true rfl⟩) ⟨zb_blind, va_recv hK hP (ci := 10) (q0 := 12) rfl rfl, fun U hU hW => ⟨rfl, zb_mk hU hW hPr hPc hKc hDc hN hH hS hFc zx_e⟩⟩ rfl rfl hl.1 rfl (lv_room (Nat.le_of_ble_eq_true rfl)) dX8_digest_109 ⟨Nat.le_of_ble_eq_true rfl, Nat.le_of_ble_eq_true rfl⟩) hS (fun q _ h => hFc q h) hFc (fun r515 u t H514 locs ht hvm hw hB hz1 hk1 hS => ?_)
  obtain rfl : r515 = 1 := hw
  have hP := zo_K hP hk1
  have hPr := (zo_nil : va_P (dC, dI) vwCl [] H514)
  have hPc := hP.sub (ws' := [(mo, .inr (10, [.int 0, .ref mr, .int 1, .long (-5068708481613309600)]))]) [12] rfl
  have hDc := hD.sub (ws' := [(mo, .inr (10, [.int 0, .ref mr, .int 1, .long (-5068708481613309600)]))]) [12] (by decide) rfl
  have hKc := hK.sub (tys' := []) [] rfl
  have hFc := va_free (wc := [(mo, .inr (10, [.int 0, .ref mr, .int 1, .long (-5068708481613309600)]))]) hD hS hA [12] rfl
  refine va_callv (va_runV (As := [.int 1]) (rest := []) ⟨hx, hb, hml, hown, hts⟩ (cz_X8_add l dC dI ed H514.size mo mr 0 (-5068708481613309600) 1) (cwV 1 hts gX8_digest_X8_add rfl rfl rfl (by decide +kernel) ⟨Nat.le_of_ble_eq_true rfl, Nat.le_of_ble_eq_true rfl⟩) ⟨zb_blind, va_recv hK hP (ci := 10) (q0 := 12) rfl rfl, fun U hU hW => ⟨rfl, zb_mk hU hW hPr hPc hKc hDc hN hH hS hFc zx_nil⟩⟩ rfl rfl hl.1 rfl (lv_room (Nat.le_of_ble_eq_true rfl)) dX8_digest_112 ⟨Nat.le_of_ble_eq_true rfl, Nat.le_of_ble_eq_true rfl⟩) hS (fun q _ h => hFc q h) hFc (fun u t H516 locs ht hvm hw hB hz1 hk1 hS => ?_)
  obtain ⟨s1_518, hf518_0, hP1, hD1, hK1⟩ := hB
  obtain rfl : s1_518 = 8890733733373366945 := hf518_0.trans (by first | rfl | decide +kernel)
  rw [ht] at hP1
  obtain ⟨hP, hD⟩ := va_join (wr := [(la0, .inl (cA0, 10, .inl fa0)), (la1, .inl (cA1, 10, .inl fa1)), (ta0, .inl (cB0, 5, .inl fb0)), (ta1, .inl (cB1, 5, .inl fb1)), (ta2, .inl (cB2, 5, .inl fb2)), (ta3, .inl (cB3, 5, .inl fb3)), (ta4, .inl (cB4, 5, .inl fb4)), (ta5, .inl (cB5, 5, .inl fb5)), (ta6, .inl (cB6, 5, .inl fb6)), (ta7, .inl (cB7, 5, .inl fb7)), (ta8, .inl (cB8, 5, .inl fb8)), (ta9, .inl (cB9, 5, .inl fb9))]) (w1 := [(mo, .inr (10, [.int 0, .ref mr, .int 1, .long 8890733733373366945]))]) hP hD [12] [0, 1, 2, 3, 4, 5, 6, 7, 8, 9, 10, 11] rfl rfl (by decide) (by decide) hk1 hFc hP1 hD1
  have hP : va_P (dC, dI) vwCl [(la0, .inl (cA0, 10, .inl fa0)), (la1, .inl (cA1, 10, .inl fa1)), (ta0, .inl (cB0, 5, .inl fb0)), (ta1, .inl (cB1, 5, .inl fb1)), (ta2, .inl (cB2, 5, .inl fb2)), (ta3, .inl (cB3, 5, .inl fb3)), (ta4, .inl (cB4, 5, .inl fb4)), (ta5, .inl (cB5, 5, .inl fb5)), (ta6, .inl (cB6, 5, .inl fb6)), (ta7, .inl (cB7, 5, .inl fb7)), (ta8, .inl (cB8, 5, .inl fb8)), (ta9, .inl (cB9, 5, .inl fb9)), (mo, .inr (10, [.int 0, .ref mr, .int 1, .long 8890733733373366945]))] H516 := hP
  have hD : va_D A [(la0, .inl (cA0, 10, .inl fa0)), (la1, .inl (cA1, 10, .inl fa1)), (ta0, .inl (cB0, 5, .inl fb0)), (ta1, .inl (cB1, 5, .inl fb1)), (ta2, .inl (cB2, 5, .inl fb2)), (ta3, .inl (cB3, 5, .inl fb3)), (ta4, .inl (cB4, 5, .inl fb4)), (ta5, .inl (cB5, 5, .inl fb5)), (ta6, .inl (cB6, 5, .inl fb6)), (ta7, .inl (cB7, 5, .inl fb7)), (ta8, .inl (cB8, 5, .inl fb8)), (ta9, .inl (cB9, 5, .inl fb9)), (mo, .inr (10, [.int 0, .ref mr, .int 1, .long 8890733733373366945]))] := hD
  refine lv_iinc (v := 5) (lv' := [(2, .int 5), (1, .int 9), (0, .ref mo)]) hx hb dX8_digest_115 hl (k := 0) rfl (by decide) (by decide) rfl (fun ls hl => ?_)
  refine lv_goto (tgt := 99) hx hb dX8_digest_118 (by decide) ?_
  refine lv_iload_n hx hb dX8_digest_99 rfl (lv_at hl 0 rfl) ?_
  refine lv_bipush (v := 6) hx hb dX8_digest_100 (by decide) ?_
  refine lv_icmp_ge (tgt := 121) hx hb dX8_digest_102 (by decide) (fun h => absurd h (by decide)) (fun _ => ?_)
  refine lv_aload_n hx hb dX8_digest_105 rfl (lv_at hl 2 rfl) ?_
  refine lv_aload_n hx hb dX8_digest_106 rfl (lv_at hl 2 rfl) ?_
  refine lv_iload_n hx hb dX8_digest_107 rfl (lv_at hl 1 rfl) ?_
  refine lv_iload_n hx hb dX8_digest_108 rfl (lv_at hl 0 rfl) ?_
  have hPr := (show va_P (dC, dI) vwCl [(mo, .inr (10, [.int 0, .ref mr, .int 1, .long 8890733733373366945])), (mr, .inr (9, [.ref ll, .ref lt, .ref lp, .int 0, .int 0, .int 0, .int 0, .int 0, .int 0, .int 0, .int (-1), .int 0, .int 0, .int 0])), (ll, .inr (1, [.int 2, .ref ola, .int 2])), (ola, .inl (cOl, 10, .inr (.inr (.inr (.inr fol))))), (la0, .inl (cA0, 10, .inl fa0)), (la1, .inl (cA1, 10, .inl fa1))] H516 from (zo_cons ((hP) 12 _ rfl) (zo_cons (((zo_R hR0 hS hAr)) 0 _ rfl) (zo_cons (((zo_R hR0 hS hAr)) 1 _ rfl) (zo_cons (((zo_R hR0 hS hAr)) 4 _ rfl) (zo_cons ((hP) 0 _ rfl) (zo_cons ((hP) 1 _ rfl) (zo_nil : va_P (dC, dI) vwCl [] H516))))))))
  have hPc := hP.sub (ws' := []) [] rfl
  have hDc := hD.sub (ws' := []) [] (by decide) rfl
  have hKc := hK.sub (tys' := [(cOl, .object "java/lang/Object"), (cA0, .int), (cA1, .int)]) [0, 2, 3] rfl
  have hFc := va_free (wc := []) hD hS hA [] rfl
  refine va_calli (va_runV (As := [.int 9, .int 5]) (rest := [.ref mo]) ⟨hx, hb, hml, hown, hts⟩ (cz_QofThingNow_9_5 l dC dI ed H516.size mo mr 0 8890733733373366945 ll lt lp ola cOl fol la0 la1 cA0 fa0 cA1 fa1 hol0 hol1 ha0_0 ha1_0) (cwV 2 hts gX8_digest_X8_ofThingNow rfl rfl rfl (by decide +kernel) ⟨Nat.le_of_ble_eq_true rfl, Nat.le_of_ble_eq_true rfl⟩) ⟨zb_blind, va_recv hK hP (ci := 10) (q0 := 12) rfl rfl, fun U hU hW => ⟨rfl, zb_mk hU hW hPr hPc hKc hDc hN hH hS hFc zx_e⟩⟩ rfl rfl hl.1 rfl (lv_room (Nat.le_of_ble_eq_true rfl)) dX8_digest_109 ⟨Nat.le_of_ble_eq_true rfl, Nat.le_of_ble_eq_true rfl⟩) hS (fun q _ h => hFc q h) hFc (fun r520 u t H519 locs ht hvm hw hB hz1 hk1 hS => ?_)
  obtain rfl : r520 = 0 := hw
  have hP := zo_K hP hk1
  have hPr := (zo_nil : va_P (dC, dI) vwCl [] H519)
  have hPc := hP.sub (ws' := [(mo, .inr (10, [.int 0, .ref mr, .int 1, .long 8890733733373366945]))]) [12] rfl
  have hDc := hD.sub (ws' := [(mo, .inr (10, [.int 0, .ref mr, .int 1, .long 8890733733373366945]))]) [12] (by decide) rfl
  have hKc := hK.sub (tys' := []) [] rfl
  have hFc := va_free (wc := [(mo, .inr (10, [.int 0, .ref mr, .int 1, .long 8890733733373366945]))]) hD hS hA [12] rfl
  refine va_callv (va_runV (As := [.int 0]) (rest := []) ⟨hx, hb, hml, hown, hts⟩ (cz_X8_add l dC dI ed H519.size mo mr 0 8890733733373366945 0) (cwV 1 hts gX8_digest_X8_add rfl rfl rfl (by decide +kernel) ⟨Nat.le_of_ble_eq_true rfl, Nat.le_of_ble_eq_true rfl⟩) ⟨zb_blind, va_recv hK hP (ci := 10) (q0 := 12) rfl rfl, fun U hU hW => ⟨rfl, zb_mk hU hW hPr hPc hKc hDc hN hH hS hFc zx_nil⟩⟩ rfl rfl hl.1 rfl (lv_room (Nat.le_of_ble_eq_true rfl)) dX8_digest_112 ⟨Nat.le_of_ble_eq_true rfl, Nat.le_of_ble_eq_true rfl⟩) hS (fun q _ h => hFc q h) hFc (fun u t H521 locs ht hvm hw hB hz1 hk1 hS => ?_)
  obtain ⟨s1_523, hf523_0, hP1, hD1, hK1⟩ := hB
  obtain rfl : s1_523 = (-1088415371068898945) := hf523_0.trans (by first | rfl | decide +kernel)
  rw [ht] at hP1
  obtain ⟨hP, hD⟩ := va_join (wr := [(la0, .inl (cA0, 10, .inl fa0)), (la1, .inl (cA1, 10, .inl fa1)), (ta0, .inl (cB0, 5, .inl fb0)), (ta1, .inl (cB1, 5, .inl fb1)), (ta2, .inl (cB2, 5, .inl fb2)), (ta3, .inl (cB3, 5, .inl fb3)), (ta4, .inl (cB4, 5, .inl fb4)), (ta5, .inl (cB5, 5, .inl fb5)), (ta6, .inl (cB6, 5, .inl fb6)), (ta7, .inl (cB7, 5, .inl fb7)), (ta8, .inl (cB8, 5, .inl fb8)), (ta9, .inl (cB9, 5, .inl fb9))]) (w1 := [(mo, .inr (10, [.int 0, .ref mr, .int 1, .long (-1088415371068898945)]))]) hP hD [12] [0, 1, 2, 3, 4, 5, 6, 7, 8, 9, 10, 11] rfl rfl (by decide) (by decide) hk1 hFc hP1 hD1
  have hP : va_P (dC, dI) vwCl [(la0, .inl (cA0, 10, .inl fa0)), (la1, .inl (cA1, 10, .inl fa1)), (ta0, .inl (cB0, 5, .inl fb0)), (ta1, .inl (cB1, 5, .inl fb1)), (ta2, .inl (cB2, 5, .inl fb2)), (ta3, .inl (cB3, 5, .inl fb3)), (ta4, .inl (cB4, 5, .inl fb4)), (ta5, .inl (cB5, 5, .inl fb5)), (ta6, .inl (cB6, 5, .inl fb6)), (ta7, .inl (cB7, 5, .inl fb7)), (ta8, .inl (cB8, 5, .inl fb8)), (ta9, .inl (cB9, 5, .inl fb9)), (mo, .inr (10, [.int 0, .ref mr, .int 1, .long (-1088415371068898945)]))] H521 := hP
  have hD : va_D A [(la0, .inl (cA0, 10, .inl fa0)), (la1, .inl (cA1, 10, .inl fa1)), (ta0, .inl (cB0, 5, .inl fb0)), (ta1, .inl (cB1, 5, .inl fb1)), (ta2, .inl (cB2, 5, .inl fb2)), (ta3, .inl (cB3, 5, .inl fb3)), (ta4, .inl (cB4, 5, .inl fb4)), (ta5, .inl (cB5, 5, .inl fb5)), (ta6, .inl (cB6, 5, .inl fb6)), (ta7, .inl (cB7, 5, .inl fb7)), (ta8, .inl (cB8, 5, .inl fb8)), (ta9, .inl (cB9, 5, .inl fb9)), (mo, .inr (10, [.int 0, .ref mr, .int 1, .long (-1088415371068898945)]))] := hD
  refine lv_iinc (v := 6) (lv' := [(2, .int 6), (1, .int 9), (0, .ref mo)]) hx hb dX8_digest_115 hl (k := 0) rfl (by decide) (by decide) rfl (fun ls hl => ?_)
  refine lv_goto (tgt := 99) hx hb dX8_digest_118 (by decide) ?_
  refine lv_iload_n hx hb dX8_digest_99 rfl (lv_at hl 0 rfl) ?_
  refine lv_bipush (v := 6) hx hb dX8_digest_100 (by decide) ?_
  refine lv_icmp_ge (tgt := 121) hx hb dX8_digest_102 (by decide) (fun _ => ?_) (fun h => absurd h (by decide))
  refine lv_iinc (v := 10) (lv' := [(1, .int 10), (2, .int 6), (0, .ref mo)]) hx hb dX8_digest_121 hl (k := 1) rfl (by decide) (by decide) rfl (fun ls hl => ?_)
  refine lv_goto (tgt := 83) hx hb dX8_digest_124 (by decide) ?_
  refine lv_iload_n hx hb dX8_digest_83 rfl (lv_at hl 0 rfl) ?_
  refine lv_aload_n hx hb dX8_digest_84 rfl (lv_at hl 2 rfl) ?_
  refine va_get (D := (dC, dI)) (ci := 10) (v := .ref mr) (C := RX8) (T := TX8) (N := 4) hx hb hts zi_X8_digest_X8 hown hK hP 12 rfl rfl 1 (by decide) (hts (.fieldLink RX8 10 "LockRoomsModel" "room" "LLockRoomsModel$Room;") (by decide +kernel)) (fun _ h9 => h9) rfl dX8_digest_85 ?_
  refine va_getN (D := (dC, dI)) (ci := 9) (v := .ref lt) (C := RX7) (T := TX7) (N := 14) hx hb hts zi_X8_digest_X7 hown hK (zo_R hR0 hS hAr) 0 rfl rfl 1 (by decide) (va_Nw.use rfl (hN.1 ("LockRoomsModel", 38, "LockRoomsModel$Room", "things", "Ljava/util/ArrayList;", "LockRoomsModel") (List.mem_of_getElem? (i := 2) rfl))) (fun _ h9 => h9) rfl dX8_digest_88 ?_
  have hPr := ((zo_R hR0 hS hAr)).sub (ws' := [(lt, .inr (1, [.int 10, .ref ota, .int 10]))]) [2] rfl
  have hPc := hP.sub (ws' := []) [] rfl
  have hDc := hD.sub (ws' := []) [] (by decide) rfl
  have hKc := hK.sub (tys' := []) [] rfl
  have hFc := va_free (wc := []) hD hS hA [] rfl
  refine va_calli (va_runV (As := []) (rest := [.int 10]) ⟨hx, hb, hml, hown, hts⟩ (cz_Qsize l dC dI ed H521.size lt 10 ota 10) (cwV 0 hts gX8_digest_Jx4a65c_size_8abf5 rfl rfl rfl (by decide +kernel) ⟨Nat.le_of_ble_eq_true rfl, Nat.le_of_ble_eq_true rfl⟩) ⟨zb_blind, va_recv hK (zo_R hR0 hS hAr) (ci := 1) (q0 := 2) rfl rfl, fun U hU hW => ⟨rfl, zb_mk hU hW hPr hPc hKc hDc hN hH hS hFc zx_e⟩⟩ rfl rfl hl.1 rfl (lv_room (Nat.le_of_ble_eq_true rfl)) dX8_digest_91 ⟨Nat.le_of_ble_eq_true rfl, Nat.le_of_ble_eq_true rfl⟩) hS (fun q _ h => hFc q h) hFc (fun r525 u t H524 locs ht hvm hw hB hz1 hk1 hS => ?_)
  obtain rfl : r525 = 10 := hw.trans (by decide +kernel)
  have hP := zo_K hP hk1
  refine lv_icmp_ge (tgt := 127) hx hb dX8_digest_94 (by decide) (fun _ => ?_) (fun h => absurd h (by decide))
  exact cs_QX8_digest_8 l dC dI ed mr ll lt lp ola ota cOl fol la0 la1 cOt fot ta0 ta1 ta2 ta3 ta4 ta5 ta6 ta7 ta8 ta9 mo x9 s9 cA0 fa0 cA1 fa1 cB0 fb0 cB1 fb1 cB2 fb2 cB3 fb3 cB4 fb4 cB5 fb5 cB6 fb6 cB7 fb7 cB8 fb8 cB9 fb9 hol0 hol1 hot0 hot1 hot2 hot3 hot4 hot5 hot6 hot7 hot8 hot9 ha0_0 ha0_1 ha0_2 ha0_3 ha0_4 ha0_5 ha0_6 ha0_7 ha0_8 ha0_9 ha1_0 ha1_1 ha1_2 ha1_3 ha1_4 ha1_5 ha1_6 ha1_7 ha1_8 ha1_9 hb0_0 hb0_1 hb0_2 hb0_3 hb0_4 hb1_0 hb1_1 hb1_2 hb1_3 hb1_4 hb2_0 hb2_1 hb2_2 hb2_3 hb2_4 hb3_0 hb3_1 hb3_2 hb3_3 hb3_4 hb4_0 hb4_1 hb4_2 hb4_3 hb4_4 hb5_0 hb5_1 hb5_2 hb5_3 hb5_4 hb6_0 hb6_1 hb6_2 hb6_3 hb6_4 hb7_0 hb7_1 hb7_2 hb7_3 hb7_4 hb8_0 hb8_1 hb8_2 hb8_3 hb8_4 hb9_0 hb9_1 hb9_2 hb9_3 hb9_4 hx hb hr hml hown hlocks hts hR0 hN hA hAr hH hAe hK hP hD hS hl
set_option maxHeartbeats 4000000 in
set_option maxRecDepth 100000 in
theorem cs_QX8_digest_6 (l : Launch) (dC : Nat → ClassId) (dI : Nat → Nat → Nat) (ed : Nat) (mr : Nat) (ll : Nat) (lt : Nat) (lp : Nat) (ola : Nat) (ota : Nat) (cOl : ClassId) (fol : Nat → Option Nat) (la0 : Nat) (la1 : Nat) (cOt : ClassId) (fot : Nat → Option Nat) (ta0 : Nat) (ta1 : Nat) (ta2 : Nat) (ta3 : Nat) (ta4 : Nat) (ta5 : Nat) (ta6 : Nat) (ta7 : Nat) (ta8 : Nat) (ta9 : Nat) (mo : Nat) (x9 : Int32) (s9 : Int64) (cA0 : ClassId) (fa0 : Nat → Int32) (cA1 : ClassId) (fa1 : Nat → Int32) (cB0 : ClassId) (fb0 : Nat → Int32) (cB1 : ClassId) (fb1 : Nat → Int32) (cB2 : ClassId) (fb2 : Nat → Int32) (cB3 : ClassId) (fb3 : Nat → Int32) (cB4 : ClassId) (fb4 : Nat → Int32) (cB5 : ClassId) (fb5 : Nat → Int32) (cB6 : ClassId) (fb6 : Nat → Int32) (cB7 : ClassId) (fb7 : Nat → Int32) (cB8 : ClassId) (fb8 : Nat → Int32) (cB9 : ClassId) (fb9 : Nat → Int32) (hol0 : fol 0 = some la0) (hol1 : fol 1 = some la1) (hot0 : fot 0 = some ta0) (hot1 : fot 1 = some ta1) (hot2 : fot 2 = some ta2) (hot3 : fot 3 = some ta3) (hot4 : fot 4 = some ta4) (hot5 : fot 5 = some ta5) (hot6 : fot 6 = some ta6) (hot7 : fot 7 = some ta7) (hot8 : fot 8 = some ta8) (hot9 : fot 9 = some ta9) (ha0_0 : fa0 0 = 0) (ha0_1 : fa0 1 = 0) (ha0_2 : fa0 2 = 60) (ha0_3 : fa0 3 = 0) (ha0_4 : fa0 4 = 0) (ha0_5 : fa0 5 = 0) (ha0_6 : fa0 6 = 0) (ha0_7 : fa0 7 = 0) (ha0_8 : fa0 8 = 0) (ha0_9 : fa0 9 = 0) (ha1_0 : fa1 0 = 0) (ha1_1 : fa1 1 = 0) (ha1_2 : fa1 2 = 60) (ha1_3 : fa1 3 = 0) (ha1_4 : fa1 4 = 0) (ha1_5 : fa1 5 = 0) (ha1_6 : fa1 6 = 0) (ha1_7 : fa1 7 = 0) (ha1_8 : fa1 8 = 0) (ha1_9 : fa1 9 = 0) (hb0_0 : fb0 0 = (-1)) (hb0_1 : fb0 1 = 0) (hb0_2 : fb0 2 = 0) (hb0_3 : fb0 3 = 0) (hb0_4 : fb0 4 = 0) (hb1_0 : fb1 0 = (-1)) (hb1_1 : fb1 1 = 0) (hb1_2 : fb1 2 = 0) (hb1_3 : fb1 3 = 0) (hb1_4 : fb1 4 = 0) (hb2_0 : fb2 0 = (-1)) (hb2_1 : fb2 1 = 0) (hb2_2 : fb2 2 = 0) (hb2_3 : fb2 3 = 0) (hb2_4 : fb2 4 = 0) (hb3_0 : fb3 0 = (-1)) (hb3_1 : fb3 1 = 0) (hb3_2 : fb3 2 = 0) (hb3_3 : fb3 3 = 0) (hb3_4 : fb3 4 = 0) (hb4_0 : fb4 0 = (-1)) (hb4_1 : fb4 1 = 0) (hb4_2 : fb4 2 = 0) (hb4_3 : fb4 3 = 0) (hb4_4 : fb4 4 = 0) (hb5_0 : fb5 0 = (-1)) (hb5_1 : fb5 1 = 0) (hb5_2 : fb5 2 = 0) (hb5_3 : fb5 3 = 0) (hb5_4 : fb5 4 = 0) (hb6_0 : fb6 0 = (-1)) (hb6_1 : fb6 1 = 0) (hb6_2 : fb6 2 = 0) (hb6_3 : fb6 3 = 0) (hb6_4 : fb6 4 = 0) (hb7_0 : fb7 0 = (-1)) (hb7_1 : fb7 1 = 0) (hb7_2 : fb7 2 = 0) (hb7_3 : fb7 3 = 0) (hb7_4 : fb7 4 = 0) (hb8_0 : fb8 0 = (-1)) (hb8_1 : fb8 1 = 0) (hb8_2 : fb8 2 = 0) (hb8_3 : fb8 3 = 0) (hb8_4 : fb8 4 = 0) (hb9_0 : fb9 0 = (-1)) (hb9_1 : fb9 1 = 0) (hb9_2 : fb9 2 = 0) (hb9_3 : fb9 3 = 0) (hb9_4 : fb9 4 = 0) {p : Program} {e : Env} {s : State} {m : MethodId} {below : List Frame} {meth : Method} {c : Code} {A : Nat → Prop} {H : Heap} {locs : List Loc} {ls : Array Slot} (hx : p.tables.exec = Jvm.exec) (hb : c.code = cX8_digest) (hr : meth.sig.returnType = (some .long)) (hml : c.maxLocals = 7) (hown : s.vm.findClass RX8 = some m.cls) (hlocks : meth.locks = false) (hts : ∀ w ∈ wsX8_digest, w.before ([.ref mo] : List Value).toArray s = true) (hR0 : va_P (dC, dI) vwCl [(mr, .inr (9, [.ref ll, .ref lt, .ref lp, .int 0, .int 0, .int 0, .int 0, .int 0, .int 0, .int 0, .int (-1), .int 0, .int 0, .int 0])), (ll, .inr (1, [.int 2, .ref ola, .int 2])), (lt, .inr (1, [.int 10, .ref ota, .int 10])), (lp, .inr (1, [.int 0, .ref ed, .int 0])), (ola, .inl (cOl, 10, .inr (.inr (.inr (.inr fol))))), (ota, .inl (cOt, 10, .inr (.inr (.inr (.inr fot)))))] s.heap) (hN : zN s) (hA : ∀ q : Nat, s.heap.size ≤ q → A q) (hAr : ∀ p ∈ ([(mr, .inr (9, [.ref ll, .ref lt, .ref lp, .int 0, .int 0, .int 0, .int 0, .int 0, .int 0, .int 0, .int (-1), .int 0, .int 0, .int 0])), (ll, .inr (1, [.int 2, .ref ola, .int 2])), (lt, .inr (1, [.int 10, .ref ota, .int 10])), (lp, .inr (1, [.int 0, .ref ed, .int 0])), (ola, .inl (cOl, 10, .inr (.inr (.inr (.inr fol))))), (ota, .inl (cOt, 10, .inr (.inr (.inr (.inr fot)))))] : va_W), ¬ A p.1) (hH : zH ed A s s.heap) (hAe : va_A [(mo, .inr (10, [.int x9, .ref mr, .int 1, .long s9])), (la0, .inl (cA0, 10, .inl fa0)), (la1, .inl (cA1, 10, .inl fa1)), (ta0, .inl (cB0, 5, .inl fb0)), (ta1, .inl (cB1, 5, .inl fb1)), (ta2, .inl (cB2, 5, .inl fb2)), (ta3, .inl (cB3, 5, .inl fb3)), (ta4, .inl (cB4, 5, .inl fb4)), (ta5, .inl (cB5, 5, .inl fb5)), (ta6, .inl (cB6, 5, .inl fb6)), (ta7, .inl (cB7, 5, .inl fb7)), (ta8, .inl (cB8, 5, .inl fb8)), (ta9, .inl (cB9, 5, .inl fb9))] s.heap.size = A) (hK : va_K (dC, dI) vwCl [(cOl, .object "java/lang/Object"), (cOt, .object "java/lang/Object"), (cA0, .int), (cA1, .int), (cB0, .int), (cB1, .int), (cB2, .int), (cB3, .int), (cB4, .int), (cB5, .int), (cB6, .int), (cB7, .int), (cB8, .int), (cB9, .int)] s) (hP : va_P (dC, dI) vwCl [(la0, .inl (cA0, 10, .inl fa0)), (la1, .inl (cA1, 10, .inl fa1)), (ta0, .inl (cB0, 5, .inl fb0)), (ta1, .inl (cB1, 5, .inl fb1)), (ta2, .inl (cB2, 5, .inl fb2)), (ta3, .inl (cB3, 5, .inl fb3)), (ta4, .inl (cB4, 5, .inl fb4)), (ta5, .inl (cB5, 5, .inl fb5)), (ta6, .inl (cB6, 5, .inl fb6)), (ta7, .inl (cB7, 5, .inl fb7)), (ta8, .inl (cB8, 5, .inl fb8)), (ta9, .inl (cB9, 5, .inl fb9)), (mo, .inr (10, [.int 0, .ref mr, .int 1, .long 3293077638034223231]))] H) (hD : va_D A [(la0, .inl (cA0, 10, .inl fa0)), (la1, .inl (cA1, 10, .inl fa1)), (ta0, .inl (cB0, 5, .inl fb0)), (ta1, .inl (cB1, 5, .inl fb1)), (ta2, .inl (cB2, 5, .inl fb2)), (ta3, .inl (cB3, 5, .inl fb3)), (ta4, .inl (cB4, 5, .inl fb4)), (ta5, .inl (cB5, 5, .inl fb5)), (ta6, .inl (cB6, 5, .inl fb6)), (ta7, .inl (cB7, 5, .inl fb7)), (ta8, .inl (cB8, 5, .inl fb8)), (ta9, .inl (cB9, 5, .inl fb9)), (mo, .inr (10, [.int 0, .ref mr, .int 1, .long 3293077638034223231]))]) (hS : va_S A s.heap H locs) (hl : lv_has ls 7 [(1, .int 6), (2, .int 6), (0, .ref mo)]) : W p l e (headSpec wsX8_digest ({ frames := 9, cells := 59, slots := 18922, locals := 211 } : Jvm.Room)).room s m (([.ref mo] : List Value).toArray) below meth c H locs 19 361 (MQ below (va_Ql (fun (r : Int64) (_ : Unit) => r = 1244744325466633148) (fun (_ : Unit) (t : State) => (18432 ≤ zc_S s.heap.size t.heap) ∧ (fa0 0 = 0 ∧ fa0 1 = 0 ∧ fa0 2 = 60 ∧ fa0 3 = 0 ∧ fa0 4 = 0 ∧ fa0 5 = 0 ∧ fa0 6 = 0 ∧ fa0 7 = 0 ∧ fa0 8 = 0 ∧ fa0 9 = 0 ∧ fa1 0 = 0 ∧ fa1 1 = 0 ∧ fa1 2 = 60 ∧ fa1 3 = 0 ∧ fa1 4 = 0 ∧ fa1 5 = 0 ∧ fa1 6 = 0 ∧ fa1 7 = 0 ∧ fa1 8 = 0 ∧ fa1 9 = 0 ∧ fb0 0 = (-1) ∧ fb0 1 = 0 ∧ fb0 2 = 0 ∧ fb0 3 = 0 ∧ fb0 4 = 0 ∧ fb1 0 = (-1) ∧ fb1 1 = 0 ∧ fb1 2 = 0 ∧ fb1 3 = 0 ∧ fb1 4 = 0 ∧ fb2 0 = (-1) ∧ fb2 1 = 0 ∧ fb2 2 = 0 ∧ fb2 3 = 0 ∧ fb2 4 = 0 ∧ fb3 0 = (-1) ∧ fb3 1 = 0 ∧ fb3 2 = 0 ∧ fb3 3 = 0 ∧ fb3 4 = 0 ∧ fb4 0 = (-1) ∧ fb4 1 = 0 ∧ fb4 2 = 0 ∧ fb4 3 = 0 ∧ fb4 4 = 0 ∧ fb5 0 = (-1) ∧ fb5 1 = 0 ∧ fb5 2 = 0 ∧ fb5 3 = 0 ∧ fb5 4 = 0 ∧ fb6 0 = (-1) ∧ fb6 1 = 0 ∧ fb6 2 = 0 ∧ fb6 3 = 0 ∧ fb6 4 = 0 ∧ fb7 0 = (-1) ∧ fb7 1 = 0 ∧ fb7 2 = 0 ∧ fb7 3 = 0 ∧ fb7 4 = 0 ∧ fb8 0 = (-1) ∧ fb8 1 = 0 ∧ fb8 2 = 0 ∧ fb8 3 = 0 ∧ fb8 4 = 0 ∧ fb9 0 = (-1) ∧ fb9 1 = 0 ∧ fb9 2 = 0 ∧ fb9 3 = 0 ∧ fb9 4 = 0) ∧ va_P (dC, dI) vwCl [(mo, .inr (10, [.int 0, .ref mr, .int 1, .long 1244744325466633148])), (la0, .inl (cA0, 10, .inl fa0)), (la1, .inl (cA1, 10, .inl fa1)), (ta0, .inl (cB0, 5, .inl fb0)), (ta1, .inl (cB1, 5, .inl fb1)), (ta2, .inl (cB2, 5, .inl fb2)), (ta3, .inl (cB3, 5, .inl fb3)), (ta4, .inl (cB4, 5, .inl fb4)), (ta5, .inl (cB5, 5, .inl fb5)), (ta6, .inl (cB6, 5, .inl fb6)), (ta7, .inl (cB7, 5, .inl fb7)), (ta8, .inl (cB8, 5, .inl fb8)), (ta9, .inl (cB9, 5, .inl fb9))] t.heap ∧ va_D A [(mo, .inr (10, [.int 0, .ref mr, .int 1, .long 1244744325466633148])), (la0, .inl (cA0, 10, .inl fa0)), (la1, .inl (cA1, 10, .inl fa1)), (ta0, .inl (cB0, 5, .inl fb0)), (ta1, .inl (cB1, 5, .inl fb1)), (ta2, .inl (cB2, 5, .inl fb2)), (ta3, .inl (cB3, 5, .inl fb3)), (ta4, .inl (cB4, 5, .inl fb4)), (ta5, .inl (cB5, 5, .inl fb5)), (ta6, .inl (cB6, 5, .inl fb6)), (ta7, .inl (cB7, 5, .inl fb7)), (ta8, .inl (cB8, 5, .inl fb8)), (ta9, .inl (cB9, 5, .inl fb9))] ∧ va_K (dC, dI) vwCl [(cA0, .int), (cA1, .int), (cB0, .int), (cB1, .int), (cB2, .int), (cB3, .int), (cB4, .int), (cB5, .int), (cB6, .int), (cB7, .int), (cB8, .int), (cB9, .int)] t) A) (([.ref mo] : List Value).toArray) s 59 18922 A) (F0 m 83 ls []) := by
  refine lv_iload_n hx hb dX8_digest_83 rfl (lv_at hl 0 rfl) ?_
  refine lv_aload_n hx hb dX8_digest_84 rfl (lv_at hl 2 rfl) ?_
  refine va_get (D := (dC, dI)) (ci := 10) (v := .ref mr) (C := RX8) (T := TX8) (N := 4) hx hb hts zi_X8_digest_X8 hown hK hP 12 rfl rfl 1 (by decide) (hts (.fieldLink RX8 10 "LockRoomsModel" "room" "LLockRoomsModel$Room;") (by decide +kernel)) (fun _ h9 => h9) rfl dX8_digest_85 ?_
  refine va_getN (D := (dC, dI)) (ci := 9) (v := .ref lt) (C := RX7) (T := TX7) (N := 14) hx hb hts zi_X8_digest_X7 hown hK (zo_R hR0 hS hAr) 0 rfl rfl 1 (by decide) (va_Nw.use rfl (hN.1 ("LockRoomsModel", 38, "LockRoomsModel$Room", "things", "Ljava/util/ArrayList;", "LockRoomsModel") (List.mem_of_getElem? (i := 2) rfl))) (fun _ h9 => h9) rfl dX8_digest_88 ?_
  have hPr := ((zo_R hR0 hS hAr)).sub (ws' := [(lt, .inr (1, [.int 10, .ref ota, .int 10]))]) [2] rfl
  have hPc := hP.sub (ws' := []) [] rfl
  have hDc := hD.sub (ws' := []) [] (by decide) rfl
  have hKc := hK.sub (tys' := []) [] rfl
  have hFc := va_free (wc := []) hD hS hA [] rfl
  refine va_calli (va_runV (As := []) (rest := [.int 6]) ⟨hx, hb, hml, hown, hts⟩ (cz_Qsize l dC dI ed H.size lt 10 ota 10) (cwV 0 hts gX8_digest_Jx4a65c_size_8abf5 rfl rfl rfl (by decide +kernel) ⟨Nat.le_of_ble_eq_true rfl, Nat.le_of_ble_eq_true rfl⟩) ⟨zb_blind, va_recv hK (zo_R hR0 hS hAr) (ci := 1) (q0 := 2) rfl rfl, fun U hU hW => ⟨rfl, zb_mk hU hW hPr hPc hKc hDc hN hH hS hFc zx_e⟩⟩ rfl rfl hl.1 rfl (lv_room (Nat.le_of_ble_eq_true rfl)) dX8_digest_91 ⟨Nat.le_of_ble_eq_true rfl, Nat.le_of_ble_eq_true rfl⟩) hS (fun q _ h => hFc q h) hFc (fun r397 u t H396 locs ht hvm hw hB hz1 hk1 hS => ?_)
  obtain rfl : r397 = 10 := hw.trans (by decide +kernel)
  have hP := zo_K hP hk1
  refine lv_icmp_ge (tgt := 127) hx hb dX8_digest_94 (by decide) (fun h => absurd h (by decide)) (fun _ => ?_)
  refine lv_iconst (v := 0) hx hb dX8_digest_97 (by decide) ?_
  refine lv_istore_n (lv' := [(2, .int 0), (1, .int 6), (0, .ref mo)]) hx hb dX8_digest_98 rfl hl (by decide) rfl (fun ls hl => ?_)
  refine lv_iload_n hx hb dX8_digest_99 rfl (lv_at hl 0 rfl) ?_
  refine lv_bipush (v := 6) hx hb dX8_digest_100 (by decide) ?_
  refine lv_icmp_ge (tgt := 121) hx hb dX8_digest_102 (by decide) (fun h => absurd h (by decide)) (fun _ => ?_)
  refine lv_aload_n hx hb dX8_digest_105 rfl (lv_at hl 2 rfl) ?_
  refine lv_aload_n hx hb dX8_digest_106 rfl (lv_at hl 2 rfl) ?_
  refine lv_iload_n hx hb dX8_digest_107 rfl (lv_at hl 1 rfl) ?_
  refine lv_iload_n hx hb dX8_digest_108 rfl (lv_at hl 0 rfl) ?_
  have hPr := (show va_P (dC, dI) vwCl [(mo, .inr (10, [.int 0, .ref mr, .int 1, .long 3293077638034223231])), (mr, .inr (9, [.ref ll, .ref lt, .ref lp, .int 0, .int 0, .int 0, .int 0, .int 0, .int 0, .int 0, .int (-1), .int 0, .int 0, .int 0])), (lt, .inr (1, [.int 10, .ref ota, .int 10])), (ota, .inl (cOt, 10, .inr (.inr (.inr (.inr fot))))), (ta6, .inl (cB6, 5, .inl fb6))] H396 from (zo_cons ((hP) 12 _ rfl) (zo_cons (((zo_R hR0 hS hAr)) 0 _ rfl) (zo_cons (((zo_R hR0 hS hAr)) 2 _ rfl) (zo_cons (((zo_R hR0 hS hAr)) 5 _ rfl) (zo_cons ((hP) 8 _ rfl) (zo_nil : va_P (dC, dI) vwCl [] H396)))))))
  have hPc := hP.sub (ws' := []) [] rfl
  have hDc := hD.sub (ws' := []) [] (by decide) rfl
  have hKc := hK.sub (tys' := [(cOt, .object "java/lang/Object"), (cB6, .int)]) [1, 10] rfl
  have hFc := va_free (wc := []) hD hS hA [] rfl
  refine va_calli (va_runV (As := [.int 6, .int 0]) (rest := [.ref mo]) ⟨hx, hb, hml, hown, hts⟩ (cz_QofThingNow_6_0 l dC dI ed H396.size mo mr 0 3293077638034223231 ll lt lp ota cOt fot ta6 cB6 fb6 hot6 hb6_0) (cwV 2 hts gX8_digest_X8_ofThingNow rfl rfl rfl (by decide +kernel) ⟨Nat.le_of_ble_eq_true rfl, Nat.le_of_ble_eq_true rfl⟩) ⟨zb_blind, va_recv hK hP (ci := 10) (q0 := 12) rfl rfl, fun U hU hW => ⟨rfl, zb_mk hU hW hPr hPc hKc hDc hN hH hS hFc zx_e⟩⟩ rfl rfl hl.1 rfl (lv_room (Nat.le_of_ble_eq_true rfl)) dX8_digest_109 ⟨Nat.le_of_ble_eq_true rfl, Nat.le_of_ble_eq_true rfl⟩) hS (fun q _ h => hFc q h) hFc (fun r399 u t H398 locs ht hvm hw hB hz1 hk1 hS => ?_)
  obtain rfl : r399 = (-1) := hw
  have hP := zo_K hP hk1
  have hPr := (zo_nil : va_P (dC, dI) vwCl [] H398)
  have hPc := hP.sub (ws' := [(mo, .inr (10, [.int 0, .ref mr, .int 1, .long 3293077638034223231]))]) [12] rfl
  have hDc := hD.sub (ws' := [(mo, .inr (10, [.int 0, .ref mr, .int 1, .long 3293077638034223231]))]) [12] (by decide) rfl
  have hKc := hK.sub (tys' := []) [] rfl
  have hFc := va_free (wc := [(mo, .inr (10, [.int 0, .ref mr, .int 1, .long 3293077638034223231]))]) hD hS hA [12] rfl
  refine va_callv (va_runV (As := [.int (-1)]) (rest := []) ⟨hx, hb, hml, hown, hts⟩ (cz_X8_add l dC dI ed H398.size mo mr 0 3293077638034223231 (-1)) (cwV 1 hts gX8_digest_X8_add rfl rfl rfl (by decide +kernel) ⟨Nat.le_of_ble_eq_true rfl, Nat.le_of_ble_eq_true rfl⟩) ⟨zb_blind, va_recv hK hP (ci := 10) (q0 := 12) rfl rfl, fun U hU hW => ⟨rfl, zb_mk hU hW hPr hPc hKc hDc hN hH hS hFc zx_nil⟩⟩ rfl rfl hl.1 rfl (lv_room (Nat.le_of_ble_eq_true rfl)) dX8_digest_112 ⟨Nat.le_of_ble_eq_true rfl, Nat.le_of_ble_eq_true rfl⟩) hS (fun q _ h => hFc q h) hFc (fun u t H400 locs ht hvm hw hB hz1 hk1 hS => ?_)
  obtain ⟨s1_402, hf402_0, hP1, hD1, hK1⟩ := hB
  obtain rfl : s1_402 = (-8595057663196389536) := hf402_0.trans (by first | rfl | decide +kernel)
  rw [ht] at hP1
  obtain ⟨hP, hD⟩ := va_join (wr := [(la0, .inl (cA0, 10, .inl fa0)), (la1, .inl (cA1, 10, .inl fa1)), (ta0, .inl (cB0, 5, .inl fb0)), (ta1, .inl (cB1, 5, .inl fb1)), (ta2, .inl (cB2, 5, .inl fb2)), (ta3, .inl (cB3, 5, .inl fb3)), (ta4, .inl (cB4, 5, .inl fb4)), (ta5, .inl (cB5, 5, .inl fb5)), (ta6, .inl (cB6, 5, .inl fb6)), (ta7, .inl (cB7, 5, .inl fb7)), (ta8, .inl (cB8, 5, .inl fb8)), (ta9, .inl (cB9, 5, .inl fb9))]) (w1 := [(mo, .inr (10, [.int 0, .ref mr, .int 1, .long (-8595057663196389536)]))]) hP hD [12] [0, 1, 2, 3, 4, 5, 6, 7, 8, 9, 10, 11] rfl rfl (by decide) (by decide) hk1 hFc hP1 hD1
  have hP : va_P (dC, dI) vwCl [(la0, .inl (cA0, 10, .inl fa0)), (la1, .inl (cA1, 10, .inl fa1)), (ta0, .inl (cB0, 5, .inl fb0)), (ta1, .inl (cB1, 5, .inl fb1)), (ta2, .inl (cB2, 5, .inl fb2)), (ta3, .inl (cB3, 5, .inl fb3)), (ta4, .inl (cB4, 5, .inl fb4)), (ta5, .inl (cB5, 5, .inl fb5)), (ta6, .inl (cB6, 5, .inl fb6)), (ta7, .inl (cB7, 5, .inl fb7)), (ta8, .inl (cB8, 5, .inl fb8)), (ta9, .inl (cB9, 5, .inl fb9)), (mo, .inr (10, [.int 0, .ref mr, .int 1, .long (-8595057663196389536)]))] H400 := hP
  have hD : va_D A [(la0, .inl (cA0, 10, .inl fa0)), (la1, .inl (cA1, 10, .inl fa1)), (ta0, .inl (cB0, 5, .inl fb0)), (ta1, .inl (cB1, 5, .inl fb1)), (ta2, .inl (cB2, 5, .inl fb2)), (ta3, .inl (cB3, 5, .inl fb3)), (ta4, .inl (cB4, 5, .inl fb4)), (ta5, .inl (cB5, 5, .inl fb5)), (ta6, .inl (cB6, 5, .inl fb6)), (ta7, .inl (cB7, 5, .inl fb7)), (ta8, .inl (cB8, 5, .inl fb8)), (ta9, .inl (cB9, 5, .inl fb9)), (mo, .inr (10, [.int 0, .ref mr, .int 1, .long (-8595057663196389536)]))] := hD
  refine lv_iinc (v := 1) (lv' := [(2, .int 1), (1, .int 6), (0, .ref mo)]) hx hb dX8_digest_115 hl (k := 0) rfl (by decide) (by decide) rfl (fun ls hl => ?_)
  refine lv_goto (tgt := 99) hx hb dX8_digest_118 (by decide) ?_
  refine lv_iload_n hx hb dX8_digest_99 rfl (lv_at hl 0 rfl) ?_
  refine lv_bipush (v := 6) hx hb dX8_digest_100 (by decide) ?_
  refine lv_icmp_ge (tgt := 121) hx hb dX8_digest_102 (by decide) (fun h => absurd h (by decide)) (fun _ => ?_)
  refine lv_aload_n hx hb dX8_digest_105 rfl (lv_at hl 2 rfl) ?_
  refine lv_aload_n hx hb dX8_digest_106 rfl (lv_at hl 2 rfl) ?_
  refine lv_iload_n hx hb dX8_digest_107 rfl (lv_at hl 1 rfl) ?_
  refine lv_iload_n hx hb dX8_digest_108 rfl (lv_at hl 0 rfl) ?_
  have hPr := (show va_P (dC, dI) vwCl [(mo, .inr (10, [.int 0, .ref mr, .int 1, .long (-8595057663196389536)])), (mr, .inr (9, [.ref ll, .ref lt, .ref lp, .int 0, .int 0, .int 0, .int 0, .int 0, .int 0, .int 0, .int (-1), .int 0, .int 0, .int 0])), (lt, .inr (1, [.int 10, .ref ota, .int 10])), (ota, .inl (cOt, 10, .inr (.inr (.inr (.inr fot))))), (ta6, .inl (cB6, 5, .inl fb6))] H400 from (zo_cons ((hP) 12 _ rfl) (zo_cons (((zo_R hR0 hS hAr)) 0 _ rfl) (zo_cons (((zo_R hR0 hS hAr)) 2 _ rfl) (zo_cons (((zo_R hR0 hS hAr)) 5 _ rfl) (zo_cons ((hP) 8 _ rfl) (zo_nil : va_P (dC, dI) vwCl [] H400)))))))
  have hPc := hP.sub (ws' := []) [] rfl
  have hDc := hD.sub (ws' := []) [] (by decide) rfl
  have hKc := hK.sub (tys' := [(cOt, .object "java/lang/Object"), (cB6, .int)]) [1, 10] rfl
  have hFc := va_free (wc := []) hD hS hA [] rfl
  refine va_calli (va_runV (As := [.int 6, .int 1]) (rest := [.ref mo]) ⟨hx, hb, hml, hown, hts⟩ (cz_QofThingNow_6_1 l dC dI ed H400.size mo mr 0 (-8595057663196389536) ll lt lp ota cOt fot ta6 cB6 fb6 hot6 hb6_1) (cwV 2 hts gX8_digest_X8_ofThingNow rfl rfl rfl (by decide +kernel) ⟨Nat.le_of_ble_eq_true rfl, Nat.le_of_ble_eq_true rfl⟩) ⟨zb_blind, va_recv hK hP (ci := 10) (q0 := 12) rfl rfl, fun U hU hW => ⟨rfl, zb_mk hU hW hPr hPc hKc hDc hN hH hS hFc zx_e⟩⟩ rfl rfl hl.1 rfl (lv_room (Nat.le_of_ble_eq_true rfl)) dX8_digest_109 ⟨Nat.le_of_ble_eq_true rfl, Nat.le_of_ble_eq_true rfl⟩) hS (fun q _ h => hFc q h) hFc (fun r404 u t H403 locs ht hvm hw hB hz1 hk1 hS => ?_)
  obtain rfl : r404 = 0 := hw
  have hP := zo_K hP hk1
  have hPr := (zo_nil : va_P (dC, dI) vwCl [] H403)
  have hPc := hP.sub (ws' := [(mo, .inr (10, [.int 0, .ref mr, .int 1, .long (-8595057663196389536)]))]) [12] rfl
  have hDc := hD.sub (ws' := [(mo, .inr (10, [.int 0, .ref mr, .int 1, .long (-8595057663196389536)]))]) [12] (by decide) rfl
  have hKc := hK.sub (tys' := []) [] rfl
  have hFc := va_free (wc := [(mo, .inr (10, [.int 0, .ref mr, .int 1, .long (-8595057663196389536)]))]) hD hS hA [12] rfl
  refine va_callv (va_runV (As := [.int 0]) (rest := []) ⟨hx, hb, hml, hown, hts⟩ (cz_X8_add l dC dI ed H403.size mo mr 0 (-8595057663196389536) 0) (cwV 1 hts gX8_digest_X8_add rfl rfl rfl (by decide +kernel) ⟨Nat.le_of_ble_eq_true rfl, Nat.le_of_ble_eq_true rfl⟩) ⟨zb_blind, va_recv hK hP (ci := 10) (q0 := 12) rfl rfl, fun U hU hW => ⟨rfl, zb_mk hU hW hPr hPc hKc hDc hN hH hS hFc zx_nil⟩⟩ rfl rfl hl.1 rfl (lv_room (Nat.le_of_ble_eq_true rfl)) dX8_digest_112 ⟨Nat.le_of_ble_eq_true rfl, Nat.le_of_ble_eq_true rfl⟩) hS (fun q _ h => hFc q h) hFc (fun u t H405 locs ht hvm hw hB hz1 hk1 hS => ?_)
  obtain ⟨s1_407, hf407_0, hP1, hD1, hK1⟩ := hB
  obtain rfl : s1_407 = (-8192370527154352992) := hf407_0.trans (by first | rfl | decide +kernel)
  rw [ht] at hP1
  obtain ⟨hP, hD⟩ := va_join (wr := [(la0, .inl (cA0, 10, .inl fa0)), (la1, .inl (cA1, 10, .inl fa1)), (ta0, .inl (cB0, 5, .inl fb0)), (ta1, .inl (cB1, 5, .inl fb1)), (ta2, .inl (cB2, 5, .inl fb2)), (ta3, .inl (cB3, 5, .inl fb3)), (ta4, .inl (cB4, 5, .inl fb4)), (ta5, .inl (cB5, 5, .inl fb5)), (ta6, .inl (cB6, 5, .inl fb6)), (ta7, .inl (cB7, 5, .inl fb7)), (ta8, .inl (cB8, 5, .inl fb8)), (ta9, .inl (cB9, 5, .inl fb9))]) (w1 := [(mo, .inr (10, [.int 0, .ref mr, .int 1, .long (-8192370527154352992)]))]) hP hD [12] [0, 1, 2, 3, 4, 5, 6, 7, 8, 9, 10, 11] rfl rfl (by decide) (by decide) hk1 hFc hP1 hD1
  have hP : va_P (dC, dI) vwCl [(la0, .inl (cA0, 10, .inl fa0)), (la1, .inl (cA1, 10, .inl fa1)), (ta0, .inl (cB0, 5, .inl fb0)), (ta1, .inl (cB1, 5, .inl fb1)), (ta2, .inl (cB2, 5, .inl fb2)), (ta3, .inl (cB3, 5, .inl fb3)), (ta4, .inl (cB4, 5, .inl fb4)), (ta5, .inl (cB5, 5, .inl fb5)), (ta6, .inl (cB6, 5, .inl fb6)), (ta7, .inl (cB7, 5, .inl fb7)), (ta8, .inl (cB8, 5, .inl fb8)), (ta9, .inl (cB9, 5, .inl fb9)), (mo, .inr (10, [.int 0, .ref mr, .int 1, .long (-8192370527154352992)]))] H405 := hP
  have hD : va_D A [(la0, .inl (cA0, 10, .inl fa0)), (la1, .inl (cA1, 10, .inl fa1)), (ta0, .inl (cB0, 5, .inl fb0)), (ta1, .inl (cB1, 5, .inl fb1)), (ta2, .inl (cB2, 5, .inl fb2)), (ta3, .inl (cB3, 5, .inl fb3)), (ta4, .inl (cB4, 5, .inl fb4)), (ta5, .inl (cB5, 5, .inl fb5)), (ta6, .inl (cB6, 5, .inl fb6)), (ta7, .inl (cB7, 5, .inl fb7)), (ta8, .inl (cB8, 5, .inl fb8)), (ta9, .inl (cB9, 5, .inl fb9)), (mo, .inr (10, [.int 0, .ref mr, .int 1, .long (-8192370527154352992)]))] := hD
  refine lv_iinc (v := 2) (lv' := [(2, .int 2), (1, .int 6), (0, .ref mo)]) hx hb dX8_digest_115 hl (k := 0) rfl (by decide) (by decide) rfl (fun ls hl => ?_)
  refine lv_goto (tgt := 99) hx hb dX8_digest_118 (by decide) ?_
  refine lv_iload_n hx hb dX8_digest_99 rfl (lv_at hl 0 rfl) ?_
  refine lv_bipush (v := 6) hx hb dX8_digest_100 (by decide) ?_
  refine lv_icmp_ge (tgt := 121) hx hb dX8_digest_102 (by decide) (fun h => absurd h (by decide)) (fun _ => ?_)
  refine lv_aload_n hx hb dX8_digest_105 rfl (lv_at hl 2 rfl) ?_
  refine lv_aload_n hx hb dX8_digest_106 rfl (lv_at hl 2 rfl) ?_
  refine lv_iload_n hx hb dX8_digest_107 rfl (lv_at hl 1 rfl) ?_
  refine lv_iload_n hx hb dX8_digest_108 rfl (lv_at hl 0 rfl) ?_
  have hPr := (show va_P (dC, dI) vwCl [(mo, .inr (10, [.int 0, .ref mr, .int 1, .long (-8192370527154352992)])), (mr, .inr (9, [.ref ll, .ref lt, .ref lp, .int 0, .int 0, .int 0, .int 0, .int 0, .int 0, .int 0, .int (-1), .int 0, .int 0, .int 0])), (lt, .inr (1, [.int 10, .ref ota, .int 10])), (ota, .inl (cOt, 10, .inr (.inr (.inr (.inr fot))))), (ta6, .inl (cB6, 5, .inl fb6))] H405 from (zo_cons ((hP) 12 _ rfl) (zo_cons (((zo_R hR0 hS hAr)) 0 _ rfl) (zo_cons (((zo_R hR0 hS hAr)) 2 _ rfl) (zo_cons (((zo_R hR0 hS hAr)) 5 _ rfl) (zo_cons ((hP) 8 _ rfl) (zo_nil : va_P (dC, dI) vwCl [] H405)))))))
  have hPc := hP.sub (ws' := []) [] rfl
  have hDc := hD.sub (ws' := []) [] (by decide) rfl
  have hKc := hK.sub (tys' := [(cOt, .object "java/lang/Object"), (cB6, .int)]) [1, 10] rfl
  have hFc := va_free (wc := []) hD hS hA [] rfl
  refine va_calli (va_runV (As := [.int 6, .int 2]) (rest := [.ref mo]) ⟨hx, hb, hml, hown, hts⟩ (cz_QofThingNow_6_2 l dC dI ed H405.size mo mr 0 (-8192370527154352992) ll lt lp ota cOt fot ta6 cB6 fb6 hot6 hb6_2) (cwV 2 hts gX8_digest_X8_ofThingNow rfl rfl rfl (by decide +kernel) ⟨Nat.le_of_ble_eq_true rfl, Nat.le_of_ble_eq_true rfl⟩) ⟨zb_blind, va_recv hK hP (ci := 10) (q0 := 12) rfl rfl, fun U hU hW => ⟨rfl, zb_mk hU hW hPr hPc hKc hDc hN hH hS hFc zx_e⟩⟩ rfl rfl hl.1 rfl (lv_room (Nat.le_of_ble_eq_true rfl)) dX8_digest_109 ⟨Nat.le_of_ble_eq_true rfl, Nat.le_of_ble_eq_true rfl⟩) hS (fun q _ h => hFc q h) hFc (fun r409 u t H408 locs ht hvm hw hB hz1 hk1 hS => ?_)
  obtain rfl : r409 = 0 := hw
  have hP := zo_K hP hk1
  have hPr := (zo_nil : va_P (dC, dI) vwCl [] H408)
  have hPc := hP.sub (ws' := [(mo, .inr (10, [.int 0, .ref mr, .int 1, .long (-8192370527154352992)]))]) [12] rfl
  have hDc := hD.sub (ws' := [(mo, .inr (10, [.int 0, .ref mr, .int 1, .long (-8192370527154352992)]))]) [12] (by decide) rfl
  have hKc := hK.sub (tys' := []) [] rfl
  have hFc := va_free (wc := [(mo, .inr (10, [.int 0, .ref mr, .int 1, .long (-8192370527154352992)]))]) hD hS hA [12] rfl
  refine va_callv (va_runV (As := [.int 0]) (rest := []) ⟨hx, hb, hml, hown, hts⟩ (cz_X8_add l dC dI ed H408.size mo mr 0 (-8192370527154352992) 0) (cwV 1 hts gX8_digest_X8_add rfl rfl rfl (by decide +kernel) ⟨Nat.le_of_ble_eq_true rfl, Nat.le_of_ble_eq_true rfl⟩) ⟨zb_blind, va_recv hK hP (ci := 10) (q0 := 12) rfl rfl, fun U hU hW => ⟨rfl, zb_mk hU hW hPr hPc hKc hDc hN hH hS hFc zx_nil⟩⟩ rfl rfl hl.1 rfl (lv_room (Nat.le_of_ble_eq_true rfl)) dX8_digest_112 ⟨Nat.le_of_ble_eq_true rfl, Nat.le_of_ble_eq_true rfl⟩) hS (fun q _ h => hFc q h) hFc (fun u t H410 locs ht hvm hw hB hz1 hk1 hS => ?_)
  obtain ⟨s1_412, hf412_0, hP1, hD1, hK1⟩ := hB
  obtain rfl : s1_412 = 4290930690148779872 := hf412_0.trans (by first | rfl | decide +kernel)
  rw [ht] at hP1
  obtain ⟨hP, hD⟩ := va_join (wr := [(la0, .inl (cA0, 10, .inl fa0)), (la1, .inl (cA1, 10, .inl fa1)), (ta0, .inl (cB0, 5, .inl fb0)), (ta1, .inl (cB1, 5, .inl fb1)), (ta2, .inl (cB2, 5, .inl fb2)), (ta3, .inl (cB3, 5, .inl fb3)), (ta4, .inl (cB4, 5, .inl fb4)), (ta5, .inl (cB5, 5, .inl fb5)), (ta6, .inl (cB6, 5, .inl fb6)), (ta7, .inl (cB7, 5, .inl fb7)), (ta8, .inl (cB8, 5, .inl fb8)), (ta9, .inl (cB9, 5, .inl fb9))]) (w1 := [(mo, .inr (10, [.int 0, .ref mr, .int 1, .long 4290930690148779872]))]) hP hD [12] [0, 1, 2, 3, 4, 5, 6, 7, 8, 9, 10, 11] rfl rfl (by decide) (by decide) hk1 hFc hP1 hD1
  have hP : va_P (dC, dI) vwCl [(la0, .inl (cA0, 10, .inl fa0)), (la1, .inl (cA1, 10, .inl fa1)), (ta0, .inl (cB0, 5, .inl fb0)), (ta1, .inl (cB1, 5, .inl fb1)), (ta2, .inl (cB2, 5, .inl fb2)), (ta3, .inl (cB3, 5, .inl fb3)), (ta4, .inl (cB4, 5, .inl fb4)), (ta5, .inl (cB5, 5, .inl fb5)), (ta6, .inl (cB6, 5, .inl fb6)), (ta7, .inl (cB7, 5, .inl fb7)), (ta8, .inl (cB8, 5, .inl fb8)), (ta9, .inl (cB9, 5, .inl fb9)), (mo, .inr (10, [.int 0, .ref mr, .int 1, .long 4290930690148779872]))] H410 := hP
  have hD : va_D A [(la0, .inl (cA0, 10, .inl fa0)), (la1, .inl (cA1, 10, .inl fa1)), (ta0, .inl (cB0, 5, .inl fb0)), (ta1, .inl (cB1, 5, .inl fb1)), (ta2, .inl (cB2, 5, .inl fb2)), (ta3, .inl (cB3, 5, .inl fb3)), (ta4, .inl (cB4, 5, .inl fb4)), (ta5, .inl (cB5, 5, .inl fb5)), (ta6, .inl (cB6, 5, .inl fb6)), (ta7, .inl (cB7, 5, .inl fb7)), (ta8, .inl (cB8, 5, .inl fb8)), (ta9, .inl (cB9, 5, .inl fb9)), (mo, .inr (10, [.int 0, .ref mr, .int 1, .long 4290930690148779872]))] := hD
  refine lv_iinc (v := 3) (lv' := [(2, .int 3), (1, .int 6), (0, .ref mo)]) hx hb dX8_digest_115 hl (k := 0) rfl (by decide) (by decide) rfl (fun ls hl => ?_)
  refine lv_goto (tgt := 99) hx hb dX8_digest_118 (by decide) ?_
  refine lv_iload_n hx hb dX8_digest_99 rfl (lv_at hl 0 rfl) ?_
  refine lv_bipush (v := 6) hx hb dX8_digest_100 (by decide) ?_
  refine lv_icmp_ge (tgt := 121) hx hb dX8_digest_102 (by decide) (fun h => absurd h (by decide)) (fun _ => ?_)
  refine lv_aload_n hx hb dX8_digest_105 rfl (lv_at hl 2 rfl) ?_
  refine lv_aload_n hx hb dX8_digest_106 rfl (lv_at hl 2 rfl) ?_
  refine lv_iload_n hx hb dX8_digest_107 rfl (lv_at hl 1 rfl) ?_
  refine lv_iload_n hx hb dX8_digest_108 rfl (lv_at hl 0 rfl) ?_
  have hPr := (show va_P (dC, dI) vwCl [(mo, .inr (10, [.int 0, .ref mr, .int 1, .long 4290930690148779872])), (mr, .inr (9, [.ref ll, .ref lt, .ref lp, .int 0, .int 0, .int 0, .int 0, .int 0, .int 0, .int 0, .int (-1), .int 0, .int 0, .int 0])), (lt, .inr (1, [.int 10, .ref ota, .int 10])), (ota, .inl (cOt, 10, .inr (.inr (.inr (.inr fot))))), (ta6, .inl (cB6, 5, .inl fb6))] H410 from (zo_cons ((hP) 12 _ rfl) (zo_cons (((zo_R hR0 hS hAr)) 0 _ rfl) (zo_cons (((zo_R hR0 hS hAr)) 2 _ rfl) (zo_cons (((zo_R hR0 hS hAr)) 5 _ rfl) (zo_cons ((hP) 8 _ rfl) (zo_nil : va_P (dC, dI) vwCl [] H410)))))))
  have hPc := hP.sub (ws' := []) [] rfl
  have hDc := hD.sub (ws' := []) [] (by decide) rfl
  have hKc := hK.sub (tys' := [(cOt, .object "java/lang/Object"), (cB6, .int)]) [1, 10] rfl
  have hFc := va_free (wc := []) hD hS hA [] rfl
  refine va_calli (va_runV (As := [.int 6, .int 3]) (rest := [.ref mo]) ⟨hx, hb, hml, hown, hts⟩ (cz_QofThingNow_6_3 l dC dI ed H410.size mo mr 0 4290930690148779872 ll lt lp ota cOt fot ta6 cB6 fb6 hot6 hb6_3) (cwV 2 hts gX8_digest_X8_ofThingNow rfl rfl rfl (by decide +kernel) ⟨Nat.le_of_ble_eq_true rfl, Nat.le_of_ble_eq_true rfl⟩) ⟨zb_blind, va_recv hK hP (ci := 10) (q0 := 12) rfl rfl, fun U hU hW => ⟨rfl, zb_mk hU hW hPr hPc hKc hDc hN hH hS hFc zx_e⟩⟩ rfl rfl hl.1 rfl (lv_room (Nat.le_of_ble_eq_true rfl)) dX8_digest_109 ⟨Nat.le_of_ble_eq_true rfl, Nat.le_of_ble_eq_true rfl⟩) hS (fun q _ h => hFc q h) hFc (fun r414 u t H413 locs ht hvm hw hB hz1 hk1 hS => ?_)
  obtain rfl : r414 = 0 := hw
  have hP := zo_K hP hk1
  have hPr := (zo_nil : va_P (dC, dI) vwCl [] H413)
  have hPc := hP.sub (ws' := [(mo, .inr (10, [.int 0, .ref mr, .int 1, .long 4290930690148779872]))]) [12] rfl
  have hDc := hD.sub (ws' := [(mo, .inr (10, [.int 0, .ref mr, .int 1, .long 4290930690148779872]))]) [12] (by decide) rfl
  have hKc := hK.sub (tys' := []) [] rfl
  have hFc := va_free (wc := [(mo, .inr (10, [.int 0, .ref mr, .int 1, .long 4290930690148779872]))]) hD hS hA [12] rfl
  refine va_callv (va_runV (As := [.int 0]) (rest := []) ⟨hx, hb, hml, hown, hts⟩ (cz_X8_add l dC dI ed H413.size mo mr 0 4290930690148779872 0) (cwV 1 hts gX8_digest_X8_add rfl rfl rfl (by decide +kernel) ⟨Nat.le_of_ble_eq_true rfl, Nat.le_of_ble_eq_true rfl⟩) ⟨zb_blind, va_recv hK hP (ci := 10) (q0 := 12) rfl rfl, fun U hU hW => ⟨rfl, zb_mk hU hW hPr hPc hKc hDc hN hH hS hFc zx_nil⟩⟩ rfl rfl hl.1 rfl (lv_room (Nat.le_of_ble_eq_true rfl)) dX8_digest_112 ⟨Nat.le_of_ble_eq_true rfl, Nat.le_of_ble_eq_true rfl⟩) hS (fun q _ h => hFc q h) hFc (fun u t H415 locs ht hvm hw hB hz1 hk1 hS => ?_)
  obtain ⟨s1_417, hf417_0, hP1, hD1, hK1⟩ := hB
  obtain rfl : s1_417 = 3891642878645314720 := hf417_0.trans (by first | rfl | decide +kernel)
  rw [ht] at hP1
  obtain ⟨hP, hD⟩ := va_join (wr := [(la0, .inl (cA0, 10, .inl fa0)), (la1, .inl (cA1, 10, .inl fa1)), (ta0, .inl (cB0, 5, .inl fb0)), (ta1, .inl (cB1, 5, .inl fb1)), (ta2, .inl (cB2, 5, .inl fb2)), (ta3, .inl (cB3, 5, .inl fb3)), (ta4, .inl (cB4, 5, .inl fb4)), (ta5, .inl (cB5, 5, .inl fb5)), (ta6, .inl (cB6, 5, .inl fb6)), (ta7, .inl (cB7, 5, .inl fb7)), (ta8, .inl (cB8, 5, .inl fb8)), (ta9, .inl (cB9, 5, .inl fb9))]) (w1 := [(mo, .inr (10, [.int 0, .ref mr, .int 1, .long 3891642878645314720]))]) hP hD [12] [0, 1, 2, 3, 4, 5, 6, 7, 8, 9, 10, 11] rfl rfl (by decide) (by decide) hk1 hFc hP1 hD1
  have hP : va_P (dC, dI) vwCl [(la0, .inl (cA0, 10, .inl fa0)), (la1, .inl (cA1, 10, .inl fa1)), (ta0, .inl (cB0, 5, .inl fb0)), (ta1, .inl (cB1, 5, .inl fb1)), (ta2, .inl (cB2, 5, .inl fb2)), (ta3, .inl (cB3, 5, .inl fb3)), (ta4, .inl (cB4, 5, .inl fb4)), (ta5, .inl (cB5, 5, .inl fb5)), (ta6, .inl (cB6, 5, .inl fb6)), (ta7, .inl (cB7, 5, .inl fb7)), (ta8, .inl (cB8, 5, .inl fb8)), (ta9, .inl (cB9, 5, .inl fb9)), (mo, .inr (10, [.int 0, .ref mr, .int 1, .long 3891642878645314720]))] H415 := hP
  have hD : va_D A [(la0, .inl (cA0, 10, .inl fa0)), (la1, .inl (cA1, 10, .inl fa1)), (ta0, .inl (cB0, 5, .inl fb0)), (ta1, .inl (cB1, 5, .inl fb1)), (ta2, .inl (cB2, 5, .inl fb2)), (ta3, .inl (cB3, 5, .inl fb3)), (ta4, .inl (cB4, 5, .inl fb4)), (ta5, .inl (cB5, 5, .inl fb5)), (ta6, .inl (cB6, 5, .inl fb6)), (ta7, .inl (cB7, 5, .inl fb7)), (ta8, .inl (cB8, 5, .inl fb8)), (ta9, .inl (cB9, 5, .inl fb9)), (mo, .inr (10, [.int 0, .ref mr, .int 1, .long 3891642878645314720]))] := hD
  refine lv_iinc (v := 4) (lv' := [(2, .int 4), (1, .int 6), (0, .ref mo)]) hx hb dX8_digest_115 hl (k := 0) rfl (by decide) (by decide) rfl (fun ls hl => ?_)
  refine lv_goto (tgt := 99) hx hb dX8_digest_118 (by decide) ?_
  refine lv_iload_n hx hb dX8_digest_99 rfl (lv_at hl 0 rfl) ?_
  refine lv_bipush (v := 6) hx hb dX8_digest_100 (by decide) ?_
  refine lv_icmp_ge (tgt := 121) hx hb dX8_digest_102 (by decide) (fun h => absurd h (by decide)) (fun _ => ?_)
  refine lv_aload_n hx hb dX8_digest_105 rfl (lv_at hl 2 rfl) ?_
  refine lv_aload_n hx hb dX8_digest_106 rfl (lv_at hl 2 rfl) ?_
  refine lv_iload_n hx hb dX8_digest_107 rfl (lv_at hl 1 rfl) ?_
  refine lv_iload_n hx hb dX8_digest_108 rfl (lv_at hl 0 rfl) ?_
  have hPr := (show va_P (dC, dI) vwCl [(mo, .inr (10, [.int 0, .ref mr, .int 1, .long 3891642878645314720])), (mr, .inr (9, [.ref ll, .ref lt, .ref lp, .int 0, .int 0, .int 0, .int 0, .int 0, .int 0, .int 0, .int (-1), .int 0, .int 0, .int 0])), (lt, .inr (1, [.int 10, .ref ota, .int 10])), (ota, .inl (cOt, 10, .inr (.inr (.inr (.inr fot))))), (ta6, .inl (cB6, 5, .inl fb6))] H415 from (zo_cons ((hP) 12 _ rfl) (zo_cons (((zo_R hR0 hS hAr)) 0 _ rfl) (zo_cons (((zo_R hR0 hS hAr)) 2 _ rfl) (zo_cons (((zo_R hR0 hS hAr)) 5 _ rfl) (zo_cons ((hP) 8 _ rfl) (zo_nil : va_P (dC, dI) vwCl [] H415)))))))
  have hPc := hP.sub (ws' := []) [] rfl
  have hDc := hD.sub (ws' := []) [] (by decide) rfl
  have hKc := hK.sub (tys' := [(cOt, .object "java/lang/Object"), (cB6, .int)]) [1, 10] rfl
  have hFc := va_free (wc := []) hD hS hA [] rfl
  refine va_calli (va_runV (As := [.int 6, .int 4]) (rest := [.ref mo]) ⟨hx, hb, hml, hown, hts⟩ (cz_QofThingNow_6_4 l dC dI ed H415.size mo mr 0 3891642878645314720 ll lt lp ota cOt fot ta6 cB6 fb6 hot6 hb6_0 hb6_3) (cwV 2 hts gX8_digest_X8_ofThingNow rfl rfl rfl (by decide +kernel) ⟨Nat.le_of_ble_eq_true rfl, Nat.le_of_ble_eq_true rfl⟩) ⟨zb_blind, va_recv hK hP (ci := 10) (q0 := 12) rfl rfl, fun U hU hW => ⟨rfl, zb_mk hU hW hPr hPc hKc hDc hN hH hS hFc zx_e⟩⟩ rfl rfl hl.1 rfl (lv_room (Nat.le_of_ble_eq_true rfl)) dX8_digest_109 ⟨Nat.le_of_ble_eq_true rfl, Nat.le_of_ble_eq_true rfl⟩) hS (fun q _ h => hFc q h) hFc (fun r419 u t H418 locs ht hvm hw hB hz1 hk1 hS => ?_)
  obtain rfl : r419 = 1 := hw
  have hP := zo_K hP hk1
  have hPr := (zo_nil : va_P (dC, dI) vwCl [] H418)
  have hPc := hP.sub (ws' := [(mo, .inr (10, [.int 0, .ref mr, .int 1, .long 3891642878645314720]))]) [12] rfl
  have hDc := hD.sub (ws' := [(mo, .inr (10, [.int 0, .ref mr, .int 1, .long 3891642878645314720]))]) [12] (by decide) rfl
  have hKc := hK.sub (tys' := []) [] rfl
  have hFc := va_free (wc := [(mo, .inr (10, [.int 0, .ref mr, .int 1, .long 3891642878645314720]))]) hD hS hA [12] rfl
  refine va_callv (va_runV (As := [.int 1]) (rest := []) ⟨hx, hb, hml, hown, hts⟩ (cz_X8_add l dC dI ed H418.size mo mr 0 3891642878645314720 1) (cwV 1 hts gX8_digest_X8_add rfl rfl rfl (by decide +kernel) ⟨Nat.le_of_ble_eq_true rfl, Nat.le_of_ble_eq_true rfl⟩) ⟨zb_blind, va_recv hK hP (ci := 10) (q0 := 12) rfl rfl, fun U hU hW => ⟨rfl, zb_mk hU hW hPr hPc hKc hDc hN hH hS hFc zx_nil⟩⟩ rfl rfl hl.1 rfl (lv_room (Nat.le_of_ble_eq_true rfl)) dX8_digest_112 ⟨Nat.le_of_ble_eq_true rfl, Nat.le_of_ble_eq_true rfl⟩) hS (fun q _ h => hFc q h) hFc (fun u t H420 locs ht hvm hw hB hz1 hk1 hS => ?_)
  obtain ⟨s1_422, hf422_0, hP1, hD1, hK1⟩ := hB
  obtain rfl : s1_422 = (-8486279277962104991) := hf422_0.trans (by first | rfl | decide +kernel)
  rw [ht] at hP1
  obtain ⟨hP, hD⟩ := va_join (wr := [(la0, .inl (cA0, 10, .inl fa0)), (la1, .inl (cA1, 10, .inl fa1)), (ta0, .inl (cB0, 5, .inl fb0)), (ta1, .inl (cB1, 5, .inl fb1)), (ta2, .inl (cB2, 5, .inl fb2)), (ta3, .inl (cB3, 5, .inl fb3)), (ta4, .inl (cB4, 5, .inl fb4)), (ta5, .inl (cB5, 5, .inl fb5)), (ta6, .inl (cB6, 5, .inl fb6)), (ta7, .inl (cB7, 5, .inl fb7)), (ta8, .inl (cB8, 5, .inl fb8)), (ta9, .inl (cB9, 5, .inl fb9))]) (w1 := [(mo, .inr (10, [.int 0, .ref mr, .int 1, .long (-8486279277962104991)]))]) hP hD [12] [0, 1, 2, 3, 4, 5, 6, 7, 8, 9, 10, 11] rfl rfl (by decide) (by decide) hk1 hFc hP1 hD1
  have hP : va_P (dC, dI) vwCl [(la0, .inl (cA0, 10, .inl fa0)), (la1, .inl (cA1, 10, .inl fa1)), (ta0, .inl (cB0, 5, .inl fb0)), (ta1, .inl (cB1, 5, .inl fb1)), (ta2, .inl (cB2, 5, .inl fb2)), (ta3, .inl (cB3, 5, .inl fb3)), (ta4, .inl (cB4, 5, .inl fb4)), (ta5, .inl (cB5, 5, .inl fb5)), (ta6, .inl (cB6, 5, .inl fb6)), (ta7, .inl (cB7, 5, .inl fb7)), (ta8, .inl (cB8, 5, .inl fb8)), (ta9, .inl (cB9, 5, .inl fb9)), (mo, .inr (10, [.int 0, .ref mr, .int 1, .long (-8486279277962104991)]))] H420 := hP
  have hD : va_D A [(la0, .inl (cA0, 10, .inl fa0)), (la1, .inl (cA1, 10, .inl fa1)), (ta0, .inl (cB0, 5, .inl fb0)), (ta1, .inl (cB1, 5, .inl fb1)), (ta2, .inl (cB2, 5, .inl fb2)), (ta3, .inl (cB3, 5, .inl fb3)), (ta4, .inl (cB4, 5, .inl fb4)), (ta5, .inl (cB5, 5, .inl fb5)), (ta6, .inl (cB6, 5, .inl fb6)), (ta7, .inl (cB7, 5, .inl fb7)), (ta8, .inl (cB8, 5, .inl fb8)), (ta9, .inl (cB9, 5, .inl fb9)), (mo, .inr (10, [.int 0, .ref mr, .int 1, .long (-8486279277962104991)]))] := hD
  refine lv_iinc (v := 5) (lv' := [(2, .int 5), (1, .int 6), (0, .ref mo)]) hx hb dX8_digest_115 hl (k := 0) rfl (by decide) (by decide) rfl (fun ls hl => ?_)
  refine lv_goto (tgt := 99) hx hb dX8_digest_118 (by decide) ?_
  refine lv_iload_n hx hb dX8_digest_99 rfl (lv_at hl 0 rfl) ?_
  refine lv_bipush (v := 6) hx hb dX8_digest_100 (by decide) ?_
  refine lv_icmp_ge (tgt := 121) hx hb dX8_digest_102 (by decide) (fun h => absurd h (by decide)) (fun _ => ?_)
  refine lv_aload_n hx hb dX8_digest_105 rfl (lv_at hl 2 rfl) ?_
  refine lv_aload_n hx hb dX8_digest_106 rfl (lv_at hl 2 rfl) ?_
  refine lv_iload_n hx hb dX8_digest_107 rfl (lv_at hl 1 rfl) ?_
  refine lv_iload_n hx hb dX8_digest_108 rfl (lv_at hl 0 rfl) ?_
  have hPr := (show va_P (dC, dI) vwCl [(mo, .inr (10, [.int 0, .ref mr, .int 1, .long (-8486279277962104991)])), (mr, .inr (9, [.ref ll, .ref lt, .ref lp, .int 0, .int 0, .int 0, .int 0, .int 0, .int 0, .int 0, .int (-1), .int 0, .int 0, .int 0])), (ll, .inr (1, [.int 2, .ref ola, .int 2])), (ola, .inl (cOl, 10, .inr (.inr (.inr (.inr fol))))), (la0, .inl (cA0, 10, .inl fa0)), (la1, .inl (cA1, 10, .inl fa1))] H420 from (zo_cons ((hP) 12 _ rfl) (zo_cons (((zo_R hR0 hS hAr)) 0 _ rfl) (zo_cons (((zo_R hR0 hS hAr)) 1 _ rfl) (zo_cons (((zo_R hR0 hS hAr)) 4 _ rfl) (zo_cons ((hP) 0 _ rfl) (zo_cons ((hP) 1 _ rfl) (zo_nil : va_P (dC, dI) vwCl [] H420))))))))
  have hPc := hP.sub (ws' := []) [] rfl
  have hDc := hD.sub (ws' := []) [] (by decide) rfl
  have hKc := hK.sub (tys' := [(cOl, .object "java/lang/Object"), (cA0, .int), (cA1, .int)]) [0, 2, 3] rfl
  have hFc := va_free (wc := []) hD hS hA [] rfl
  refine va_calli (va_runV (As := [.int 6, .int 5]) (rest := [.ref mo]) ⟨hx, hb, hml, hown, hts⟩ (cz_QofThingNow_6_5 l dC dI ed H420.size mo mr 0 (-8486279277962104991) ll lt lp ola cOl fol la0 la1 cA0 fa0 cA1 fa1 hol0 hol1 ha0_0 ha1_0) (cwV 2 hts gX8_digest_X8_ofThingNow rfl rfl rfl (by decide +kernel) ⟨Nat.le_of_ble_eq_true rfl, Nat.le_of_ble_eq_true rfl⟩) ⟨zb_blind, va_recv hK hP (ci := 10) (q0 := 12) rfl rfl, fun U hU hW => ⟨rfl, zb_mk hU hW hPr hPc hKc hDc hN hH hS hFc zx_e⟩⟩ rfl rfl hl.1 rfl (lv_room (Nat.le_of_ble_eq_true rfl)) dX8_digest_109 ⟨Nat.le_of_ble_eq_true rfl, Nat.le_of_ble_eq_true rfl⟩) hS (fun q _ h => hFc q h) hFc (fun r424 u t H423 locs ht hvm hw hB hz1 hk1 hS => ?_)
  obtain rfl : r424 = 0 := hw
  have hP := zo_K hP hk1
  have hPr := (zo_nil : va_P (dC, dI) vwCl [] H423)
  have hPc := hP.sub (ws' := [(mo, .inr (10, [.int 0, .ref mr, .int 1, .long (-8486279277962104991)]))]) [12] rfl
  have hDc := hD.sub (ws' := [(mo, .inr (10, [.int 0, .ref mr, .int 1, .long (-8486279277962104991)]))]) [12] (by decide) rfl
  have hKc := hK.sub (tys' := []) [] rfl
  have hFc := va_free (wc := [(mo, .inr (10, [.int 0, .ref mr, .int 1, .long (-8486279277962104991)]))]) hD hS hA [12] rfl
  refine va_callv (va_runV (As := [.int 0]) (rest := []) ⟨hx, hb, hml, hown, hts⟩ (cz_X8_add l dC dI ed H423.size mo mr 0 (-8486279277962104991) 0) (cwV 1 hts gX8_digest_X8_add rfl rfl rfl (by decide +kernel) ⟨Nat.le_of_ble_eq_true rfl, Nat.le_of_ble_eq_true rfl⟩) ⟨zb_blind, va_recv hK hP (ci := 10) (q0 := 12) rfl rfl, fun U hU hW => ⟨rfl, zb_mk hU hW hPr hPc hKc hDc hN hH hS hFc zx_nil⟩⟩ rfl rfl hl.1 rfl (lv_room (Nat.le_of_ble_eq_true rfl)) dX8_digest_112 ⟨Nat.le_of_ble_eq_true rfl, Nat.le_of_ble_eq_true rfl⟩) hS (fun q _ h => hFc q h) hFc (fun u t H425 locs ht hvm hw hB hz1 hk1 hS => ?_)
  obtain ⟨s1_427, hf427_0, hP1, hD1, hK1⟩ := hB
  obtain rfl : s1_427 = (-4820240584891532097) := hf427_0.trans (by first | rfl | decide +kernel)
  rw [ht] at hP1
  obtain ⟨hP, hD⟩ := va_join (wr := [(la0, .inl (cA0, 10, .inl fa0)), (la1, .inl (cA1, 10, .inl fa1)), (ta0, .inl (cB0, 5, .inl fb0)), (ta1, .inl (cB1, 5, .inl fb1)), (ta2, .inl (cB2, 5, .inl fb2)), (ta3, .inl (cB3, 5, .inl fb3)), (ta4, .inl (cB4, 5, .inl fb4)), (ta5, .inl (cB5, 5, .inl fb5)), (ta6, .inl (cB6, 5, .inl fb6)), (ta7, .inl (cB7, 5, .inl fb7)), (ta8, .inl (cB8, 5, .inl fb8)), (ta9, .inl (cB9, 5, .inl fb9))]) (w1 := [(mo, .inr (10, [.int 0, .ref mr, .int 1, .long (-4820240584891532097)]))]) hP hD [12] [0, 1, 2, 3, 4, 5, 6, 7, 8, 9, 10, 11] rfl rfl (by decide) (by decide) hk1 hFc hP1 hD1
  have hP : va_P (dC, dI) vwCl [(la0, .inl (cA0, 10, .inl fa0)), (la1, .inl (cA1, 10, .inl fa1)), (ta0, .inl (cB0, 5, .inl fb0)), (ta1, .inl (cB1, 5, .inl fb1)), (ta2, .inl (cB2, 5, .inl fb2)), (ta3, .inl (cB3, 5, .inl fb3)), (ta4, .inl (cB4, 5, .inl fb4)), (ta5, .inl (cB5, 5, .inl fb5)), (ta6, .inl (cB6, 5, .inl fb6)), (ta7, .inl (cB7, 5, .inl fb7)), (ta8, .inl (cB8, 5, .inl fb8)), (ta9, .inl (cB9, 5, .inl fb9)), (mo, .inr (10, [.int 0, .ref mr, .int 1, .long (-4820240584891532097)]))] H425 := hP
  have hD : va_D A [(la0, .inl (cA0, 10, .inl fa0)), (la1, .inl (cA1, 10, .inl fa1)), (ta0, .inl (cB0, 5, .inl fb0)), (ta1, .inl (cB1, 5, .inl fb1)), (ta2, .inl (cB2, 5, .inl fb2)), (ta3, .inl (cB3, 5, .inl fb3)), (ta4, .inl (cB4, 5, .inl fb4)), (ta5, .inl (cB5, 5, .inl fb5)), (ta6, .inl (cB6, 5, .inl fb6)), (ta7, .inl (cB7, 5, .inl fb7)), (ta8, .inl (cB8, 5, .inl fb8)), (ta9, .inl (cB9, 5, .inl fb9)), (mo, .inr (10, [.int 0, .ref mr, .int 1, .long (-4820240584891532097)]))] := hD
  refine lv_iinc (v := 6) (lv' := [(2, .int 6), (1, .int 6), (0, .ref mo)]) hx hb dX8_digest_115 hl (k := 0) rfl (by decide) (by decide) rfl (fun ls hl => ?_)
  refine lv_goto (tgt := 99) hx hb dX8_digest_118 (by decide) ?_
  refine lv_iload_n hx hb dX8_digest_99 rfl (lv_at hl 0 rfl) ?_
  refine lv_bipush (v := 6) hx hb dX8_digest_100 (by decide) ?_
  refine lv_icmp_ge (tgt := 121) hx hb dX8_digest_102 (by decide) (fun _ => ?_) (fun h => absurd h (by decide))
  refine lv_iinc (v := 7) (lv' := [(1, .int 7), (2, .int 6), (0, .ref mo)]) hx hb dX8_digest_121 hl (k := 1) rfl (by decide) (by decide) rfl (fun ls hl => ?_)
  refine lv_goto (tgt := 83) hx hb dX8_digest_124 (by decide) ?_
  refine lv_iload_n hx hb dX8_digest_83 rfl (lv_at hl 0 rfl) ?_
  refine lv_aload_n hx hb dX8_digest_84 rfl (lv_at hl 2 rfl) ?_
  refine va_get (D := (dC, dI)) (ci := 10) (v := .ref mr) (C := RX8) (T := TX8) (N := 4) hx hb hts zi_X8_digest_X8 hown hK hP 12 rfl rfl 1 (by decide) (hts (.fieldLink RX8 10 "LockRoomsModel" "room" "LLockRoomsModel$Room;") (by decide +kernel)) (fun _ h9 => h9) rfl dX8_digest_85 ?_
  refine va_getN (D := (dC, dI)) (ci := 9) (v := .ref lt) (C := RX7) (T := TX7) (N := 14) hx hb hts zi_X8_digest_X7 hown hK (zo_R hR0 hS hAr) 0 rfl rfl 1 (by decide) (va_Nw.use rfl (hN.1 ("LockRoomsModel", 38, "LockRoomsModel$Room", "things", "Ljava/util/ArrayList;", "LockRoomsModel") (List.mem_of_getElem? (i := 2) rfl))) (fun _ h9 => h9) rfl dX8_digest_88 ?_
  have hPr := ((zo_R hR0 hS hAr)).sub (ws' := [(lt, .inr (1, [.int 10, .ref ota, .int 10]))]) [2] rfl
  have hPc := hP.sub (ws' := []) [] rfl
  have hDc := hD.sub (ws' := []) [] (by decide) rfl
  have hKc := hK.sub (tys' := []) [] rfl
  have hFc := va_free (wc := []) hD hS hA [] rfl
  refine va_calli (va_runV (As := []) (rest := [.int 7]) ⟨hx, hb, hml, hown, hts⟩ (cz_Qsize l dC dI ed H425.size lt 10 ota 10) (cwV 0 hts gX8_digest_Jx4a65c_size_8abf5 rfl rfl rfl (by decide +kernel) ⟨Nat.le_of_ble_eq_true rfl, Nat.le_of_ble_eq_true rfl⟩) ⟨zb_blind, va_recv hK (zo_R hR0 hS hAr) (ci := 1) (q0 := 2) rfl rfl, fun U hU hW => ⟨rfl, zb_mk hU hW hPr hPc hKc hDc hN hH hS hFc zx_e⟩⟩ rfl rfl hl.1 rfl (lv_room (Nat.le_of_ble_eq_true rfl)) dX8_digest_91 ⟨Nat.le_of_ble_eq_true rfl, Nat.le_of_ble_eq_true rfl⟩) hS (fun q _ h => hFc q h) hFc (fun r429 u t H428 locs ht hvm hw hB hz1 hk1 hS => ?_)
  obtain rfl : r429 = 10 := hw.trans (by decide +kernel)
  have hP := zo_K hP hk1
  refine lv_icmp_ge (tgt := 127) hx hb dX8_digest_94 (by decide) (fun h => absurd h (by decide)) (fun _ => ?_)
  refine lv_iconst (v := 0) hx hb dX8_digest_97 (by decide) ?_
  refine lv_istore_n (lv' := [(2, .int 0), (1, .int 7), (0, .ref mo)]) hx hb dX8_digest_98 rfl hl (by decide) rfl (fun ls hl => ?_)
  refine lv_iload_n hx hb dX8_digest_99 rfl (lv_at hl 0 rfl) ?_
  refine lv_bipush (v := 6) hx hb dX8_digest_100 (by decide) ?_
  refine lv_icmp_ge (tgt := 121) hx hb dX8_digest_102 (by decide) (fun h => absurd h (by decide)) (fun _ => ?_)
  refine lv_aload_n hx hb dX8_digest_105 rfl (lv_at hl 2 rfl) ?_
  refine lv_aload_n hx hb dX8_digest_106 rfl (lv_at hl 2 rfl) ?_
  refine lv_iload_n hx hb dX8_digest_107 rfl (lv_at hl 1 rfl) ?_
  refine lv_iload_n hx hb dX8_digest_108 rfl (lv_at hl 0 rfl) ?_
  have hPr := (show va_P (dC, dI) vwCl [(mo, .inr (10, [.int 0, .ref mr, .int 1, .long (-4820240584891532097)])), (mr, .inr (9, [.ref ll, .ref lt, .ref lp, .int 0, .int 0, .int 0, .int 0, .int 0, .int 0, .int 0, .int (-1), .int 0, .int 0, .int 0])), (lt, .inr (1, [.int 10, .ref ota, .int 10])), (ota, .inl (cOt, 10, .inr (.inr (.inr (.inr fot))))), (ta7, .inl (cB7, 5, .inl fb7))] H428 from (zo_cons ((hP) 12 _ rfl) (zo_cons (((zo_R hR0 hS hAr)) 0 _ rfl) (zo_cons (((zo_R hR0 hS hAr)) 2 _ rfl) (zo_cons (((zo_R hR0 hS hAr)) 5 _ rfl) (zo_cons ((hP) 9 _ rfl) (zo_nil : va_P (dC, dI) vwCl [] H428)))))))
  have hPc := hP.sub (ws' := []) [] rfl
  have hDc := hD.sub (ws' := []) [] (by decide) rfl
  have hKc := hK.sub (tys' := [(cOt, .object "java/lang/Object"), (cB7, .int)]) [1, 11] rfl
  have hFc := va_free (wc := []) hD hS hA [] rfl
  refine va_calli (va_runV (As := [.int 7, .int 0]) (rest := [.ref mo]) ⟨hx, hb, hml, hown, hts⟩ (cz_QofThingNow_7_0 l dC dI ed H428.size mo mr 0 (-4820240584891532097) ll lt lp ota cOt fot ta7 cB7 fb7 hot7 hb7_0) (cwV 2 hts gX8_digest_X8_ofThingNow rfl rfl rfl (by decide +kernel) ⟨Nat.le_of_ble_eq_true rfl, Nat.le_of_ble_eq_true rfl⟩) ⟨zb_blind, va_recv hK hP (ci := 10) (q0 := 12) rfl rfl, fun U hU hW => ⟨rfl, zb_mk hU hW hPr hPc hKc hDc hN hH hS hFc zx_e⟩⟩ rfl rfl hl.1 rfl (lv_room (Nat.le_of_ble_eq_true rfl)) dX8_digest_109 ⟨Nat.le_of_ble_eq_true rfl, Nat.le_of_ble_eq_true rfl⟩) hS (fun q _ h => hFc q h) hFc (fun r431 u t H430 locs ht hvm hw hB hz1 hk1 hS => ?_)
  obtain rfl : r431 = (-1) := hw
  have hP := zo_K hP hk1
  have hPr := (zo_nil : va_P (dC, dI) vwCl [] H430)
  have hPc := hP.sub (ws' := [(mo, .inr (10, [.int 0, .ref mr, .int 1, .long (-4820240584891532097)]))]) [12] rfl
  have hDc := hD.sub (ws' := [(mo, .inr (10, [.int 0, .ref mr, .int 1, .long (-4820240584891532097)]))]) [12] (by decide) rfl
  have hKc := hK.sub (tys' := []) [] rfl
  have hFc := va_free (wc := [(mo, .inr (10, [.int 0, .ref mr, .int 1, .long (-4820240584891532097)]))]) hD hS hA [12] rfl
  refine va_callv (va_runV (As := [.int (-1)]) (rest := []) ⟨hx, hb, hml, hown, hts⟩ (cz_X8_add l dC dI ed H430.size mo mr 0 (-4820240584891532097) (-1)) (cwV 1 hts gX8_digest_X8_add rfl rfl rfl (by decide +kernel) ⟨Nat.le_of_ble_eq_true rfl, Nat.le_of_ble_eq_true rfl⟩) ⟨zb_blind, va_recv hK hP (ci := 10) (q0 := 12) rfl rfl, fun U hU hW => ⟨rfl, zb_mk hU hW hPr hPc hKc hDc hN hH hS hFc zx_nil⟩⟩ rfl rfl hl.1 rfl (lv_room (Nat.le_of_ble_eq_true rfl)) dX8_digest_112 ⟨Nat.le_of_ble_eq_true rfl, Nat.le_of_ble_eq_true rfl⟩) hS (fun q _ h => hFc q h) hFc (fun u t H432 locs ht hvm hw hB hz1 hk1 hS => ?_)
  obtain ⟨s1_434, hf434_0, hP1, hD1, hK1⟩ := hB
  obtain rfl : s1_434 = (-1853505541961082080) := hf434_0.trans (by first | rfl | decide +kernel)
  rw [ht] at hP1
  obtain ⟨hP, hD⟩ := va_join (wr := [(la0, .inl (cA0, 10, .inl fa0)), (la1, .inl (cA1, 10, .inl fa1)), (ta0, .inl (cB0, 5, .inl fb0)), (ta1, .inl (cB1, 5, .inl fb1)), (ta2, .inl (cB2, 5, .inl fb2)), (ta3, .inl (cB3, 5, .inl fb3)), (ta4, .inl (cB4, 5, .inl fb4)), (ta5, .inl (cB5, 5, .inl fb5)), (ta6, .inl (cB6, 5, .inl fb6)), (ta7, .inl (cB7, 5, .inl fb7)), (ta8, .inl (cB8, 5, .inl fb8)), (ta9, .inl (cB9, 5, .inl fb9))]) (w1 := [(mo, .inr (10, [.int 0, .ref mr, .int 1, .long (-1853505541961082080)]))]) hP hD [12] [0, 1, 2, 3, 4, 5, 6, 7, 8, 9, 10, 11] rfl rfl (by decide) (by decide) hk1 hFc hP1 hD1
  have hP : va_P (dC, dI) vwCl [(la0, .inl (cA0, 10, .inl fa0)), (la1, .inl (cA1, 10, .inl fa1)), (ta0, .inl (cB0, 5, .inl fb0)), (ta1, .inl (cB1, 5, .inl fb1)), (ta2, .inl (cB2, 5, .inl fb2)), (ta3, .inl (cB3, 5, .inl fb3)), (ta4, .inl (cB4, 5, .inl fb4)), (ta5, .inl (cB5, 5, .inl fb5)), (ta6, .inl (cB6, 5, .inl fb6)), (ta7, .inl (cB7, 5, .inl fb7)), (ta8, .inl (cB8, 5, .inl fb8)), (ta9, .inl (cB9, 5, .inl fb9)), (mo, .inr (10, [.int 0, .ref mr, .int 1, .long (-1853505541961082080)]))] H432 := hP
  have hD : va_D A [(la0, .inl (cA0, 10, .inl fa0)), (la1, .inl (cA1, 10, .inl fa1)), (ta0, .inl (cB0, 5, .inl fb0)), (ta1, .inl (cB1, 5, .inl fb1)), (ta2, .inl (cB2, 5, .inl fb2)), (ta3, .inl (cB3, 5, .inl fb3)), (ta4, .inl (cB4, 5, .inl fb4)), (ta5, .inl (cB5, 5, .inl fb5)), (ta6, .inl (cB6, 5, .inl fb6)), (ta7, .inl (cB7, 5, .inl fb7)), (ta8, .inl (cB8, 5, .inl fb8)), (ta9, .inl (cB9, 5, .inl fb9)), (mo, .inr (10, [.int 0, .ref mr, .int 1, .long (-1853505541961082080)]))] := hD
  refine lv_iinc (v := 1) (lv' := [(2, .int 1), (1, .int 7), (0, .ref mo)]) hx hb dX8_digest_115 hl (k := 0) rfl (by decide) (by decide) rfl (fun ls hl => ?_)
  refine lv_goto (tgt := 99) hx hb dX8_digest_118 (by decide) ?_
  refine lv_iload_n hx hb dX8_digest_99 rfl (lv_at hl 0 rfl) ?_
  refine lv_bipush (v := 6) hx hb dX8_digest_100 (by decide) ?_
  refine lv_icmp_ge (tgt := 121) hx hb dX8_digest_102 (by decide) (fun h => absurd h (by decide)) (fun _ => ?_)
  refine lv_aload_n hx hb dX8_digest_105 rfl (lv_at hl 2 rfl) ?_
  refine lv_aload_n hx hb dX8_digest_106 rfl (lv_at hl 2 rfl) ?_
  refine lv_iload_n hx hb dX8_digest_107 rfl (lv_at hl 1 rfl) ?_
  refine lv_iload_n hx hb dX8_digest_108 rfl (lv_at hl 0 rfl) ?_
  have hPr := (show va_P (dC, dI) vwCl [(mo, .inr (10, [.int 0, .ref mr, .int 1, .long (-1853505541961082080)])), (mr, .inr (9, [.ref ll, .ref lt, .ref lp, .int 0, .int 0, .int 0, .int 0, .int 0, .int 0, .int 0, .int (-1), .int 0, .int 0, .int 0])), (lt, .inr (1, [.int 10, .ref ota, .int 10])), (ota, .inl (cOt, 10, .inr (.inr (.inr (.inr fot))))), (ta7, .inl (cB7, 5, .inl fb7))] H432 from (zo_cons ((hP) 12 _ rfl) (zo_cons (((zo_R hR0 hS hAr)) 0 _ rfl) (zo_cons (((zo_R hR0 hS hAr)) 2 _ rfl) (zo_cons (((zo_R hR0 hS hAr)) 5 _ rfl) (zo_cons ((hP) 9 _ rfl) (zo_nil : va_P (dC, dI) vwCl [] H432)))))))
  have hPc := hP.sub (ws' := []) [] rfl
  have hDc := hD.sub (ws' := []) [] (by decide) rfl
  have hKc := hK.sub (tys' := [(cOt, .object "java/lang/Object"), (cB7, .int)]) [1, 11] rfl
  have hFc := va_free (wc := []) hD hS hA [] rfl
  refine va_calli (va_runV (As := [.int 7, .int 1]) (rest := [.ref mo]) ⟨hx, hb, hml, hown, hts⟩ (cz_QofThingNow_7_1 l dC dI ed H432.size mo mr 0 (-1853505541961082080) ll lt lp ota cOt fot ta7 cB7 fb7 hot7 hb7_1) (cwV 2 hts gX8_digest_X8_ofThingNow rfl rfl rfl (by decide +kernel) ⟨Nat.le_of_ble_eq_true rfl, Nat.le_of_ble_eq_true rfl⟩) ⟨zb_blind, va_recv hK hP (ci := 10) (q0 := 12) rfl rfl, fun U hU hW => ⟨rfl, zb_mk hU hW hPr hPc hKc hDc hN hH hS hFc zx_e⟩⟩ rfl rfl hl.1 rfl (lv_room (Nat.le_of_ble_eq_true rfl)) dX8_digest_109 ⟨Nat.le_of_ble_eq_true rfl, Nat.le_of_ble_eq_true rfl⟩) hS (fun q _ h => hFc q h) hFc (fun r436 u t H435 locs ht hvm hw hB hz1 hk1 hS => ?_)
  obtain rfl : r436 = 0 := hw
  have hP := zo_K hP hk1
  have hPr := (zo_nil : va_P (dC, dI) vwCl [] H435)
  have hPc := hP.sub (ws' := [(mo, .inr (10, [.int 0, .ref mr, .int 1, .long (-1853505541961082080)]))]) [12] rfl
  have hDc := hD.sub (ws' := [(mo, .inr (10, [.int 0, .ref mr, .int 1, .long (-1853505541961082080)]))]) [12] (by decide) rfl
  have hKc := hK.sub (tys' := []) [] rfl
  have hFc := va_free (wc := [(mo, .inr (10, [.int 0, .ref mr, .int 1, .long (-1853505541961082080)]))]) hD hS hA [12] rfl
  refine va_callv (va_runV (As := [.int 0]) (rest := []) ⟨hx, hb, hml, hown, hts⟩ (cz_X8_add l dC dI ed H435.size mo mr 0 (-1853505541961082080) 0) (cwV 1 hts gX8_digest_X8_add rfl rfl rfl (by decide +kernel) ⟨Nat.le_of_ble_eq_true rfl, Nat.le_of_ble_eq_true rfl⟩) ⟨zb_blind, va_recv hK hP (ci := 10) (q0 := 12) rfl rfl, fun U hU hW => ⟨rfl, zb_mk hU hW hPr hPc hKc hDc hN hH hS hFc zx_nil⟩⟩ rfl rfl hl.1 rfl (lv_room (Nat.le_of_ble_eq_true rfl)) dX8_digest_112 ⟨Nat.le_of_ble_eq_true rfl, Nat.le_of_ble_eq_true rfl⟩) hS (fun q _ h => hFc q h) hFc (fun u t H437 locs ht hvm hw hB hz1 hk1 hS => ?_)
  obtain ⟨s1_439, hf439_0, hP1, hD1, hK1⟩ := hB
  obtain rfl : s1_439 = (-2118439579664889632) := hf439_0.trans (by first | rfl | decide +kernel)
  rw [ht] at hP1
  obtain ⟨hP, hD⟩ := va_join (wr := [(la0, .inl (cA0, 10, .inl fa0)), (la1, .inl (cA1, 10, .inl fa1)), (ta0, .inl (cB0, 5, .inl fb0)), (ta1, .inl (cB1, 5, .inl fb1)), (ta2, .inl (cB2, 5, .inl fb2)), (ta3, .inl (cB3, 5, .inl fb3)), (ta4, .inl (cB4, 5, .inl fb4)), (ta5, .inl (cB5, 5, .inl fb5)), (ta6, .inl (cB6, 5, .inl fb6)), (ta7, .inl (cB7, 5, .inl fb7)), (ta8, .inl (cB8, 5, .inl fb8)), (ta9, .inl (cB9, 5, .inl fb9))]) (w1 := [(mo, .inr (10, [.int 0, .ref mr, .int 1, .long (-2118439579664889632)]))]) hP hD [12] [0, 1, 2, 3, 4, 5, 6, 7, 8, 9, 10, 11] rfl rfl (by decide) (by decide) hk1 hFc hP1 hD1
  have hP : va_P (dC, dI) vwCl [(la0, .inl (cA0, 10, .inl fa0)), (la1, .inl (cA1, 10, .inl fa1)), (ta0, .inl (cB0, 5, .inl fb0)), (ta1, .inl (cB1, 5, .inl fb1)), (ta2, .inl (cB2, 5, .inl fb2)), (ta3, .inl (cB3, 5, .inl fb3)), (ta4, .inl (cB4, 5, .inl fb4)), (ta5, .inl (cB5, 5, .inl fb5)), (ta6, .inl (cB6, 5, .inl fb6)), (ta7, .inl (cB7, 5, .inl fb7)), (ta8, .inl (cB8, 5, .inl fb8)), (ta9, .inl (cB9, 5, .inl fb9)), (mo, .inr (10, [.int 0, .ref mr, .int 1, .long (-2118439579664889632)]))] H437 := hP
  have hD : va_D A [(la0, .inl (cA0, 10, .inl fa0)), (la1, .inl (cA1, 10, .inl fa1)), (ta0, .inl (cB0, 5, .inl fb0)), (ta1, .inl (cB1, 5, .inl fb1)), (ta2, .inl (cB2, 5, .inl fb2)), (ta3, .inl (cB3, 5, .inl fb3)), (ta4, .inl (cB4, 5, .inl fb4)), (ta5, .inl (cB5, 5, .inl fb5)), (ta6, .inl (cB6, 5, .inl fb6)), (ta7, .inl (cB7, 5, .inl fb7)), (ta8, .inl (cB8, 5, .inl fb8)), (ta9, .inl (cB9, 5, .inl fb9)), (mo, .inr (10, [.int 0, .ref mr, .int 1, .long (-2118439579664889632)]))] := hD
  refine lv_iinc (v := 2) (lv' := [(2, .int 2), (1, .int 7), (0, .ref mo)]) hx hb dX8_digest_115 hl (k := 0) rfl (by decide) (by decide) rfl (fun ls hl => ?_)
  refine lv_goto (tgt := 99) hx hb dX8_digest_118 (by decide) ?_
  refine lv_iload_n hx hb dX8_digest_99 rfl (lv_at hl 0 rfl) ?_
  refine lv_bipush (v := 6) hx hb dX8_digest_100 (by decide) ?_
  refine lv_icmp_ge (tgt := 121) hx hb dX8_digest_102 (by decide) (fun h => absurd h (by decide)) (fun _ => ?_)
  refine lv_aload_n hx hb dX8_digest_105 rfl (lv_at hl 2 rfl) ?_
  refine lv_aload_n hx hb dX8_digest_106 rfl (lv_at hl 2 rfl) ?_
  refine lv_iload_n hx hb dX8_digest_107 rfl (lv_at hl 1 rfl) ?_
  refine lv_iload_n hx hb dX8_digest_108 rfl (lv_at hl 0 rfl) ?_
  have hPr := (show va_P (dC, dI) vwCl [(mo, .inr (10, [.int 0, .ref mr, .int 1, .long (-2118439579664889632)])), (mr, .inr (9, [.ref ll, .ref lt, .ref lp, .int 0, .int 0, .int 0, .int 0, .int 0, .int 0, .int 0, .int (-1), .int 0, .int 0, .int 0])), (lt, .inr (1, [.int 10, .ref ota, .int 10])), (ota, .inl (cOt, 10, .inr (.inr (.inr (.inr fot))))), (ta7, .inl (cB7, 5, .inl fb7))] H437 from (zo_cons ((hP) 12 _ rfl) (zo_cons (((zo_R hR0 hS hAr)) 0 _ rfl) (zo_cons (((zo_R hR0 hS hAr)) 2 _ rfl) (zo_cons (((zo_R hR0 hS hAr)) 5 _ rfl) (zo_cons ((hP) 9 _ rfl) (zo_nil : va_P (dC, dI) vwCl [] H437)))))))
  have hPc := hP.sub (ws' := []) [] rfl
  have hDc := hD.sub (ws' := []) [] (by decide) rfl
  have hKc := hK.sub (tys' := [(cOt, .object "java/lang/Object"), (cB7, .int)]) [1, 11] rfl
  have hFc := va_free (wc := []) hD hS hA [] rfl
  refine va_calli (va_runV (As := [.int 7, .int 2]) (rest := [.ref mo]) ⟨hx, hb, hml, hown, hts⟩ (cz_QofThingNow_7_2 l dC dI ed H437.size mo mr 0 (-2118439579664889632) ll lt lp ota cOt fot ta7 cB7 fb7 hot7 hb7_2) (cwV 2 hts gX8_digest_X8_ofThingNow rfl rfl rfl (by decide +kernel) ⟨Nat.le_of_ble_eq_true rfl, Nat.le_of_ble_eq_true rfl⟩) ⟨zb_blind, va_recv hK hP (ci := 10) (q0 := 12) rfl rfl, fun U hU hW => ⟨rfl, zb_mk hU hW hPr hPc hKc hDc hN hH hS hFc zx_e⟩⟩ rfl rfl hl.1 rfl (lv_room (Nat.le_of_ble_eq_true rfl)) dX8_digest_109 ⟨Nat.le_of_ble_eq_true rfl, Nat.le_of_ble_eq_true rfl⟩) hS (fun q _ h => hFc q h) hFc (fun r441 u t H440 locs ht hvm hw hB hz1 hk1 hS => ?_)
  obtain rfl : r441 = 0 := hw
  have hP := zo_K hP hk1
  have hPr := (zo_nil : va_P (dC, dI) vwCl [] H440)
  have hPc := hP.sub (ws' := [(mo, .inr (10, [.int 0, .ref mr, .int 1, .long (-2118439579664889632)]))]) [12] rfl
  have hDc := hD.sub (ws' := [(mo, .inr (10, [.int 0, .ref mr, .int 1, .long (-2118439579664889632)]))]) [12] (by decide) rfl
  have hKc := hK.sub (tys' := []) [] rfl
  have hFc := va_free (wc := [(mo, .inr (10, [.int 0, .ref mr, .int 1, .long (-2118439579664889632)]))]) hD hS hA [12] rfl
  refine va_callv (va_runV (As := [.int 0]) (rest := []) ⟨hx, hb, hml, hown, hts⟩ (cz_X8_add l dC dI ed H440.size mo mr 0 (-2118439579664889632) 0) (cwV 1 hts gX8_digest_X8_add rfl rfl rfl (by decide +kernel) ⟨Nat.le_of_ble_eq_true rfl, Nat.le_of_ble_eq_true rfl⟩) ⟨zb_blind, va_recv hK hP (ci := 10) (q0 := 12) rfl rfl, fun U hU hW => ⟨rfl, zb_mk hU hW hPr hPc hKc hDc hN hH hS hFc zx_nil⟩⟩ rfl rfl hl.1 rfl (lv_room (Nat.le_of_ble_eq_true rfl)) dX8_digest_112 ⟨Nat.le_of_ble_eq_true rfl, Nat.le_of_ble_eq_true rfl⟩) hS (fun q _ h => hFc q h) hFc (fun u t H442 locs ht hvm hw hB hz1 hk1 hS => ?_)
  obtain ⟨s1_444, hf444_0, hP1, hD1, hK1⟩ := hB
  obtain rfl : s1_444 = 8115349325226627872 := hf444_0.trans (by first | rfl | decide +kernel)
  rw [ht] at hP1
  obtain ⟨hP, hD⟩ := va_join (wr := [(la0, .inl (cA0, 10, .inl fa0)), (la1, .inl (cA1, 10, .inl fa1)), (ta0, .inl (cB0, 5, .inl fb0)), (ta1, .inl (cB1, 5, .inl fb1)), (ta2, .inl (cB2, 5, .inl fb2)), (ta3, .inl (cB3, 5, .inl fb3)), (ta4, .inl (cB4, 5, .inl fb4)), (ta5, .inl (cB5, 5, .inl fb5)), (ta6, .inl (cB6, 5, .inl fb6)), (ta7, .inl (cB7, 5, .inl fb7)), (ta8, .inl (cB8, 5, .inl fb8)), (ta9, .inl (cB9, 5, .inl fb9))]) (w1 := [(mo, .inr (10, [.int 0, .ref mr, .int 1, .long 8115349325226627872]))]) hP hD [12] [0, 1, 2, 3, 4, 5, 6, 7, 8, 9, 10, 11] rfl rfl (by decide) (by decide) hk1 hFc hP1 hD1
  have hP : va_P (dC, dI) vwCl [(la0, .inl (cA0, 10, .inl fa0)), (la1, .inl (cA1, 10, .inl fa1)), (ta0, .inl (cB0, 5, .inl fb0)), (ta1, .inl (cB1, 5, .inl fb1)), (ta2, .inl (cB2, 5, .inl fb2)), (ta3, .inl (cB3, 5, .inl fb3)), (ta4, .inl (cB4, 5, .inl fb4)), (ta5, .inl (cB5, 5, .inl fb5)), (ta6, .inl (cB6, 5, .inl fb6)), (ta7, .inl (cB7, 5, .inl fb7)), (ta8, .inl (cB8, 5, .inl fb8)), (ta9, .inl (cB9, 5, .inl fb9)), (mo, .inr (10, [.int 0, .ref mr, .int 1, .long 8115349325226627872]))] H442 := hP
  have hD : va_D A [(la0, .inl (cA0, 10, .inl fa0)), (la1, .inl (cA1, 10, .inl fa1)), (ta0, .inl (cB0, 5, .inl fb0)), (ta1, .inl (cB1, 5, .inl fb1)), (ta2, .inl (cB2, 5, .inl fb2)), (ta3, .inl (cB3, 5, .inl fb3)), (ta4, .inl (cB4, 5, .inl fb4)), (ta5, .inl (cB5, 5, .inl fb5)), (ta6, .inl (cB6, 5, .inl fb6)), (ta7, .inl (cB7, 5, .inl fb7)), (ta8, .inl (cB8, 5, .inl fb8)), (ta9, .inl (cB9, 5, .inl fb9)), (mo, .inr (10, [.int 0, .ref mr, .int 1, .long 8115349325226627872]))] := hD
  refine lv_iinc (v := 3) (lv' := [(2, .int 3), (1, .int 7), (0, .ref mo)]) hx hb dX8_digest_115 hl (k := 0) rfl (by decide) (by decide) rfl (fun ls hl => ?_)
  refine lv_goto (tgt := 99) hx hb dX8_digest_118 (by decide) ?_
  refine lv_iload_n hx hb dX8_digest_99 rfl (lv_at hl 0 rfl) ?_
  refine lv_bipush (v := 6) hx hb dX8_digest_100 (by decide) ?_
  refine lv_icmp_ge (tgt := 121) hx hb dX8_digest_102 (by decide) (fun h => absurd h (by decide)) (fun _ => ?_)
  refine lv_aload_n hx hb dX8_digest_105 rfl (lv_at hl 2 rfl) ?_
  refine lv_aload_n hx hb dX8_digest_106 rfl (lv_at hl 2 rfl) ?_
  refine lv_iload_n hx hb dX8_digest_107 rfl (lv_at hl 1 rfl) ?_
  refine lv_iload_n hx hb dX8_digest_108 rfl (lv_at hl 0 rfl) ?_
  have hPr := (show va_P (dC, dI) vwCl [(mo, .inr (10, [.int 0, .ref mr, .int 1, .long 8115349325226627872])), (mr, .inr (9, [.ref ll, .ref lt, .ref lp, .int 0, .int 0, .int 0, .int 0, .int 0, .int 0, .int 0, .int (-1), .int 0, .int 0, .int 0])), (lt, .inr (1, [.int 10, .ref ota, .int 10])), (ota, .inl (cOt, 10, .inr (.inr (.inr (.inr fot))))), (ta7, .inl (cB7, 5, .inl fb7))] H442 from (zo_cons ((hP) 12 _ rfl) (zo_cons (((zo_R hR0 hS hAr)) 0 _ rfl) (zo_cons (((zo_R hR0 hS hAr)) 2 _ rfl) (zo_cons (((zo_R hR0 hS hAr)) 5 _ rfl) (zo_cons ((hP) 9 _ rfl) (zo_nil : va_P (dC, dI) vwCl [] H442)))))))
  have hPc := hP.sub (ws' := []) [] rfl
  have hDc := hD.sub (ws' := []) [] (by decide) rfl
  have hKc := hK.sub (tys' := [(cOt, .object "java/lang/Object"), (cB7, .int)]) [1, 11] rfl
  have hFc := va_free (wc := []) hD hS hA [] rfl
  refine va_calli (va_runV (As := [.int 7, .int 3]) (rest := [.ref mo]) ⟨hx, hb, hml, hown, hts⟩ (cz_QofThingNow_7_3 l dC dI ed H442.size mo mr 0 8115349325226627872 ll lt lp ota cOt fot ta7 cB7 fb7 hot7 hb7_3) (cwV 2 hts gX8_digest_X8_ofThingNow rfl rfl rfl (by decide +kernel) ⟨Nat.le_of_ble_eq_true rfl, Nat.le_of_ble_eq_true rfl⟩) ⟨zb_blind, va_recv hK hP (ci := 10) (q0 := 12) rfl rfl, fun U hU hW => ⟨rfl, zb_mk hU hW hPr hPc hKc hDc hN hH hS hFc zx_e⟩⟩ rfl rfl hl.1 rfl (lv_room (Nat.le_of_ble_eq_true rfl)) dX8_digest_109 ⟨Nat.le_of_ble_eq_true rfl, Nat.le_of_ble_eq_true rfl⟩) hS (fun q _ h => hFc q h) hFc (fun r446 u t H445 locs ht hvm hw hB hz1 hk1 hS => ?_)
  obtain rfl : r446 = 0 := hw
  have hP := zo_K hP hk1
  have hPr := (zo_nil : va_P (dC, dI) vwCl [] H445)
  have hPc := hP.sub (ws' := [(mo, .inr (10, [.int 0, .ref mr, .int 1, .long 8115349325226627872]))]) [12] rfl
  have hDc := hD.sub (ws' := [(mo, .inr (10, [.int 0, .ref mr, .int 1, .long 8115349325226627872]))]) [12] (by decide) rfl
  have hKc := hK.sub (tys' := []) [] rfl
  have hFc := va_free (wc := [(mo, .inr (10, [.int 0, .ref mr, .int 1, .long 8115349325226627872]))]) hD hS hA [12] rfl
  refine va_callv (va_runV (As := [.int 0]) (rest := []) ⟨hx, hb, hml, hown, hts⟩ (cz_X8_add l dC dI ed H445.size mo mr 0 8115349325226627872 0) (cwV 1 hts gX8_digest_X8_add rfl rfl rfl (by decide +kernel) ⟨Nat.le_of_ble_eq_true rfl, Nat.le_of_ble_eq_true rfl⟩) ⟨zb_blind, va_recv hK hP (ci := 10) (q0 := 12) rfl rfl, fun U hU hW => ⟨rfl, zb_mk hU hW hPr hPc hKc hDc hN hH hS hFc zx_nil⟩⟩ rfl rfl hl.1 rfl (lv_room (Nat.le_of_ble_eq_true rfl)) dX8_digest_112 ⟨Nat.le_of_ble_eq_true rfl, Nat.le_of_ble_eq_true rfl⟩) hS (fun q _ h => hFc q h) hFc (fun u t H447 locs ht hvm hw hB hz1 hk1 hS => ?_)
  obtain ⟨s1_449, hf449_0, hP1, hD1, hK1⟩ := hB
  obtain rfl : s1_449 = (-6678587949908258592) := hf449_0.trans (by first | rfl | decide +kernel)
  rw [ht] at hP1
  obtain ⟨hP, hD⟩ := va_join (wr := [(la0, .inl (cA0, 10, .inl fa0)), (la1, .inl (cA1, 10, .inl fa1)), (ta0, .inl (cB0, 5, .inl fb0)), (ta1, .inl (cB1, 5, .inl fb1)), (ta2, .inl (cB2, 5, .inl fb2)), (ta3, .inl (cB3, 5, .inl fb3)), (ta4, .inl (cB4, 5, .inl fb4)), (ta5, .inl (cB5, 5, .inl fb5)), (ta6, .inl (cB6, 5, .inl fb6)), (ta7, .inl (cB7, 5, .inl fb7)), (ta8, .inl (cB8, 5, .inl fb8)), (ta9, .inl (cB9, 5, .inl fb9))]) (w1 := [(mo, .inr (10, [.int 0, .ref mr, .int 1, .long (-6678587949908258592)]))]) hP hD [12] [0, 1, 2, 3, 4, 5, 6, 7, 8, 9, 10, 11] rfl rfl (by decide) (by decide) hk1 hFc hP1 hD1
  have hP : va_P (dC, dI) vwCl [(la0, .inl (cA0, 10, .inl fa0)), (la1, .inl (cA1, 10, .inl fa1)), (ta0, .inl (cB0, 5, .inl fb0)), (ta1, .inl (cB1, 5, .inl fb1)), (ta2, .inl (cB2, 5, .inl fb2)), (ta3, .inl (cB3, 5, .inl fb3)), (ta4, .inl (cB4, 5, .inl fb4)), (ta5, .inl (cB5, 5, .inl fb5)), (ta6, .inl (cB6, 5, .inl fb6)), (ta7, .inl (cB7, 5, .inl fb7)), (ta8, .inl (cB8, 5, .inl fb8)), (ta9, .inl (cB9, 5, .inl fb9)), (mo, .inr (10, [.int 0, .ref mr, .int 1, .long (-6678587949908258592)]))] H447 := hP
  have hD : va_D A [(la0, .inl (cA0, 10, .inl fa0)), (la1, .inl (cA1, 10, .inl fa1)), (ta0, .inl (cB0, 5, .inl fb0)), (ta1, .inl (cB1, 5, .inl fb1)), (ta2, .inl (cB2, 5, .inl fb2)), (ta3, .inl (cB3, 5, .inl fb3)), (ta4, .inl (cB4, 5, .inl fb4)), (ta5, .inl (cB5, 5, .inl fb5)), (ta6, .inl (cB6, 5, .inl fb6)), (ta7, .inl (cB7, 5, .inl fb7)), (ta8, .inl (cB8, 5, .inl fb8)), (ta9, .inl (cB9, 5, .inl fb9)), (mo, .inr (10, [.int 0, .ref mr, .int 1, .long (-6678587949908258592)]))] := hD
  refine lv_iinc (v := 4) (lv' := [(2, .int 4), (1, .int 7), (0, .ref mo)]) hx hb dX8_digest_115 hl (k := 0) rfl (by decide) (by decide) rfl (fun ls hl => ?_)
  refine lv_goto (tgt := 99) hx hb dX8_digest_118 (by decide) ?_
  refine lv_iload_n hx hb dX8_digest_99 rfl (lv_at hl 0 rfl) ?_
  refine lv_bipush (v := 6) hx hb dX8_digest_100 (by decide) ?_
  refine lv_icmp_ge (tgt := 121) hx hb dX8_digest_102 (by decide) (fun h => absurd h (by decide)) (fun _ => ?_)
  refine lv_aload_n hx hb dX8_digest_105 rfl (lv_at hl 2 rfl) ?_
  refine lv_aload_n hx hb dX8_digest_106 rfl (lv_at hl 2 rfl) ?_
  refine lv_iload_n hx hb dX8_digest_107 rfl (lv_at hl 1 rfl) ?_
  refine lv_iload_n hx hb dX8_digest_108 rfl (lv_at hl 0 rfl) ?_
  have hPr := (show va_P (dC, dI) vwCl [(mo, .inr (10, [.int 0, .ref mr, .int 1, .long (-6678587949908258592)])), (mr, .inr (9, [.ref ll, .ref lt, .ref lp, .int 0, .int 0, .int 0, .int 0, .int 0, .int 0, .int 0, .int (-1), .int 0, .int 0, .int 0])), (lt, .inr (1, [.int 10, .ref ota, .int 10])), (ota, .inl (cOt, 10, .inr (.inr (.inr (.inr fot))))), (ta7, .inl (cB7, 5, .inl fb7))] H447 from (zo_cons ((hP) 12 _ rfl) (zo_cons (((zo_R hR0 hS hAr)) 0 _ rfl) (zo_cons (((zo_R hR0 hS hAr)) 2 _ rfl) (zo_cons (((zo_R hR0 hS hAr)) 5 _ rfl) (zo_cons ((hP) 9 _ rfl) (zo_nil : va_P (dC, dI) vwCl [] H447)))))))
  have hPc := hP.sub (ws' := []) [] rfl
  have hDc := hD.sub (ws' := []) [] (by decide) rfl
  have hKc := hK.sub (tys' := [(cOt, .object "java/lang/Object"), (cB7, .int)]) [1, 11] rfl
  have hFc := va_free (wc := []) hD hS hA [] rfl
  refine va_calli (va_runV (As := [.int 7, .int 4]) (rest := [.ref mo]) ⟨hx, hb, hml, hown, hts⟩ (cz_QofThingNow_7_4 l dC dI ed H447.size mo mr 0 (-6678587949908258592) ll lt lp ota cOt fot ta7 cB7 fb7 hot7 hb7_0 hb7_3) (cwV 2 hts gX8_digest_X8_ofThingNow rfl rfl rfl (by decide +kernel) ⟨Nat.le_of_ble_eq_true rfl, Nat.le_of_ble_eq_true rfl⟩) ⟨zb_blind, va_recv hK hP (ci := 10) (q0 := 12) rfl rfl, fun U hU hW => ⟨rfl, zb_mk hU hW hPr hPc hKc hDc hN hH hS hFc zx_e⟩⟩ rfl rfl hl.1 rfl (lv_room (Nat.le_of_ble_eq_true rfl)) dX8_digest_109 ⟨Nat.le_of_ble_eq_true rfl, Nat.le_of_ble_eq_true rfl⟩) hS (fun q _ h => hFc q h) hFc (fun r451 u t H450 locs ht hvm hw hB hz1 hk1 hS => ?_)
  obtain rfl : r451 = 1 := hw
  have hP := zo_K hP hk1
  have hPr := (zo_nil : va_P (dC, dI) vwCl [] H450)
  have hPc := hP.sub (ws' := [(mo, .inr (10, [.int 0, .ref mr, .int 1, .long (-6678587949908258592)]))]) [12] rfl
  have hDc := hD.sub (ws' := [(mo, .inr (10, [.int 0, .ref mr, .int 1, .long (-6678587949908258592)]))]) [12] (by decide) rfl
  have hKc := hK.sub (tys' := []) [] rfl
  have hFc := va_free (wc := [(mo, .inr (10, [.int 0, .ref mr, .int 1, .long (-6678587949908258592)]))]) hD hS hA [12] rfl
  refine va_callv (va_runV (As := [.int 1]) (rest := []) ⟨hx, hb, hml, hown, hts⟩ (cz_X8_add l dC dI ed H450.size mo mr 0 (-6678587949908258592) 1) (cwV 1 hts gX8_digest_X8_add rfl rfl rfl (by decide +kernel) ⟨Nat.le_of_ble_eq_true rfl, Nat.le_of_ble_eq_true rfl⟩) ⟨zb_blind, va_recv hK hP (ci := 10) (q0 := 12) rfl rfl, fun U hU hW => ⟨rfl, zb_mk hU hW hPr hPc hKc hDc hN hH hS hFc zx_nil⟩⟩ rfl rfl hl.1 rfl (lv_room (Nat.le_of_ble_eq_true rfl)) dX8_digest_112 ⟨Nat.le_of_ble_eq_true rfl, Nat.le_of_ble_eq_true rfl⟩) hS (fun q _ h => hFc q h) hFc (fun u t H452 locs ht hvm hw hB hz1 hk1 hS => ?_)
  obtain ⟨s1_454, hf454_0, hP1, hD1, hK1⟩ := hB
  obtain rfl : s1_454 = (-4122041636350948575) := hf454_0.trans (by first | rfl | decide +kernel)
  rw [ht] at hP1
  obtain ⟨hP, hD⟩ := va_join (wr := [(la0, .inl (cA0, 10, .inl fa0)), (la1, .inl (cA1, 10, .inl fa1)), (ta0, .inl (cB0, 5, .inl fb0)), (ta1, .inl (cB1, 5, .inl fb1)), (ta2, .inl (cB2, 5, .inl fb2)), (ta3, .inl (cB3, 5, .inl fb3)), (ta4, .inl (cB4, 5, .inl fb4)), (ta5, .inl (cB5, 5, .inl fb5)), (ta6, .inl (cB6, 5, .inl fb6)), (ta7, .inl (cB7, 5, .inl fb7)), (ta8, .inl (cB8, 5, .inl fb8)), (ta9, .inl (cB9, 5, .inl fb9))]) (w1 := [(mo, .inr (10, [.int 0, .ref mr, .int 1, .long (-4122041636350948575)]))]) hP hD [12] [0, 1, 2, 3, 4, 5, 6, 7, 8, 9, 10, 11] rfl rfl (by decide) (by decide) hk1 hFc hP1 hD1
  have hP : va_P (dC, dI) vwCl [(la0, .inl (cA0, 10, .inl fa0)), (la1, .inl (cA1, 10, .inl fa1)), (ta0, .inl (cB0, 5, .inl fb0)), (ta1, .inl (cB1, 5, .inl fb1)), (ta2, .inl (cB2, 5, .inl fb2)), (ta3, .inl (cB3, 5, .inl fb3)), (ta4, .inl (cB4, 5, .inl fb4)), (ta5, .inl (cB5, 5, .inl fb5)), (ta6, .inl (cB6, 5, .inl fb6)), (ta7, .inl (cB7, 5, .inl fb7)), (ta8, .inl (cB8, 5, .inl fb8)), (ta9, .inl (cB9, 5, .inl fb9)), (mo, .inr (10, [.int 0, .ref mr, .int 1, .long (-4122041636350948575)]))] H452 := hP
  have hD : va_D A [(la0, .inl (cA0, 10, .inl fa0)), (la1, .inl (cA1, 10, .inl fa1)), (ta0, .inl (cB0, 5, .inl fb0)), (ta1, .inl (cB1, 5, .inl fb1)), (ta2, .inl (cB2, 5, .inl fb2)), (ta3, .inl (cB3, 5, .inl fb3)), (ta4, .inl (cB4, 5, .inl fb4)), (ta5, .inl (cB5, 5, .inl fb5)), (ta6, .inl (cB6, 5, .inl fb6)), (ta7, .inl (cB7, 5, .inl fb7)), (ta8, .inl (cB8, 5, .inl fb8)), (ta9, .inl (cB9, 5, .inl fb9)), (mo, .inr (10, [.int 0, .ref mr, .int 1, .long (-4122041636350948575)]))] := hD
  refine lv_iinc (v := 5) (lv' := [(2, .int 5), (1, .int 7), (0, .ref mo)]) hx hb dX8_digest_115 hl (k := 0) rfl (by decide) (by decide) rfl (fun ls hl => ?_)
  refine lv_goto (tgt := 99) hx hb dX8_digest_118 (by decide) ?_
  refine lv_iload_n hx hb dX8_digest_99 rfl (lv_at hl 0 rfl) ?_
  refine lv_bipush (v := 6) hx hb dX8_digest_100 (by decide) ?_
  refine lv_icmp_ge (tgt := 121) hx hb dX8_digest_102 (by decide) (fun h => absurd h (by decide)) (fun _ => ?_)
  refine lv_aload_n hx hb dX8_digest_105 rfl (lv_at hl 2 rfl) ?_
  refine lv_aload_n hx hb dX8_digest_106 rfl (lv_at hl 2 rfl) ?_
  refine lv_iload_n hx hb dX8_digest_107 rfl (lv_at hl 1 rfl) ?_
  refine lv_iload_n hx hb dX8_digest_108 rfl (lv_at hl 0 rfl) ?_
  have hPr := (show va_P (dC, dI) vwCl [(mo, .inr (10, [.int 0, .ref mr, .int 1, .long (-4122041636350948575)])), (mr, .inr (9, [.ref ll, .ref lt, .ref lp, .int 0, .int 0, .int 0, .int 0, .int 0, .int 0, .int 0, .int (-1), .int 0, .int 0, .int 0])), (ll, .inr (1, [.int 2, .ref ola, .int 2])), (ola, .inl (cOl, 10, .inr (.inr (.inr (.inr fol))))), (la0, .inl (cA0, 10, .inl fa0)), (la1, .inl (cA1, 10, .inl fa1))] H452 from (zo_cons ((hP) 12 _ rfl) (zo_cons (((zo_R hR0 hS hAr)) 0 _ rfl) (zo_cons (((zo_R hR0 hS hAr)) 1 _ rfl) (zo_cons (((zo_R hR0 hS hAr)) 4 _ rfl) (zo_cons ((hP) 0 _ rfl) (zo_cons ((hP) 1 _ rfl) (zo_nil : va_P (dC, dI) vwCl [] H452))))))))
  have hPc := hP.sub (ws' := []) [] rfl
  have hDc := hD.sub (ws' := []) [] (by decide) rfl
  have hKc := hK.sub (tys' := [(cOl, .object "java/lang/Object"), (cA0, .int), (cA1, .int)]) [0, 2, 3] rfl
  have hFc := va_free (wc := []) hD hS hA [] rfl
  refine va_calli (va_runV (As := [.int 7, .int 5]) (rest := [.ref mo]) ⟨hx, hb, hml, hown, hts⟩ (cz_QofThingNow_7_5 l dC dI ed H452.size mo mr 0 (-4122041636350948575) ll lt lp ola cOl fol la0 la1 cA0 fa0 cA1 fa1 hol0 hol1 ha0_0 ha1_0) (cwV 2 hts gX8_digest_X8_ofThingNow rfl rfl rfl (by decide +kernel) ⟨Nat.le_of_ble_eq_true rfl, Nat.le_of_ble_eq_true rfl⟩) ⟨zb_blind, va_recv hK hP (ci := 10) (q0 := 12) rfl rfl, fun U hU hW => ⟨rfl, zb_mk hU hW hPr hPc hKc hDc hN hH hS hFc zx_e⟩⟩ rfl rfl hl.1 rfl (lv_room (Nat.le_of_ble_eq_true rfl)) dX8_digest_109 ⟨Nat.le_of_ble_eq_true rfl, Nat.le_of_ble_eq_true rfl⟩) hS (fun q _ h => hFc q h) hFc (fun r456 u t H455 locs ht hvm hw hB hz1 hk1 hS => ?_)
  obtain rfl : r456 = 0 := hw
  have hP := zo_K hP hk1
  have hPr := (zo_nil : va_P (dC, dI) vwCl [] H455)
  have hPc := hP.sub (ws' := [(mo, .inr (10, [.int 0, .ref mr, .int 1, .long (-4122041636350948575)]))]) [12] rfl
  have hDc := hD.sub (ws' := [(mo, .inr (10, [.int 0, .ref mr, .int 1, .long (-4122041636350948575)]))]) [12] (by decide) rfl
  have hKc := hK.sub (tys' := []) [] rfl
  have hFc := va_free (wc := [(mo, .inr (10, [.int 0, .ref mr, .int 1, .long (-4122041636350948575)]))]) hD hS hA [12] rfl
  refine va_callv (va_runV (As := [.int 0]) (rest := []) ⟨hx, hb, hml, hown, hts⟩ (cz_X8_add l dC dI ed H455.size mo mr 0 (-4122041636350948575) 0) (cwV 1 hts gX8_digest_X8_add rfl rfl rfl (by decide +kernel) ⟨Nat.le_of_ble_eq_true rfl, Nat.le_of_ble_eq_true rfl⟩) ⟨zb_blind, va_recv hK hP (ci := 10) (q0 := 12) rfl rfl, fun U hU hW => ⟨rfl, zb_mk hU hW hPr hPc hKc hDc hN hH hS hFc zx_nil⟩⟩ rfl rfl hl.1 rfl (lv_room (Nat.le_of_ble_eq_true rfl)) dX8_digest_112 ⟨Nat.le_of_ble_eq_true rfl, Nat.le_of_ble_eq_true rfl⟩) hS (fun q _ h => hFc q h) hFc (fun u t H457 locs ht hvm hw hB hz1 hk1 hS => ?_)
  obtain ⟨s1_459, hf459_0, hP1, hD1, hK1⟩ := hB
  obtain rfl : s1_459 = 1343917789087455487 := hf459_0.trans (by first | rfl | decide +kernel)
  rw [ht] at hP1
  obtain ⟨hP, hD⟩ := va_join (wr := [(la0, .inl (cA0, 10, .inl fa0)), (la1, .inl (cA1, 10, .inl fa1)), (ta0, .inl (cB0, 5, .inl fb0)), (ta1, .inl (cB1, 5, .inl fb1)), (ta2, .inl (cB2, 5, .inl fb2)), (ta3, .inl (cB3, 5, .inl fb3)), (ta4, .inl (cB4, 5, .inl fb4)), (ta5, .inl (cB5, 5, .inl fb5)), (ta6, .inl (cB6, 5, .inl fb6)), (ta7, .inl (cB7, 5, .inl fb7)), (ta8, .inl (cB8, 5, .inl fb8)), (ta9, .inl (cB9, 5, .inl fb9))]) (w1 := [(mo, .inr (10, [.int 0, .ref mr, .int 1, .long 1343917789087455487]))]) hP hD [12] [0, 1, 2, 3, 4, 5, 6, 7, 8, 9, 10, 11] rfl rfl (by decide) (by decide) hk1 hFc hP1 hD1
  have hP : va_P (dC, dI) vwCl [(la0, .inl (cA0, 10, .inl fa0)), (la1, .inl (cA1, 10, .inl fa1)), (ta0, .inl (cB0, 5, .inl fb0)), (ta1, .inl (cB1, 5, .inl fb1)), (ta2, .inl (cB2, 5, .inl fb2)), (ta3, .inl (cB3, 5, .inl fb3)), (ta4, .inl (cB4, 5, .inl fb4)), (ta5, .inl (cB5, 5, .inl fb5)), (ta6, .inl (cB6, 5, .inl fb6)), (ta7, .inl (cB7, 5, .inl fb7)), (ta8, .inl (cB8, 5, .inl fb8)), (ta9, .inl (cB9, 5, .inl fb9)), (mo, .inr (10, [.int 0, .ref mr, .int 1, .long 1343917789087455487]))] H457 := hP
  have hD : va_D A [(la0, .inl (cA0, 10, .inl fa0)), (la1, .inl (cA1, 10, .inl fa1)), (ta0, .inl (cB0, 5, .inl fb0)), (ta1, .inl (cB1, 5, .inl fb1)), (ta2, .inl (cB2, 5, .inl fb2)), (ta3, .inl (cB3, 5, .inl fb3)), (ta4, .inl (cB4, 5, .inl fb4)), (ta5, .inl (cB5, 5, .inl fb5)), (ta6, .inl (cB6, 5, .inl fb6)), (ta7, .inl (cB7, 5, .inl fb7)), (ta8, .inl (cB8, 5, .inl fb8)), (ta9, .inl (cB9, 5, .inl fb9)), (mo, .inr (10, [.int 0, .ref mr, .int 1, .long 1343917789087455487]))] := hD
  refine lv_iinc (v := 6) (lv' := [(2, .int 6), (1, .int 7), (0, .ref mo)]) hx hb dX8_digest_115 hl (k := 0) rfl (by decide) (by decide) rfl (fun ls hl => ?_)
  refine lv_goto (tgt := 99) hx hb dX8_digest_118 (by decide) ?_
  refine lv_iload_n hx hb dX8_digest_99 rfl (lv_at hl 0 rfl) ?_
  refine lv_bipush (v := 6) hx hb dX8_digest_100 (by decide) ?_
  refine lv_icmp_ge (tgt := 121) hx hb dX8_digest_102 (by decide) (fun _ => ?_) (fun h => absurd h (by decide))
  refine lv_iinc (v := 8) (lv' := [(1, .int 8), (2, .int 6), (0, .ref mo)]) hx hb dX8_digest_121 hl (k := 1) rfl (by decide) (by decide) rfl (fun ls hl => ?_)
  refine lv_goto (tgt := 83) hx hb dX8_digest_124 (by decide) ?_
  exact cs_QX8_digest_7 l dC dI ed mr ll lt lp ola ota cOl fol la0 la1 cOt fot ta0 ta1 ta2 ta3 ta4 ta5 ta6 ta7 ta8 ta9 mo x9 s9 cA0 fa0 cA1 fa1 cB0 fb0 cB1 fb1 cB2 fb2 cB3 fb3 cB4 fb4 cB5 fb5 cB6 fb6 cB7 fb7 cB8 fb8 cB9 fb9 hol0 hol1 hot0 hot1 hot2 hot3 hot4 hot5 hot6 hot7 hot8 hot9 ha0_0 ha0_1 ha0_2 ha0_3 ha0_4 ha0_5 ha0_6 ha0_7 ha0_8 ha0_9 ha1_0 ha1_1 ha1_2 ha1_3 ha1_4 ha1_5 ha1_6 ha1_7 ha1_8 ha1_9 hb0_0 hb0_1 hb0_2 hb0_3 hb0_4 hb1_0 hb1_1 hb1_2 hb1_3 hb1_4 hb2_0 hb2_1 hb2_2 hb2_3 hb2_4 hb3_0 hb3_1 hb3_2 hb3_3 hb3_4 hb4_0 hb4_1 hb4_2 hb4_3 hb4_4 hb5_0 hb5_1 hb5_2 hb5_3 hb5_4 hb6_0 hb6_1 hb6_2 hb6_3 hb6_4 hb7_0 hb7_1 hb7_2 hb7_3 hb7_4 hb8_0 hb8_1 hb8_2 hb8_3 hb8_4 hb9_0 hb9_1 hb9_2 hb9_3 hb9_4 hx hb hr hml hown hlocks hts hR0 hN hA hAr hH hAe hK hP hD hS hl
set_option maxHeartbeats 4000000 in
set_option maxRecDepth 100000 in
theorem cs_QX8_digest_5 (l : Launch) (dC : Nat → ClassId) (dI : Nat → Nat → Nat) (ed : Nat) (mr : Nat) (ll : Nat) (lt : Nat) (lp : Nat) (ola : Nat) (ota : Nat) (cOl : ClassId) (fol : Nat → Option Nat) (la0 : Nat) (la1 : Nat) (cOt : ClassId) (fot : Nat → Option Nat) (ta0 : Nat) (ta1 : Nat) (ta2 : Nat) (ta3 : Nat) (ta4 : Nat) (ta5 : Nat) (ta6 : Nat) (ta7 : Nat) (ta8 : Nat) (ta9 : Nat) (mo : Nat) (x9 : Int32) (s9 : Int64) (cA0 : ClassId) (fa0 : Nat → Int32) (cA1 : ClassId) (fa1 : Nat → Int32) (cB0 : ClassId) (fb0 : Nat → Int32) (cB1 : ClassId) (fb1 : Nat → Int32) (cB2 : ClassId) (fb2 : Nat → Int32) (cB3 : ClassId) (fb3 : Nat → Int32) (cB4 : ClassId) (fb4 : Nat → Int32) (cB5 : ClassId) (fb5 : Nat → Int32) (cB6 : ClassId) (fb6 : Nat → Int32) (cB7 : ClassId) (fb7 : Nat → Int32) (cB8 : ClassId) (fb8 : Nat → Int32) (cB9 : ClassId) (fb9 : Nat → Int32) (hol0 : fol 0 = some la0) (hol1 : fol 1 = some la1) (hot0 : fot 0 = some ta0) (hot1 : fot 1 = some ta1) (hot2 : fot 2 = some ta2) (hot3 : fot 3 = some ta3) (hot4 : fot 4 = some ta4) (hot5 : fot 5 = some ta5) (hot6 : fot 6 = some ta6) (hot7 : fot 7 = some ta7) (hot8 : fot 8 = some ta8) (hot9 : fot 9 = some ta9) (ha0_0 : fa0 0 = 0) (ha0_1 : fa0 1 = 0) (ha0_2 : fa0 2 = 60) (ha0_3 : fa0 3 = 0) (ha0_4 : fa0 4 = 0) (ha0_5 : fa0 5 = 0) (ha0_6 : fa0 6 = 0) (ha0_7 : fa0 7 = 0) (ha0_8 : fa0 8 = 0) (ha0_9 : fa0 9 = 0) (ha1_0 : fa1 0 = 0) (ha1_1 : fa1 1 = 0) (ha1_2 : fa1 2 = 60) (ha1_3 : fa1 3 = 0) (ha1_4 : fa1 4 = 0) (ha1_5 : fa1 5 = 0) (ha1_6 : fa1 6 = 0) (ha1_7 : fa1 7 = 0) (ha1_8 : fa1 8 = 0) (ha1_9 : fa1 9 = 0) (hb0_0 : fb0 0 = (-1)) (hb0_1 : fb0 1 = 0) (hb0_2 : fb0 2 = 0) (hb0_3 : fb0 3 = 0) (hb0_4 : fb0 4 = 0) (hb1_0 : fb1 0 = (-1)) (hb1_1 : fb1 1 = 0) (hb1_2 : fb1 2 = 0) (hb1_3 : fb1 3 = 0) (hb1_4 : fb1 4 = 0) (hb2_0 : fb2 0 = (-1)) (hb2_1 : fb2 1 = 0) (hb2_2 : fb2 2 = 0) (hb2_3 : fb2 3 = 0) (hb2_4 : fb2 4 = 0) (hb3_0 : fb3 0 = (-1)) (hb3_1 : fb3 1 = 0) (hb3_2 : fb3 2 = 0) (hb3_3 : fb3 3 = 0) (hb3_4 : fb3 4 = 0) (hb4_0 : fb4 0 = (-1)) (hb4_1 : fb4 1 = 0) (hb4_2 : fb4 2 = 0) (hb4_3 : fb4 3 = 0) (hb4_4 : fb4 4 = 0) (hb5_0 : fb5 0 = (-1)) (hb5_1 : fb5 1 = 0) (hb5_2 : fb5 2 = 0) (hb5_3 : fb5 3 = 0) (hb5_4 : fb5 4 = 0) (hb6_0 : fb6 0 = (-1)) (hb6_1 : fb6 1 = 0) (hb6_2 : fb6 2 = 0) (hb6_3 : fb6 3 = 0) (hb6_4 : fb6 4 = 0) (hb7_0 : fb7 0 = (-1)) (hb7_1 : fb7 1 = 0) (hb7_2 : fb7 2 = 0) (hb7_3 : fb7 3 = 0) (hb7_4 : fb7 4 = 0) (hb8_0 : fb8 0 = (-1)) (hb8_1 : fb8 1 = 0) (hb8_2 : fb8 2 = 0) (hb8_3 : fb8 3 = 0) (hb8_4 : fb8 4 = 0) (hb9_0 : fb9 0 = (-1)) (hb9_1 : fb9 1 = 0) (hb9_2 : fb9 2 = 0) (hb9_3 : fb9 3 = 0) (hb9_4 : fb9 4 = 0) {p : Program} {e : Env} {s : State} {m : MethodId} {below : List Frame} {meth : Method} {c : Code} {A : Nat → Prop} {H : Heap} {locs : List Loc} {ls : Array Slot} (hx : p.tables.exec = Jvm.exec) (hb : c.code = cX8_digest) (hr : meth.sig.returnType = (some .long)) (hml : c.maxLocals = 7) (hown : s.vm.findClass RX8 = some m.cls) (hlocks : meth.locks = false) (hts : ∀ w ∈ wsX8_digest, w.before ([.ref mo] : List Value).toArray s = true) (hR0 : va_P (dC, dI) vwCl [(mr, .inr (9, [.ref ll, .ref lt, .ref lp, .int 0, .int 0, .int 0, .int 0, .int 0, .int 0, .int 0, .int (-1), .int 0, .int 0, .int 0])), (ll, .inr (1, [.int 2, .ref ola, .int 2])), (lt, .inr (1, [.int 10, .ref ota, .int 10])), (lp, .inr (1, [.int 0, .ref ed, .int 0])), (ola, .inl (cOl, 10, .inr (.inr (.inr (.inr fol))))), (ota, .inl (cOt, 10, .inr (.inr (.inr (.inr fot)))))] s.heap) (hN : zN s) (hA : ∀ q : Nat, s.heap.size ≤ q → A q) (hAr : ∀ p ∈ ([(mr, .inr (9, [.ref ll, .ref lt, .ref lp, .int 0, .int 0, .int 0, .int 0, .int 0, .int 0, .int 0, .int (-1), .int 0, .int 0, .int 0])), (ll, .inr (1, [.int 2, .ref ola, .int 2])), (lt, .inr (1, [.int 10, .ref ota, .int 10])), (lp, .inr (1, [.int 0, .ref ed, .int 0])), (ola, .inl (cOl, 10, .inr (.inr (.inr (.inr fol))))), (ota, .inl (cOt, 10, .inr (.inr (.inr (.inr fot)))))] : va_W), ¬ A p.1) (hH : zH ed A s s.heap) (hAe : va_A [(mo, .inr (10, [.int x9, .ref mr, .int 1, .long s9])), (la0, .inl (cA0, 10, .inl fa0)), (la1, .inl (cA1, 10, .inl fa1)), (ta0, .inl (cB0, 5, .inl fb0)), (ta1, .inl (cB1, 5, .inl fb1)), (ta2, .inl (cB2, 5, .inl fb2)), (ta3, .inl (cB3, 5, .inl fb3)), (ta4, .inl (cB4, 5, .inl fb4)), (ta5, .inl (cB5, 5, .inl fb5)), (ta6, .inl (cB6, 5, .inl fb6)), (ta7, .inl (cB7, 5, .inl fb7)), (ta8, .inl (cB8, 5, .inl fb8)), (ta9, .inl (cB9, 5, .inl fb9))] s.heap.size = A) (hK : va_K (dC, dI) vwCl [(cOl, .object "java/lang/Object"), (cOt, .object "java/lang/Object"), (cA0, .int), (cA1, .int), (cB0, .int), (cB1, .int), (cB2, .int), (cB3, .int), (cB4, .int), (cB5, .int), (cB6, .int), (cB7, .int), (cB8, .int), (cB9, .int)] s) (hP : va_P (dC, dI) vwCl [(la0, .inl (cA0, 10, .inl fa0)), (la1, .inl (cA1, 10, .inl fa1)), (ta0, .inl (cB0, 5, .inl fb0)), (ta1, .inl (cB1, 5, .inl fb1)), (ta2, .inl (cB2, 5, .inl fb2)), (ta3, .inl (cB3, 5, .inl fb3)), (ta4, .inl (cB4, 5, .inl fb4)), (ta5, .inl (cB5, 5, .inl fb5)), (ta6, .inl (cB6, 5, .inl fb6)), (ta7, .inl (cB7, 5, .inl fb7)), (ta8, .inl (cB8, 5, .inl fb8)), (ta9, .inl (cB9, 5, .inl fb9)), (mo, .inr (10, [.int 0, .ref mr, .int 1, .long (-5202561509149620225)]))] H) (hD : va_D A [(la0, .inl (cA0, 10, .inl fa0)), (la1, .inl (cA1, 10, .inl fa1)), (ta0, .inl (cB0, 5, .inl fb0)), (ta1, .inl (cB1, 5, .inl fb1)), (ta2, .inl (cB2, 5, .inl fb2)), (ta3, .inl (cB3, 5, .inl fb3)), (ta4, .inl (cB4, 5, .inl fb4)), (ta5, .inl (cB5, 5, .inl fb5)), (ta6, .inl (cB6, 5, .inl fb6)), (ta7, .inl (cB7, 5, .inl fb7)), (ta8, .inl (cB8, 5, .inl fb8)), (ta9, .inl (cB9, 5, .inl fb9)), (mo, .inr (10, [.int 0, .ref mr, .int 1, .long (-5202561509149620225)]))]) (hS : va_S A s.heap H locs) (hl : lv_has ls 7 [(1, .int 4), (2, .int 6), (0, .ref mo)]) : W p l e (headSpec wsX8_digest ({ frames := 9, cells := 59, slots := 18922, locals := 211 } : Jvm.Room)).room s m (([.ref mo] : List Value).toArray) below meth c H locs 19 361 (MQ below (va_Ql (fun (r : Int64) (_ : Unit) => r = 1244744325466633148) (fun (_ : Unit) (t : State) => (18432 ≤ zc_S s.heap.size t.heap) ∧ (fa0 0 = 0 ∧ fa0 1 = 0 ∧ fa0 2 = 60 ∧ fa0 3 = 0 ∧ fa0 4 = 0 ∧ fa0 5 = 0 ∧ fa0 6 = 0 ∧ fa0 7 = 0 ∧ fa0 8 = 0 ∧ fa0 9 = 0 ∧ fa1 0 = 0 ∧ fa1 1 = 0 ∧ fa1 2 = 60 ∧ fa1 3 = 0 ∧ fa1 4 = 0 ∧ fa1 5 = 0 ∧ fa1 6 = 0 ∧ fa1 7 = 0 ∧ fa1 8 = 0 ∧ fa1 9 = 0 ∧ fb0 0 = (-1) ∧ fb0 1 = 0 ∧ fb0 2 = 0 ∧ fb0 3 = 0 ∧ fb0 4 = 0 ∧ fb1 0 = (-1) ∧ fb1 1 = 0 ∧ fb1 2 = 0 ∧ fb1 3 = 0 ∧ fb1 4 = 0 ∧ fb2 0 = (-1) ∧ fb2 1 = 0 ∧ fb2 2 = 0 ∧ fb2 3 = 0 ∧ fb2 4 = 0 ∧ fb3 0 = (-1) ∧ fb3 1 = 0 ∧ fb3 2 = 0 ∧ fb3 3 = 0 ∧ fb3 4 = 0 ∧ fb4 0 = (-1) ∧ fb4 1 = 0 ∧ fb4 2 = 0 ∧ fb4 3 = 0 ∧ fb4 4 = 0 ∧ fb5 0 = (-1) ∧ fb5 1 = 0 ∧ fb5 2 = 0 ∧ fb5 3 = 0 ∧ fb5 4 = 0 ∧ fb6 0 = (-1) ∧ fb6 1 = 0 ∧ fb6 2 = 0 ∧ fb6 3 = 0 ∧ fb6 4 = 0 ∧ fb7 0 = (-1) ∧ fb7 1 = 0 ∧ fb7 2 = 0 ∧ fb7 3 = 0 ∧ fb7 4 = 0 ∧ fb8 0 = (-1) ∧ fb8 1 = 0 ∧ fb8 2 = 0 ∧ fb8 3 = 0 ∧ fb8 4 = 0 ∧ fb9 0 = (-1) ∧ fb9 1 = 0 ∧ fb9 2 = 0 ∧ fb9 3 = 0 ∧ fb9 4 = 0) ∧ va_P (dC, dI) vwCl [(mo, .inr (10, [.int 0, .ref mr, .int 1, .long 1244744325466633148])), (la0, .inl (cA0, 10, .inl fa0)), (la1, .inl (cA1, 10, .inl fa1)), (ta0, .inl (cB0, 5, .inl fb0)), (ta1, .inl (cB1, 5, .inl fb1)), (ta2, .inl (cB2, 5, .inl fb2)), (ta3, .inl (cB3, 5, .inl fb3)), (ta4, .inl (cB4, 5, .inl fb4)), (ta5, .inl (cB5, 5, .inl fb5)), (ta6, .inl (cB6, 5, .inl fb6)), (ta7, .inl (cB7, 5, .inl fb7)), (ta8, .inl (cB8, 5, .inl fb8)), (ta9, .inl (cB9, 5, .inl fb9))] t.heap ∧ va_D A [(mo, .inr (10, [.int 0, .ref mr, .int 1, .long 1244744325466633148])), (la0, .inl (cA0, 10, .inl fa0)), (la1, .inl (cA1, 10, .inl fa1)), (ta0, .inl (cB0, 5, .inl fb0)), (ta1, .inl (cB1, 5, .inl fb1)), (ta2, .inl (cB2, 5, .inl fb2)), (ta3, .inl (cB3, 5, .inl fb3)), (ta4, .inl (cB4, 5, .inl fb4)), (ta5, .inl (cB5, 5, .inl fb5)), (ta6, .inl (cB6, 5, .inl fb6)), (ta7, .inl (cB7, 5, .inl fb7)), (ta8, .inl (cB8, 5, .inl fb8)), (ta9, .inl (cB9, 5, .inl fb9))] ∧ va_K (dC, dI) vwCl [(cA0, .int), (cA1, .int), (cB0, .int), (cB1, .int), (cB2, .int), (cB3, .int), (cB4, .int), (cB5, .int), (cB6, .int), (cB7, .int), (cB8, .int), (cB9, .int)] t) A) (([.ref mo] : List Value).toArray) s 59 18922 A) (F0 m 83 ls []) := by
  refine lv_iload_n hx hb dX8_digest_83 rfl (lv_at hl 0 rfl) ?_
  refine lv_aload_n hx hb dX8_digest_84 rfl (lv_at hl 2 rfl) ?_
  refine va_get (D := (dC, dI)) (ci := 10) (v := .ref mr) (C := RX8) (T := TX8) (N := 4) hx hb hts zi_X8_digest_X8 hown hK hP 12 rfl rfl 1 (by decide) (hts (.fieldLink RX8 10 "LockRoomsModel" "room" "LLockRoomsModel$Room;") (by decide +kernel)) (fun _ h9 => h9) rfl dX8_digest_85 ?_
  refine va_getN (D := (dC, dI)) (ci := 9) (v := .ref lt) (C := RX7) (T := TX7) (N := 14) hx hb hts zi_X8_digest_X7 hown hK (zo_R hR0 hS hAr) 0 rfl rfl 1 (by decide) (va_Nw.use rfl (hN.1 ("LockRoomsModel", 38, "LockRoomsModel$Room", "things", "Ljava/util/ArrayList;", "LockRoomsModel") (List.mem_of_getElem? (i := 2) rfl))) (fun _ h9 => h9) rfl dX8_digest_88 ?_
  have hPr := ((zo_R hR0 hS hAr)).sub (ws' := [(lt, .inr (1, [.int 10, .ref ota, .int 10]))]) [2] rfl
  have hPc := hP.sub (ws' := []) [] rfl
  have hDc := hD.sub (ws' := []) [] (by decide) rfl
  have hKc := hK.sub (tys' := []) [] rfl
  have hFc := va_free (wc := []) hD hS hA [] rfl
  refine va_calli (va_runV (As := []) (rest := [.int 4]) ⟨hx, hb, hml, hown, hts⟩ (cz_Qsize l dC dI ed H.size lt 10 ota 10) (cwV 0 hts gX8_digest_Jx4a65c_size_8abf5 rfl rfl rfl (by decide +kernel) ⟨Nat.le_of_ble_eq_true rfl, Nat.le_of_ble_eq_true rfl⟩) ⟨zb_blind, va_recv hK (zo_R hR0 hS hAr) (ci := 1) (q0 := 2) rfl rfl, fun U hU hW => ⟨rfl, zb_mk hU hW hPr hPc hKc hDc hN hH hS hFc zx_e⟩⟩ rfl rfl hl.1 rfl (lv_room (Nat.le_of_ble_eq_true rfl)) dX8_digest_91 ⟨Nat.le_of_ble_eq_true rfl, Nat.le_of_ble_eq_true rfl⟩) hS (fun q _ h => hFc q h) hFc (fun r333 u t H332 locs ht hvm hw hB hz1 hk1 hS => ?_)
  obtain rfl : r333 = 10 := hw.trans (by decide +kernel)
  have hP := zo_K hP hk1
  refine lv_icmp_ge (tgt := 127) hx hb dX8_digest_94 (by decide) (fun h => absurd h (by decide)) (fun _ => ?_)
  refine lv_iconst (v := 0) hx hb dX8_digest_97 (by decide) ?_
  refine lv_istore_n (lv' := [(2, .int 0), (1, .int 4), (0, .ref mo)]) hx hb dX8_digest_98 rfl hl (by decide) rfl (fun ls hl => ?_)
  refine lv_iload_n hx hb dX8_digest_99 rfl (lv_at hl 0 rfl) ?_
  refine lv_bipush (v := 6) hx hb dX8_digest_100 (by decide) ?_
  refine lv_icmp_ge (tgt := 121) hx hb dX8_digest_102 (by decide) (fun h => absurd h (by decide)) (fun _ => ?_)
  refine lv_aload_n hx hb dX8_digest_105 rfl (lv_at hl 2 rfl) ?_
  refine lv_aload_n hx hb dX8_digest_106 rfl (lv_at hl 2 rfl) ?_
  refine lv_iload_n hx hb dX8_digest_107 rfl (lv_at hl 1 rfl) ?_
  refine lv_iload_n hx hb dX8_digest_108 rfl (lv_at hl 0 rfl) ?_
  have hPr := (show va_P (dC, dI) vwCl [(mo, .inr (10, [.int 0, .ref mr, .int 1, .long (-5202561509149620225)])), (mr, .inr (9, [.ref ll, .ref lt, .ref lp, .int 0, .int 0, .int 0, .int 0, .int 0, .int 0, .int 0, .int (-1), .int 0, .int 0, .int 0])), (lt, .inr (1, [.int 10, .ref ota, .int 10])), (ota, .inl (cOt, 10, .inr (.inr (.inr (.inr fot))))), (ta4, .inl (cB4, 5, .inl fb4))] H332 from (zo_cons ((hP) 12 _ rfl) (zo_cons (((zo_R hR0 hS hAr)) 0 _ rfl) (zo_cons (((zo_R hR0 hS hAr)) 2 _ rfl) (zo_cons (((zo_R hR0 hS hAr)) 5 _ rfl) (zo_cons ((hP) 6 _ rfl) (zo_nil : va_P (dC, dI) vwCl [] H332)))))))
  have hPc := hP.sub (ws' := []) [] rfl
  have hDc := hD.sub (ws' := []) [] (by decide) rfl
  have hKc := hK.sub (tys' := [(cOt, .object "java/lang/Object"), (cB4, .int)]) [1, 8] rfl
  have hFc := va_free (wc := []) hD hS hA [] rfl
  refine va_calli (va_runV (As := [.int 4, .int 0]) (rest := [.ref mo]) ⟨hx, hb, hml, hown, hts⟩ (cz_QofThingNow_4_0 l dC dI ed H332.size mo mr 0 (-5202561509149620225) ll lt lp ota cOt fot ta4 cB4 fb4 hot4 hb4_0) (cwV 2 hts gX8_digest_X8_ofThingNow rfl rfl rfl (by decide +kernel) ⟨Nat.le_of_ble_eq_true rfl, Nat.le_of_ble_eq_true rfl⟩) ⟨zb_blind, va_recv hK hP (ci := 10) (q0 := 12) rfl rfl, fun U hU hW => ⟨rfl, zb_mk hU hW hPr hPc hKc hDc hN hH hS hFc zx_e⟩⟩ rfl rfl hl.1 rfl (lv_room (Nat.le_of_ble_eq_true rfl)) dX8_digest_109 ⟨Nat.le_of_ble_eq_true rfl, Nat.le_of_ble_eq_true rfl⟩) hS (fun q _ h => hFc q h) hFc (fun r335 u t H334 locs ht hvm hw hB hz1 hk1 hS => ?_)
  obtain rfl : r335 = (-1) := hw
  have hP := zo_K hP hk1
  have hPr := (zo_nil : va_P (dC, dI) vwCl [] H334)
  have hPc := hP.sub (ws' := [(mo, .inr (10, [.int 0, .ref mr, .int 1, .long (-5202561509149620225)]))]) [12] rfl
  have hDc := hD.sub (ws' := [(mo, .inr (10, [.int 0, .ref mr, .int 1, .long (-5202561509149620225)]))]) [12] (by decide) rfl
  have hKc := hK.sub (tys' := []) [] rfl
  have hFc := va_free (wc := [(mo, .inr (10, [.int 0, .ref mr, .int 1, .long (-5202561509149620225)]))]) hD hS hA [12] rfl
  refine va_callv (va_runV (As := [.int (-1)]) (rest := []) ⟨hx, hb, hml, hown, hts⟩ (cz_X8_add l dC dI ed H334.size mo mr 0 (-5202561509149620225) (-1)) (cwV 1 hts gX8_digest_X8_add rfl rfl rfl (by decide +kernel) ⟨Nat.le_of_ble_eq_true rfl, Nat.le_of_ble_eq_true rfl⟩) ⟨zb_blind, va_recv hK hP (ci := 10) (q0 := 12) rfl rfl, fun U hU hW => ⟨rfl, zb_mk hU hW hPr hPc hKc hDc hN hH hS hFc zx_nil⟩⟩ rfl rfl hl.1 rfl (lv_room (Nat.le_of_ble_eq_true rfl)) dX8_digest_112 ⟨Nat.le_of_ble_eq_true rfl, Nat.le_of_ble_eq_true rfl⟩) hS (fun q _ h => hFc q h) hFc (fun u t H336 locs ht hvm hw hB hz1 hk1 hS => ?_)
  obtain ⟨s1_338, hf338_0, hP1, hD1, hK1⟩ := hB
  obtain rfl : s1_338 = 4741289879747737568 := hf338_0.trans (by first | rfl | decide +kernel)
  rw [ht] at hP1
  obtain ⟨hP, hD⟩ := va_join (wr := [(la0, .inl (cA0, 10, .inl fa0)), (la1, .inl (cA1, 10, .inl fa1)), (ta0, .inl (cB0, 5, .inl fb0)), (ta1, .inl (cB1, 5, .inl fb1)), (ta2, .inl (cB2, 5, .inl fb2)), (ta3, .inl (cB3, 5, .inl fb3)), (ta4, .inl (cB4, 5, .inl fb4)), (ta5, .inl (cB5, 5, .inl fb5)), (ta6, .inl (cB6, 5, .inl fb6)), (ta7, .inl (cB7, 5, .inl fb7)), (ta8, .inl (cB8, 5, .inl fb8)), (ta9, .inl (cB9, 5, .inl fb9))]) (w1 := [(mo, .inr (10, [.int 0, .ref mr, .int 1, .long 4741289879747737568]))]) hP hD [12] [0, 1, 2, 3, 4, 5, 6, 7, 8, 9, 10, 11] rfl rfl (by decide) (by decide) hk1 hFc hP1 hD1
  have hP : va_P (dC, dI) vwCl [(la0, .inl (cA0, 10, .inl fa0)), (la1, .inl (cA1, 10, .inl fa1)), (ta0, .inl (cB0, 5, .inl fb0)), (ta1, .inl (cB1, 5, .inl fb1)), (ta2, .inl (cB2, 5, .inl fb2)), (ta3, .inl (cB3, 5, .inl fb3)), (ta4, .inl (cB4, 5, .inl fb4)), (ta5, .inl (cB5, 5, .inl fb5)), (ta6, .inl (cB6, 5, .inl fb6)), (ta7, .inl (cB7, 5, .inl fb7)), (ta8, .inl (cB8, 5, .inl fb8)), (ta9, .inl (cB9, 5, .inl fb9)), (mo, .inr (10, [.int 0, .ref mr, .int 1, .long 4741289879747737568]))] H336 := hP
  have hD : va_D A [(la0, .inl (cA0, 10, .inl fa0)), (la1, .inl (cA1, 10, .inl fa1)), (ta0, .inl (cB0, 5, .inl fb0)), (ta1, .inl (cB1, 5, .inl fb1)), (ta2, .inl (cB2, 5, .inl fb2)), (ta3, .inl (cB3, 5, .inl fb3)), (ta4, .inl (cB4, 5, .inl fb4)), (ta5, .inl (cB5, 5, .inl fb5)), (ta6, .inl (cB6, 5, .inl fb6)), (ta7, .inl (cB7, 5, .inl fb7)), (ta8, .inl (cB8, 5, .inl fb8)), (ta9, .inl (cB9, 5, .inl fb9)), (mo, .inr (10, [.int 0, .ref mr, .int 1, .long 4741289879747737568]))] := hD
  refine lv_iinc (v := 1) (lv' := [(2, .int 1), (1, .int 4), (0, .ref mo)]) hx hb dX8_digest_115 hl (k := 0) rfl (by decide) (by decide) rfl (fun ls hl => ?_)
  refine lv_goto (tgt := 99) hx hb dX8_digest_118 (by decide) ?_
  refine lv_iload_n hx hb dX8_digest_99 rfl (lv_at hl 0 rfl) ?_
  refine lv_bipush (v := 6) hx hb dX8_digest_100 (by decide) ?_
  refine lv_icmp_ge (tgt := 121) hx hb dX8_digest_102 (by decide) (fun h => absurd h (by decide)) (fun _ => ?_)
  refine lv_aload_n hx hb dX8_digest_105 rfl (lv_at hl 2 rfl) ?_
  refine lv_aload_n hx hb dX8_digest_106 rfl (lv_at hl 2 rfl) ?_
  refine lv_iload_n hx hb dX8_digest_107 rfl (lv_at hl 1 rfl) ?_
  refine lv_iload_n hx hb dX8_digest_108 rfl (lv_at hl 0 rfl) ?_
  have hPr := (show va_P (dC, dI) vwCl [(mo, .inr (10, [.int 0, .ref mr, .int 1, .long 4741289879747737568])), (mr, .inr (9, [.ref ll, .ref lt, .ref lp, .int 0, .int 0, .int 0, .int 0, .int 0, .int 0, .int 0, .int (-1), .int 0, .int 0, .int 0])), (lt, .inr (1, [.int 10, .ref ota, .int 10])), (ota, .inl (cOt, 10, .inr (.inr (.inr (.inr fot))))), (ta4, .inl (cB4, 5, .inl fb4))] H336 from (zo_cons ((hP) 12 _ rfl) (zo_cons (((zo_R hR0 hS hAr)) 0 _ rfl) (zo_cons (((zo_R hR0 hS hAr)) 2 _ rfl) (zo_cons (((zo_R hR0 hS hAr)) 5 _ rfl) (zo_cons ((hP) 6 _ rfl) (zo_nil : va_P (dC, dI) vwCl [] H336)))))))
  have hPc := hP.sub (ws' := []) [] rfl
  have hDc := hD.sub (ws' := []) [] (by decide) rfl
  have hKc := hK.sub (tys' := [(cOt, .object "java/lang/Object"), (cB4, .int)]) [1, 8] rfl
  have hFc := va_free (wc := []) hD hS hA [] rfl
  refine va_calli (va_runV (As := [.int 4, .int 1]) (rest := [.ref mo]) ⟨hx, hb, hml, hown, hts⟩ (cz_QofThingNow_4_1 l dC dI ed H336.size mo mr 0 4741289879747737568 ll lt lp ota cOt fot ta4 cB4 fb4 hot4 hb4_1) (cwV 2 hts gX8_digest_X8_ofThingNow rfl rfl rfl (by decide +kernel) ⟨Nat.le_of_ble_eq_true rfl, Nat.le_of_ble_eq_true rfl⟩) ⟨zb_blind, va_recv hK hP (ci := 10) (q0 := 12) rfl rfl, fun U hU hW => ⟨rfl, zb_mk hU hW hPr hPc hKc hDc hN hH hS hFc zx_e⟩⟩ rfl rfl hl.1 rfl (lv_room (Nat.le_of_ble_eq_true rfl)) dX8_digest_109 ⟨Nat.le_of_ble_eq_true rfl, Nat.le_of_ble_eq_true rfl⟩) hS (fun q _ h => hFc q h) hFc (fun r340 u t H339 locs ht hvm hw hB hz1 hk1 hS => ?_)
  obtain rfl : r340 = 0 := hw
  have hP := zo_K hP hk1
  have hPr := (zo_nil : va_P (dC, dI) vwCl [] H339)
  have hPc := hP.sub (ws' := [(mo, .inr (10, [.int 0, .ref mr, .int 1, .long 4741289879747737568]))]) [12] rfl
  have hDc := hD.sub (ws' := [(mo, .inr (10, [.int 0, .ref mr, .int 1, .long 4741289879747737568]))]) [12] (by decide) rfl
  have hKc := hK.sub (tys' := []) [] rfl
  have hFc := va_free (wc := [(mo, .inr (10, [.int 0, .ref mr, .int 1, .long 4741289879747737568]))]) hD hS hA [12] rfl
  refine va_callv (va_runV (As := [.int 0]) (rest := []) ⟨hx, hb, hml, hown, hts⟩ (cz_X8_add l dC dI ed H339.size mo mr 0 4741289879747737568 0) (cwV 1 hts gX8_digest_X8_add rfl rfl rfl (by decide +kernel) ⟨Nat.le_of_ble_eq_true rfl, Nat.le_of_ble_eq_true rfl⟩) ⟨zb_blind, va_recv hK hP (ci := 10) (q0 := 12) rfl rfl, fun U hU hW => ⟨rfl, zb_mk hU hW hPr hPc hKc hDc hN hH hS hFc zx_nil⟩⟩ rfl rfl hl.1 rfl (lv_room (Nat.le_of_ble_eq_true rfl)) dX8_digest_112 ⟨Nat.le_of_ble_eq_true rfl, Nat.le_of_ble_eq_true rfl⟩) hS (fun q _ h => hFc q h) hFc (fun u t H341 locs ht hvm hw hB hz1 hk1 hS => ?_)
  obtain ⟨s1_343, hf343_0, hP1, hD1, hK1⟩ := hB
  obtain rfl : s1_343 = (-593966317496548320) := hf343_0.trans (by first | rfl | decide +kernel)
  rw [ht] at hP1
  obtain ⟨hP, hD⟩ := va_join (wr := [(la0, .inl (cA0, 10, .inl fa0)), (la1, .inl (cA1, 10, .inl fa1)), (ta0, .inl (cB0, 5, .inl fb0)), (ta1, .inl (cB1, 5, .inl fb1)), (ta2, .inl (cB2, 5, .inl fb2)), (ta3, .inl (cB3, 5, .inl fb3)), (ta4, .inl (cB4, 5, .inl fb4)), (ta5, .inl (cB5, 5, .inl fb5)), (ta6, .inl (cB6, 5, .inl fb6)), (ta7, .inl (cB7, 5, .inl fb7)), (ta8, .inl (cB8, 5, .inl fb8)), (ta9, .inl (cB9, 5, .inl fb9))]) (w1 := [(mo, .inr (10, [.int 0, .ref mr, .int 1, .long (-593966317496548320)]))]) hP hD [12] [0, 1, 2, 3, 4, 5, 6, 7, 8, 9, 10, 11] rfl rfl (by decide) (by decide) hk1 hFc hP1 hD1
  have hP : va_P (dC, dI) vwCl [(la0, .inl (cA0, 10, .inl fa0)), (la1, .inl (cA1, 10, .inl fa1)), (ta0, .inl (cB0, 5, .inl fb0)), (ta1, .inl (cB1, 5, .inl fb1)), (ta2, .inl (cB2, 5, .inl fb2)), (ta3, .inl (cB3, 5, .inl fb3)), (ta4, .inl (cB4, 5, .inl fb4)), (ta5, .inl (cB5, 5, .inl fb5)), (ta6, .inl (cB6, 5, .inl fb6)), (ta7, .inl (cB7, 5, .inl fb7)), (ta8, .inl (cB8, 5, .inl fb8)), (ta9, .inl (cB9, 5, .inl fb9)), (mo, .inr (10, [.int 0, .ref mr, .int 1, .long (-593966317496548320)]))] H341 := hP
  have hD : va_D A [(la0, .inl (cA0, 10, .inl fa0)), (la1, .inl (cA1, 10, .inl fa1)), (ta0, .inl (cB0, 5, .inl fb0)), (ta1, .inl (cB1, 5, .inl fb1)), (ta2, .inl (cB2, 5, .inl fb2)), (ta3, .inl (cB3, 5, .inl fb3)), (ta4, .inl (cB4, 5, .inl fb4)), (ta5, .inl (cB5, 5, .inl fb5)), (ta6, .inl (cB6, 5, .inl fb6)), (ta7, .inl (cB7, 5, .inl fb7)), (ta8, .inl (cB8, 5, .inl fb8)), (ta9, .inl (cB9, 5, .inl fb9)), (mo, .inr (10, [.int 0, .ref mr, .int 1, .long (-593966317496548320)]))] := hD
  refine lv_iinc (v := 2) (lv' := [(2, .int 2), (1, .int 4), (0, .ref mo)]) hx hb dX8_digest_115 hl (k := 0) rfl (by decide) (by decide) rfl (fun ls hl => ?_)
  refine lv_goto (tgt := 99) hx hb dX8_digest_118 (by decide) ?_
  refine lv_iload_n hx hb dX8_digest_99 rfl (lv_at hl 0 rfl) ?_
  refine lv_bipush (v := 6) hx hb dX8_digest_100 (by decide) ?_
  refine lv_icmp_ge (tgt := 121) hx hb dX8_digest_102 (by decide) (fun h => absurd h (by decide)) (fun _ => ?_)
  refine lv_aload_n hx hb dX8_digest_105 rfl (lv_at hl 2 rfl) ?_
  refine lv_aload_n hx hb dX8_digest_106 rfl (lv_at hl 2 rfl) ?_
  refine lv_iload_n hx hb dX8_digest_107 rfl (lv_at hl 1 rfl) ?_
  refine lv_iload_n hx hb dX8_digest_108 rfl (lv_at hl 0 rfl) ?_
  have hPr := (show va_P (dC, dI) vwCl [(mo, .inr (10, [.int 0, .ref mr, .int 1, .long (-593966317496548320)])), (mr, .inr (9, [.ref ll, .ref lt, .ref lp, .int 0, .int 0, .int 0, .int 0, .int 0, .int 0, .int 0, .int (-1), .int 0, .int 0, .int 0])), (lt, .inr (1, [.int 10, .ref ota, .int 10])), (ota, .inl (cOt, 10, .inr (.inr (.inr (.inr fot))))), (ta4, .inl (cB4, 5, .inl fb4))] H341 from (zo_cons ((hP) 12 _ rfl) (zo_cons (((zo_R hR0 hS hAr)) 0 _ rfl) (zo_cons (((zo_R hR0 hS hAr)) 2 _ rfl) (zo_cons (((zo_R hR0 hS hAr)) 5 _ rfl) (zo_cons ((hP) 6 _ rfl) (zo_nil : va_P (dC, dI) vwCl [] H341)))))))
  have hPc := hP.sub (ws' := []) [] rfl
  have hDc := hD.sub (ws' := []) [] (by decide) rfl
  have hKc := hK.sub (tys' := [(cOt, .object "java/lang/Object"), (cB4, .int)]) [1, 8] rfl
  have hFc := va_free (wc := []) hD hS hA [] rfl
  refine va_calli (va_runV (As := [.int 4, .int 2]) (rest := [.ref mo]) ⟨hx, hb, hml, hown, hts⟩ (cz_QofThingNow_4_2 l dC dI ed H341.size mo mr 0 (-593966317496548320) ll lt lp ota cOt fot ta4 cB4 fb4 hot4 hb4_2) (cwV 2 hts gX8_digest_X8_ofThingNow rfl rfl rfl (by decide +kernel) ⟨Nat.le_of_ble_eq_true rfl, Nat.le_of_ble_eq_true rfl⟩) ⟨zb_blind, va_recv hK hP (ci := 10) (q0 := 12) rfl rfl, fun U hU hW => ⟨rfl, zb_mk hU hW hPr hPc hKc hDc hN hH hS hFc zx_e⟩⟩ rfl rfl hl.1 rfl (lv_room (Nat.le_of_ble_eq_true rfl)) dX8_digest_109 ⟨Nat.le_of_ble_eq_true rfl, Nat.le_of_ble_eq_true rfl⟩) hS (fun q _ h => hFc q h) hFc (fun r345 u t H344 locs ht hvm hw hB hz1 hk1 hS => ?_)
  obtain rfl : r345 = 0 := hw
  have hP := zo_K hP hk1
  have hPr := (zo_nil : va_P (dC, dI) vwCl [] H344)
  have hPc := hP.sub (ws' := [(mo, .inr (10, [.int 0, .ref mr, .int 1, .long (-593966317496548320)]))]) [12] rfl
  have hDc := hD.sub (ws' := [(mo, .inr (10, [.int 0, .ref mr, .int 1, .long (-593966317496548320)]))]) [12] (by decide) rfl
  have hKc := hK.sub (tys' := []) [] rfl
  have hFc := va_free (wc := [(mo, .inr (10, [.int 0, .ref mr, .int 1, .long (-593966317496548320)]))]) hD hS hA [12] rfl
  refine va_callv (va_runV (As := [.int 0]) (rest := []) ⟨hx, hb, hml, hown, hts⟩ (cz_X8_add l dC dI ed H344.size mo mr 0 (-593966317496548320) 0) (cwV 1 hts gX8_digest_X8_add rfl rfl rfl (by decide +kernel) ⟨Nat.le_of_ble_eq_true rfl, Nat.le_of_ble_eq_true rfl⟩) ⟨zb_blind, va_recv hK hP (ci := 10) (q0 := 12) rfl rfl, fun U hU hW => ⟨rfl, zb_mk hU hW hPr hPc hKc hDc hN hH hS hFc zx_nil⟩⟩ rfl rfl hl.1 rfl (lv_room (Nat.le_of_ble_eq_true rfl)) dX8_digest_112 ⟨Nat.le_of_ble_eq_true rfl, Nat.le_of_ble_eq_true rfl⟩) hS (fun q _ h => hFc q h) hFc (fun u t H346 locs ht hvm hw hB hz1 hk1 hS => ?_)
  obtain ⟨s1_348, hf348_0, hP1, hD1, hK1⟩ := hB
  obtain rfl : s1_348 = 33788231316553696 := hf348_0.trans (by first | rfl | decide +kernel)
  rw [ht] at hP1
  obtain ⟨hP, hD⟩ := va_join (wr := [(la0, .inl (cA0, 10, .inl fa0)), (la1, .inl (cA1, 10, .inl fa1)), (ta0, .inl (cB0, 5, .inl fb0)), (ta1, .inl (cB1, 5, .inl fb1)), (ta2, .inl (cB2, 5, .inl fb2)), (ta3, .inl (cB3, 5, .inl fb3)), (ta4, .inl (cB4, 5, .inl fb4)), (ta5, .inl (cB5, 5, .inl fb5)), (ta6, .inl (cB6, 5, .inl fb6)), (ta7, .inl (cB7, 5, .inl fb7)), (ta8, .inl (cB8, 5, .inl fb8)), (ta9, .inl (cB9, 5, .inl fb9))]) (w1 := [(mo, .inr (10, [.int 0, .ref mr, .int 1, .long 33788231316553696]))]) hP hD [12] [0, 1, 2, 3, 4, 5, 6, 7, 8, 9, 10, 11] rfl rfl (by decide) (by decide) hk1 hFc hP1 hD1
  have hP : va_P (dC, dI) vwCl [(la0, .inl (cA0, 10, .inl fa0)), (la1, .inl (cA1, 10, .inl fa1)), (ta0, .inl (cB0, 5, .inl fb0)), (ta1, .inl (cB1, 5, .inl fb1)), (ta2, .inl (cB2, 5, .inl fb2)), (ta3, .inl (cB3, 5, .inl fb3)), (ta4, .inl (cB4, 5, .inl fb4)), (ta5, .inl (cB5, 5, .inl fb5)), (ta6, .inl (cB6, 5, .inl fb6)), (ta7, .inl (cB7, 5, .inl fb7)), (ta8, .inl (cB8, 5, .inl fb8)), (ta9, .inl (cB9, 5, .inl fb9)), (mo, .inr (10, [.int 0, .ref mr, .int 1, .long 33788231316553696]))] H346 := hP
  have hD : va_D A [(la0, .inl (cA0, 10, .inl fa0)), (la1, .inl (cA1, 10, .inl fa1)), (ta0, .inl (cB0, 5, .inl fb0)), (ta1, .inl (cB1, 5, .inl fb1)), (ta2, .inl (cB2, 5, .inl fb2)), (ta3, .inl (cB3, 5, .inl fb3)), (ta4, .inl (cB4, 5, .inl fb4)), (ta5, .inl (cB5, 5, .inl fb5)), (ta6, .inl (cB6, 5, .inl fb6)), (ta7, .inl (cB7, 5, .inl fb7)), (ta8, .inl (cB8, 5, .inl fb8)), (ta9, .inl (cB9, 5, .inl fb9)), (mo, .inr (10, [.int 0, .ref mr, .int 1, .long 33788231316553696]))] := hD
  refine lv_iinc (v := 3) (lv' := [(2, .int 3), (1, .int 4), (0, .ref mo)]) hx hb dX8_digest_115 hl (k := 0) rfl (by decide) (by decide) rfl (fun ls hl => ?_)
  refine lv_goto (tgt := 99) hx hb dX8_digest_118 (by decide) ?_
  refine lv_iload_n hx hb dX8_digest_99 rfl (lv_at hl 0 rfl) ?_
  refine lv_bipush (v := 6) hx hb dX8_digest_100 (by decide) ?_
  refine lv_icmp_ge (tgt := 121) hx hb dX8_digest_102 (by decide) (fun h => absurd h (by decide)) (fun _ => ?_)
  refine lv_aload_n hx hb dX8_digest_105 rfl (lv_at hl 2 rfl) ?_
  refine lv_aload_n hx hb dX8_digest_106 rfl (lv_at hl 2 rfl) ?_
  refine lv_iload_n hx hb dX8_digest_107 rfl (lv_at hl 1 rfl) ?_
  refine lv_iload_n hx hb dX8_digest_108 rfl (lv_at hl 0 rfl) ?_
  have hPr := (show va_P (dC, dI) vwCl [(mo, .inr (10, [.int 0, .ref mr, .int 1, .long 33788231316553696])), (mr, .inr (9, [.ref ll, .ref lt, .ref lp, .int 0, .int 0, .int 0, .int 0, .int 0, .int 0, .int 0, .int (-1), .int 0, .int 0, .int 0])), (lt, .inr (1, [.int 10, .ref ota, .int 10])), (ota, .inl (cOt, 10, .inr (.inr (.inr (.inr fot))))), (ta4, .inl (cB4, 5, .inl fb4))] H346 from (zo_cons ((hP) 12 _ rfl) (zo_cons (((zo_R hR0 hS hAr)) 0 _ rfl) (zo_cons (((zo_R hR0 hS hAr)) 2 _ rfl) (zo_cons (((zo_R hR0 hS hAr)) 5 _ rfl) (zo_cons ((hP) 6 _ rfl) (zo_nil : va_P (dC, dI) vwCl [] H346)))))))
  have hPc := hP.sub (ws' := []) [] rfl
  have hDc := hD.sub (ws' := []) [] (by decide) rfl
  have hKc := hK.sub (tys' := [(cOt, .object "java/lang/Object"), (cB4, .int)]) [1, 8] rfl
  have hFc := va_free (wc := []) hD hS hA [] rfl
  refine va_calli (va_runV (As := [.int 4, .int 3]) (rest := [.ref mo]) ⟨hx, hb, hml, hown, hts⟩ (cz_QofThingNow_4_3 l dC dI ed H346.size mo mr 0 33788231316553696 ll lt lp ota cOt fot ta4 cB4 fb4 hot4 hb4_3) (cwV 2 hts gX8_digest_X8_ofThingNow rfl rfl rfl (by decide +kernel) ⟨Nat.le_of_ble_eq_true rfl, Nat.le_of_ble_eq_true rfl⟩) ⟨zb_blind, va_recv hK hP (ci := 10) (q0 := 12) rfl rfl, fun U hU hW => ⟨rfl, zb_mk hU hW hPr hPc hKc hDc hN hH hS hFc zx_e⟩⟩ rfl rfl hl.1 rfl (lv_room (Nat.le_of_ble_eq_true rfl)) dX8_digest_109 ⟨Nat.le_of_ble_eq_true rfl, Nat.le_of_ble_eq_true rfl⟩) hS (fun q _ h => hFc q h) hFc (fun r350 u t H349 locs ht hvm hw hB hz1 hk1 hS => ?_)
  obtain rfl : r350 = 0 := hw
  have hP := zo_K hP hk1
  have hPr := (zo_nil : va_P (dC, dI) vwCl [] H349)
  have hPc := hP.sub (ws' := [(mo, .inr (10, [.int 0, .ref mr, .int 1, .long 33788231316553696]))]) [12] rfl
  have hDc := hD.sub (ws' := [(mo, .inr (10, [.int 0, .ref mr, .int 1, .long 33788231316553696]))]) [12] (by decide) rfl
  have hKc := hK.sub (tys' := []) [] rfl
  have hFc := va_free (wc := [(mo, .inr (10, [.int 0, .ref mr, .int 1, .long 33788231316553696]))]) hD hS hA [12] rfl
  refine va_callv (va_runV (As := [.int 0]) (rest := []) ⟨hx, hb, hml, hown, hts⟩ (cz_X8_add l dC dI ed H349.size mo mr 0 33788231316553696 0) (cwV 1 hts gX8_digest_X8_add rfl rfl rfl (by decide +kernel) ⟨Nat.le_of_ble_eq_true rfl, Nat.le_of_ble_eq_true rfl⟩) ⟨zb_blind, va_recv hK hP (ci := 10) (q0 := 12) rfl rfl, fun U hU hW => ⟨rfl, zb_mk hU hW hPr hPc hKc hDc hN hH hS hFc zx_nil⟩⟩ rfl rfl hl.1 rfl (lv_room (Nat.le_of_ble_eq_true rfl)) dX8_digest_112 ⟨Nat.le_of_ble_eq_true rfl, Nat.le_of_ble_eq_true rfl⟩) hS (fun q _ h => hFc q h) hFc (fun u t H351 locs ht hvm hw hB hz1 hk1 hS => ?_)
  obtain ⟨s1_353, hf353_0, hP1, hD1, hK1⟩ := hB
  obtain rfl : s1_353 = 1047435170813164576 := hf353_0.trans (by first | rfl | decide +kernel)
  rw [ht] at hP1
  obtain ⟨hP, hD⟩ := va_join (wr := [(la0, .inl (cA0, 10, .inl fa0)), (la1, .inl (cA1, 10, .inl fa1)), (ta0, .inl (cB0, 5, .inl fb0)), (ta1, .inl (cB1, 5, .inl fb1)), (ta2, .inl (cB2, 5, .inl fb2)), (ta3, .inl (cB3, 5, .inl fb3)), (ta4, .inl (cB4, 5, .inl fb4)), (ta5, .inl (cB5, 5, .inl fb5)), (ta6, .inl (cB6, 5, .inl fb6)), (ta7, .inl (cB7, 5, .inl fb7)), (ta8, .inl (cB8, 5, .inl fb8)), (ta9, .inl (cB9, 5, .inl fb9))]) (w1 := [(mo, .inr (10, [.int 0, .ref mr, .int 1, .long 1047435170813164576]))]) hP hD [12] [0, 1, 2, 3, 4, 5, 6, 7, 8, 9, 10, 11] rfl rfl (by decide) (by decide) hk1 hFc hP1 hD1
  have hP : va_P (dC, dI) vwCl [(la0, .inl (cA0, 10, .inl fa0)), (la1, .inl (cA1, 10, .inl fa1)), (ta0, .inl (cB0, 5, .inl fb0)), (ta1, .inl (cB1, 5, .inl fb1)), (ta2, .inl (cB2, 5, .inl fb2)), (ta3, .inl (cB3, 5, .inl fb3)), (ta4, .inl (cB4, 5, .inl fb4)), (ta5, .inl (cB5, 5, .inl fb5)), (ta6, .inl (cB6, 5, .inl fb6)), (ta7, .inl (cB7, 5, .inl fb7)), (ta8, .inl (cB8, 5, .inl fb8)), (ta9, .inl (cB9, 5, .inl fb9)), (mo, .inr (10, [.int 0, .ref mr, .int 1, .long 1047435170813164576]))] H351 := hP
  have hD : va_D A [(la0, .inl (cA0, 10, .inl fa0)), (la1, .inl (cA1, 10, .inl fa1)), (ta0, .inl (cB0, 5, .inl fb0)), (ta1, .inl (cB1, 5, .inl fb1)), (ta2, .inl (cB2, 5, .inl fb2)), (ta3, .inl (cB3, 5, .inl fb3)), (ta4, .inl (cB4, 5, .inl fb4)), (ta5, .inl (cB5, 5, .inl fb5)), (ta6, .inl (cB6, 5, .inl fb6)), (ta7, .inl (cB7, 5, .inl fb7)), (ta8, .inl (cB8, 5, .inl fb8)), (ta9, .inl (cB9, 5, .inl fb9)), (mo, .inr (10, [.int 0, .ref mr, .int 1, .long 1047435170813164576]))] := hD
  refine lv_iinc (v := 4) (lv' := [(2, .int 4), (1, .int 4), (0, .ref mo)]) hx hb dX8_digest_115 hl (k := 0) rfl (by decide) (by decide) rfl (fun ls hl => ?_)
  refine lv_goto (tgt := 99) hx hb dX8_digest_118 (by decide) ?_
  refine lv_iload_n hx hb dX8_digest_99 rfl (lv_at hl 0 rfl) ?_
  refine lv_bipush (v := 6) hx hb dX8_digest_100 (by decide) ?_
  refine lv_icmp_ge (tgt := 121) hx hb dX8_digest_102 (by decide) (fun h => absurd h (by decide)) (fun _ => ?_)
  refine lv_aload_n hx hb dX8_digest_105 rfl (lv_at hl 2 rfl) ?_
  refine lv_aload_n hx hb dX8_digest_106 rfl (lv_at hl 2 rfl) ?_
  refine lv_iload_n hx hb dX8_digest_107 rfl (lv_at hl 1 rfl) ?_
  refine lv_iload_n hx hb dX8_digest_108 rfl (lv_at hl 0 rfl) ?_
  have hPr := (show va_P (dC, dI) vwCl [(mo, .inr (10, [.int 0, .ref mr, .int 1, .long 1047435170813164576])), (mr, .inr (9, [.ref ll, .ref lt, .ref lp, .int 0, .int 0, .int 0, .int 0, .int 0, .int 0, .int 0, .int (-1), .int 0, .int 0, .int 0])), (lt, .inr (1, [.int 10, .ref ota, .int 10])), (ota, .inl (cOt, 10, .inr (.inr (.inr (.inr fot))))), (ta4, .inl (cB4, 5, .inl fb4))] H351 from (zo_cons ((hP) 12 _ rfl) (zo_cons (((zo_R hR0 hS hAr)) 0 _ rfl) (zo_cons (((zo_R hR0 hS hAr)) 2 _ rfl) (zo_cons (((zo_R hR0 hS hAr)) 5 _ rfl) (zo_cons ((hP) 6 _ rfl) (zo_nil : va_P (dC, dI) vwCl [] H351)))))))
  have hPc := hP.sub (ws' := []) [] rfl
  have hDc := hD.sub (ws' := []) [] (by decide) rfl
  have hKc := hK.sub (tys' := [(cOt, .object "java/lang/Object"), (cB4, .int)]) [1, 8] rfl
  have hFc := va_free (wc := []) hD hS hA [] rfl
  refine va_calli (va_runV (As := [.int 4, .int 4]) (rest := [.ref mo]) ⟨hx, hb, hml, hown, hts⟩ (cz_QofThingNow_4_4 l dC dI ed H351.size mo mr 0 1047435170813164576 ll lt lp ota cOt fot ta4 cB4 fb4 hot4 hb4_0 hb4_3) (cwV 2 hts gX8_digest_X8_ofThingNow rfl rfl rfl (by decide +kernel) ⟨Nat.le_of_ble_eq_true rfl, Nat.le_of_ble_eq_true rfl⟩) ⟨zb_blind, va_recv hK hP (ci := 10) (q0 := 12) rfl rfl, fun U hU hW => ⟨rfl, zb_mk hU hW hPr hPc hKc hDc hN hH hS hFc zx_e⟩⟩ rfl rfl hl.1 rfl (lv_room (Nat.le_of_ble_eq_true rfl)) dX8_digest_109 ⟨Nat.le_of_ble_eq_true rfl, Nat.le_of_ble_eq_true rfl⟩) hS (fun q _ h => hFc q h) hFc (fun r355 u t H354 locs ht hvm hw hB hz1 hk1 hS => ?_)
  obtain rfl : r355 = 1 := hw
  have hP := zo_K hP hk1
  have hPr := (zo_nil : va_P (dC, dI) vwCl [] H354)
  have hPc := hP.sub (ws' := [(mo, .inr (10, [.int 0, .ref mr, .int 1, .long 1047435170813164576]))]) [12] rfl
  have hDc := hD.sub (ws' := [(mo, .inr (10, [.int 0, .ref mr, .int 1, .long 1047435170813164576]))]) [12] (by decide) rfl
  have hKc := hK.sub (tys' := []) [] rfl
  have hFc := va_free (wc := [(mo, .inr (10, [.int 0, .ref mr, .int 1, .long 1047435170813164576]))]) hD hS hA [12] rfl
  refine va_callv (va_runV (As := [.int 1]) (rest := []) ⟨hx, hb, hml, hown, hts⟩ (cz_X8_add l dC dI ed H354.size mo mr 0 1047435170813164576 1) (cwV 1 hts gX8_digest_X8_add rfl rfl rfl (by decide +kernel) ⟨Nat.le_of_ble_eq_true rfl, Nat.le_of_ble_eq_true rfl⟩) ⟨zb_blind, va_recv hK hP (ci := 10) (q0 := 12) rfl rfl, fun U hU hW => ⟨rfl, zb_mk hU hW hPr hPc hKc hDc hN hH hS hFc zx_nil⟩⟩ rfl rfl hl.1 rfl (lv_room (Nat.le_of_ble_eq_true rfl)) dX8_digest_112 ⟨Nat.le_of_ble_eq_true rfl, Nat.le_of_ble_eq_true rfl⟩) hS (fun q _ h => hFc q h) hFc (fun u t H356 locs ht hvm hw hB hz1 hk1 hS => ?_)
  obtain ⟨s1_358, hf358_0, hP1, hD1, hK1⟩ := hB
  obtain rfl : s1_358 = (-4422997852211001375) := hf358_0.trans (by first | rfl | decide +kernel)
  rw [ht] at hP1
  obtain ⟨hP, hD⟩ := va_join (wr := [(la0, .inl (cA0, 10, .inl fa0)), (la1, .inl (cA1, 10, .inl fa1)), (ta0, .inl (cB0, 5, .inl fb0)), (ta1, .inl (cB1, 5, .inl fb1)), (ta2, .inl (cB2, 5, .inl fb2)), (ta3, .inl (cB3, 5, .inl fb3)), (ta4, .inl (cB4, 5, .inl fb4)), (ta5, .inl (cB5, 5, .inl fb5)), (ta6, .inl (cB6, 5, .inl fb6)), (ta7, .inl (cB7, 5, .inl fb7)), (ta8, .inl (cB8, 5, .inl fb8)), (ta9, .inl (cB9, 5, .inl fb9))]) (w1 := [(mo, .inr (10, [.int 0, .ref mr, .int 1, .long (-4422997852211001375)]))]) hP hD [12] [0, 1, 2, 3, 4, 5, 6, 7, 8, 9, 10, 11] rfl rfl (by decide) (by decide) hk1 hFc hP1 hD1
  have hP : va_P (dC, dI) vwCl [(la0, .inl (cA0, 10, .inl fa0)), (la1, .inl (cA1, 10, .inl fa1)), (ta0, .inl (cB0, 5, .inl fb0)), (ta1, .inl (cB1, 5, .inl fb1)), (ta2, .inl (cB2, 5, .inl fb2)), (ta3, .inl (cB3, 5, .inl fb3)), (ta4, .inl (cB4, 5, .inl fb4)), (ta5, .inl (cB5, 5, .inl fb5)), (ta6, .inl (cB6, 5, .inl fb6)), (ta7, .inl (cB7, 5, .inl fb7)), (ta8, .inl (cB8, 5, .inl fb8)), (ta9, .inl (cB9, 5, .inl fb9)), (mo, .inr (10, [.int 0, .ref mr, .int 1, .long (-4422997852211001375)]))] H356 := hP
  have hD : va_D A [(la0, .inl (cA0, 10, .inl fa0)), (la1, .inl (cA1, 10, .inl fa1)), (ta0, .inl (cB0, 5, .inl fb0)), (ta1, .inl (cB1, 5, .inl fb1)), (ta2, .inl (cB2, 5, .inl fb2)), (ta3, .inl (cB3, 5, .inl fb3)), (ta4, .inl (cB4, 5, .inl fb4)), (ta5, .inl (cB5, 5, .inl fb5)), (ta6, .inl (cB6, 5, .inl fb6)), (ta7, .inl (cB7, 5, .inl fb7)), (ta8, .inl (cB8, 5, .inl fb8)), (ta9, .inl (cB9, 5, .inl fb9)), (mo, .inr (10, [.int 0, .ref mr, .int 1, .long (-4422997852211001375)]))] := hD
  refine lv_iinc (v := 5) (lv' := [(2, .int 5), (1, .int 4), (0, .ref mo)]) hx hb dX8_digest_115 hl (k := 0) rfl (by decide) (by decide) rfl (fun ls hl => ?_)
  refine lv_goto (tgt := 99) hx hb dX8_digest_118 (by decide) ?_
  refine lv_iload_n hx hb dX8_digest_99 rfl (lv_at hl 0 rfl) ?_
  refine lv_bipush (v := 6) hx hb dX8_digest_100 (by decide) ?_
  refine lv_icmp_ge (tgt := 121) hx hb dX8_digest_102 (by decide) (fun h => absurd h (by decide)) (fun _ => ?_)
  refine lv_aload_n hx hb dX8_digest_105 rfl (lv_at hl 2 rfl) ?_
  refine lv_aload_n hx hb dX8_digest_106 rfl (lv_at hl 2 rfl) ?_
  refine lv_iload_n hx hb dX8_digest_107 rfl (lv_at hl 1 rfl) ?_
  refine lv_iload_n hx hb dX8_digest_108 rfl (lv_at hl 0 rfl) ?_
  have hPr := (show va_P (dC, dI) vwCl [(mo, .inr (10, [.int 0, .ref mr, .int 1, .long (-4422997852211001375)])), (mr, .inr (9, [.ref ll, .ref lt, .ref lp, .int 0, .int 0, .int 0, .int 0, .int 0, .int 0, .int 0, .int (-1), .int 0, .int 0, .int 0])), (ll, .inr (1, [.int 2, .ref ola, .int 2])), (ola, .inl (cOl, 10, .inr (.inr (.inr (.inr fol))))), (la0, .inl (cA0, 10, .inl fa0)), (la1, .inl (cA1, 10, .inl fa1))] H356 from (zo_cons ((hP) 12 _ rfl) (zo_cons (((zo_R hR0 hS hAr)) 0 _ rfl) (zo_cons (((zo_R hR0 hS hAr)) 1 _ rfl) (zo_cons (((zo_R hR0 hS hAr)) 4 _ rfl) (zo_cons ((hP) 0 _ rfl) (zo_cons ((hP) 1 _ rfl) (zo_nil : va_P (dC, dI) vwCl [] H356))))))))
  have hPc := hP.sub (ws' := []) [] rfl
  have hDc := hD.sub (ws' := []) [] (by decide) rfl
  have hKc := hK.sub (tys' := [(cOl, .object "java/lang/Object"), (cA0, .int), (cA1, .int)]) [0, 2, 3] rfl
  have hFc := va_free (wc := []) hD hS hA [] rfl
  refine va_calli (va_runV (As := [.int 4, .int 5]) (rest := [.ref mo]) ⟨hx, hb, hml, hown, hts⟩ (cz_QofThingNow_4_5 l dC dI ed H356.size mo mr 0 (-4422997852211001375) ll lt lp ola cOl fol la0 la1 cA0 fa0 cA1 fa1 hol0 hol1 ha0_0 ha1_0) (cwV 2 hts gX8_digest_X8_ofThingNow rfl rfl rfl (by decide +kernel) ⟨Nat.le_of_ble_eq_true rfl, Nat.le_of_ble_eq_true rfl⟩) ⟨zb_blind, va_recv hK hP (ci := 10) (q0 := 12) rfl rfl, fun U hU hW => ⟨rfl, zb_mk hU hW hPr hPc hKc hDc hN hH hS hFc zx_e⟩⟩ rfl rfl hl.1 rfl (lv_room (Nat.le_of_ble_eq_true rfl)) dX8_digest_109 ⟨Nat.le_of_ble_eq_true rfl, Nat.le_of_ble_eq_true rfl⟩) hS (fun q _ h => hFc q h) hFc (fun r360 u t H359 locs ht hvm hw hB hz1 hk1 hS => ?_)
  obtain rfl : r360 = 0 := hw
  have hP := zo_K hP hk1
  have hPr := (zo_nil : va_P (dC, dI) vwCl [] H359)
  have hPc := hP.sub (ws' := [(mo, .inr (10, [.int 0, .ref mr, .int 1, .long (-4422997852211001375)]))]) [12] rfl
  have hDc := hD.sub (ws' := [(mo, .inr (10, [.int 0, .ref mr, .int 1, .long (-4422997852211001375)]))]) [12] (by decide) rfl
  have hKc := hK.sub (tys' := []) [] rfl
  have hFc := va_free (wc := [(mo, .inr (10, [.int 0, .ref mr, .int 1, .long (-4422997852211001375)]))]) hD hS hA [12] rfl
  refine va_callv (va_runV (As := [.int 0]) (rest := []) ⟨hx, hb, hml, hown, hts⟩ (cz_X8_add l dC dI ed H359.size mo mr 0 (-4422997852211001375) 0) (cwV 1 hts gX8_digest_X8_add rfl rfl rfl (by decide +kernel) ⟨Nat.le_of_ble_eq_true rfl, Nat.le_of_ble_eq_true rfl⟩) ⟨zb_blind, va_recv hK hP (ci := 10) (q0 := 12) rfl rfl, fun U hU hW => ⟨rfl, zb_mk hU hW hPr hPc hKc hDc hN hH hS hFc zx_nil⟩⟩ rfl rfl hl.1 rfl (lv_room (Nat.le_of_ble_eq_true rfl)) dX8_digest_112 ⟨Nat.le_of_ble_eq_true rfl, Nat.le_of_ble_eq_true rfl⟩) hS (fun q _ h => hFc q h) hFc (fun u t H361 locs ht hvm hw hB hz1 hk1 hS => ?_)
  obtain ⟨s1_363, hf363_0, hP1, hD1, hK1⟩ := hB
  obtain rfl : s1_363 = (-7985724902574181313) := hf363_0.trans (by first | rfl | decide +kernel)
  rw [ht] at hP1
  obtain ⟨hP, hD⟩ := va_join (wr := [(la0, .inl (cA0, 10, .inl fa0)), (la1, .inl (cA1, 10, .inl fa1)), (ta0, .inl (cB0, 5, .inl fb0)), (ta1, .inl (cB1, 5, .inl fb1)), (ta2, .inl (cB2, 5, .inl fb2)), (ta3, .inl (cB3, 5, .inl fb3)), (ta4, .inl (cB4, 5, .inl fb4)), (ta5, .inl (cB5, 5, .inl fb5)), (ta6, .inl (cB6, 5, .inl fb6)), (ta7, .inl (cB7, 5, .inl fb7)), (ta8, .inl (cB8, 5, .inl fb8)), (ta9, .inl (cB9, 5, .inl fb9))]) (w1 := [(mo, .inr (10, [.int 0, .ref mr, .int 1, .long (-7985724902574181313)]))]) hP hD [12] [0, 1, 2, 3, 4, 5, 6, 7, 8, 9, 10, 11] rfl rfl (by decide) (by decide) hk1 hFc hP1 hD1
  have hP : va_P (dC, dI) vwCl [(la0, .inl (cA0, 10, .inl fa0)), (la1, .inl (cA1, 10, .inl fa1)), (ta0, .inl (cB0, 5, .inl fb0)), (ta1, .inl (cB1, 5, .inl fb1)), (ta2, .inl (cB2, 5, .inl fb2)), (ta3, .inl (cB3, 5, .inl fb3)), (ta4, .inl (cB4, 5, .inl fb4)), (ta5, .inl (cB5, 5, .inl fb5)), (ta6, .inl (cB6, 5, .inl fb6)), (ta7, .inl (cB7, 5, .inl fb7)), (ta8, .inl (cB8, 5, .inl fb8)), (ta9, .inl (cB9, 5, .inl fb9)), (mo, .inr (10, [.int 0, .ref mr, .int 1, .long (-7985724902574181313)]))] H361 := hP
  have hD : va_D A [(la0, .inl (cA0, 10, .inl fa0)), (la1, .inl (cA1, 10, .inl fa1)), (ta0, .inl (cB0, 5, .inl fb0)), (ta1, .inl (cB1, 5, .inl fb1)), (ta2, .inl (cB2, 5, .inl fb2)), (ta3, .inl (cB3, 5, .inl fb3)), (ta4, .inl (cB4, 5, .inl fb4)), (ta5, .inl (cB5, 5, .inl fb5)), (ta6, .inl (cB6, 5, .inl fb6)), (ta7, .inl (cB7, 5, .inl fb7)), (ta8, .inl (cB8, 5, .inl fb8)), (ta9, .inl (cB9, 5, .inl fb9)), (mo, .inr (10, [.int 0, .ref mr, .int 1, .long (-7985724902574181313)]))] := hD
  refine lv_iinc (v := 6) (lv' := [(2, .int 6), (1, .int 4), (0, .ref mo)]) hx hb dX8_digest_115 hl (k := 0) rfl (by decide) (by decide) rfl (fun ls hl => ?_)
  refine lv_goto (tgt := 99) hx hb dX8_digest_118 (by decide) ?_
  refine lv_iload_n hx hb dX8_digest_99 rfl (lv_at hl 0 rfl) ?_
  refine lv_bipush (v := 6) hx hb dX8_digest_100 (by decide) ?_
  refine lv_icmp_ge (tgt := 121) hx hb dX8_digest_102 (by decide) (fun _ => ?_) (fun h => absurd h (by decide))
  refine lv_iinc (v := 5) (lv' := [(1, .int 5), (2, .int 6), (0, .ref mo)]) hx hb dX8_digest_121 hl (k := 1) rfl (by decide) (by decide) rfl (fun ls hl => ?_)
  refine lv_goto (tgt := 83) hx hb dX8_digest_124 (by decide) ?_
  refine lv_iload_n hx hb dX8_digest_83 rfl (lv_at hl 0 rfl) ?_
  refine lv_aload_n hx hb dX8_digest_84 rfl (lv_at hl 2 rfl) ?_
  refine va_get (D := (dC, dI)) (ci := 10) (v := .ref mr) (C := RX8) (T := TX8) (N := 4) hx hb hts zi_X8_digest_X8 hown hK hP 12 rfl rfl 1 (by decide) (hts (.fieldLink RX8 10 "LockRoomsModel" "room" "LLockRoomsModel$Room;") (by decide +kernel)) (fun _ h9 => h9) rfl dX8_digest_85 ?_
  refine va_getN (D := (dC, dI)) (ci := 9) (v := .ref lt) (C := RX7) (T := TX7) (N := 14) hx hb hts zi_X8_digest_X7 hown hK (zo_R hR0 hS hAr) 0 rfl rfl 1 (by decide) (va_Nw.use rfl (hN.1 ("LockRoomsModel", 38, "LockRoomsModel$Room", "things", "Ljava/util/ArrayList;", "LockRoomsModel") (List.mem_of_getElem? (i := 2) rfl))) (fun _ h9 => h9) rfl dX8_digest_88 ?_
  have hPr := ((zo_R hR0 hS hAr)).sub (ws' := [(lt, .inr (1, [.int 10, .ref ota, .int 10]))]) [2] rfl
  have hPc := hP.sub (ws' := []) [] rfl
  have hDc := hD.sub (ws' := []) [] (by decide) rfl
  have hKc := hK.sub (tys' := []) [] rfl
  have hFc := va_free (wc := []) hD hS hA [] rfl
  refine va_calli (va_runV (As := []) (rest := [.int 5]) ⟨hx, hb, hml, hown, hts⟩ (cz_Qsize l dC dI ed H361.size lt 10 ota 10) (cwV 0 hts gX8_digest_Jx4a65c_size_8abf5 rfl rfl rfl (by decide +kernel) ⟨Nat.le_of_ble_eq_true rfl, Nat.le_of_ble_eq_true rfl⟩) ⟨zb_blind, va_recv hK (zo_R hR0 hS hAr) (ci := 1) (q0 := 2) rfl rfl, fun U hU hW => ⟨rfl, zb_mk hU hW hPr hPc hKc hDc hN hH hS hFc zx_e⟩⟩ rfl rfl hl.1 rfl (lv_room (Nat.le_of_ble_eq_true rfl)) dX8_digest_91 ⟨Nat.le_of_ble_eq_true rfl, Nat.le_of_ble_eq_true rfl⟩) hS (fun q _ h => hFc q h) hFc (fun r365 u t H364 locs ht hvm hw hB hz1 hk1 hS => ?_)
  obtain rfl : r365 = 10 := hw.trans (by decide +kernel)
  have hP := zo_K hP hk1
  refine lv_icmp_ge (tgt := 127) hx hb dX8_digest_94 (by decide) (fun h => absurd h (by decide)) (fun _ => ?_)
  refine lv_iconst (v := 0) hx hb dX8_digest_97 (by decide) ?_
  refine lv_istore_n (lv' := [(2, .int 0), (1, .int 5), (0, .ref mo)]) hx hb dX8_digest_98 rfl hl (by decide) rfl (fun ls hl => ?_)
  refine lv_iload_n hx hb dX8_digest_99 rfl (lv_at hl 0 rfl) ?_
  refine lv_bipush (v := 6) hx hb dX8_digest_100 (by decide) ?_
  refine lv_icmp_ge (tgt := 121) hx hb dX8_digest_102 (by decide) (fun h => absurd h (by decide)) (fun _ => ?_)
  refine lv_aload_n hx hb dX8_digest_105 rfl (lv_at hl 2 rfl) ?_
  refine lv_aload_n hx hb dX8_digest_106 rfl (lv_at hl 2 rfl) ?_
  refine lv_iload_n hx hb dX8_digest_107 rfl (lv_at hl 1 rfl) ?_
  refine lv_iload_n hx hb dX8_digest_108 rfl (lv_at hl 0 rfl) ?_
  have hPr := (show va_P (dC, dI) vwCl [(mo, .inr (10, [.int 0, .ref mr, .int 1, .long (-7985724902574181313)])), (mr, .inr (9, [.ref ll, .ref lt, .ref lp, .int 0, .int 0, .int 0, .int 0, .int 0, .int 0, .int 0, .int (-1), .int 0, .int 0, .int 0])), (lt, .inr (1, [.int 10, .ref ota, .int 10])), (ota, .inl (cOt, 10, .inr (.inr (.inr (.inr fot))))), (ta5, .inl (cB5, 5, .inl fb5))] H364 from (zo_cons ((hP) 12 _ rfl) (zo_cons (((zo_R hR0 hS hAr)) 0 _ rfl) (zo_cons (((zo_R hR0 hS hAr)) 2 _ rfl) (zo_cons (((zo_R hR0 hS hAr)) 5 _ rfl) (zo_cons ((hP) 7 _ rfl) (zo_nil : va_P (dC, dI) vwCl [] H364)))))))
  have hPc := hP.sub (ws' := []) [] rfl
  have hDc := hD.sub (ws' := []) [] (by decide) rfl
  have hKc := hK.sub (tys' := [(cOt, .object "java/lang/Object"), (cB5, .int)]) [1, 9] rfl
  have hFc := va_free (wc := []) hD hS hA [] rfl
  refine va_calli (va_runV (As := [.int 5, .int 0]) (rest := [.ref mo]) ⟨hx, hb, hml, hown, hts⟩ (cz_QofThingNow_5_0 l dC dI ed H364.size mo mr 0 (-7985724902574181313) ll lt lp ota cOt fot ta5 cB5 fb5 hot5 hb5_0) (cwV 2 hts gX8_digest_X8_ofThingNow rfl rfl rfl (by decide +kernel) ⟨Nat.le_of_ble_eq_true rfl, Nat.le_of_ble_eq_true rfl⟩) ⟨zb_blind, va_recv hK hP (ci := 10) (q0 := 12) rfl rfl, fun U hU hW => ⟨rfl, zb_mk hU hW hPr hPc hKc hDc hN hH hS hFc zx_e⟩⟩ rfl rfl hl.1 rfl (lv_room (Nat.le_of_ble_eq_true rfl)) dX8_digest_109 ⟨Nat.le_of_ble_eq_true rfl, Nat.le_of_ble_eq_true rfl⟩) hS (fun q _ h => hFc q h) hFc (fun r367 u t H366 locs ht hvm hw hB hz1 hk1 hS => ?_)
  obtain rfl : r367 = (-1) := hw
  have hP := zo_K hP hk1
  have hPr := (zo_nil : va_P (dC, dI) vwCl [] H366)
  have hPc := hP.sub (ws' := [(mo, .inr (10, [.int 0, .ref mr, .int 1, .long (-7985724902574181313)]))]) [12] rfl
  have hDc := hD.sub (ws' := [(mo, .inr (10, [.int 0, .ref mr, .int 1, .long (-7985724902574181313)]))]) [12] (by decide) rfl
  have hKc := hK.sub (tys' := []) [] rfl
  have hFc := va_free (wc := [(mo, .inr (10, [.int 0, .ref mr, .int 1, .long (-7985724902574181313)]))]) hD hS hA [12] rfl
  refine va_callv (va_runV (As := [.int (-1)]) (rest := []) ⟨hx, hb, hml, hown, hts⟩ (cz_X8_add l dC dI ed H366.size mo mr 0 (-7985724902574181313) (-1)) (cwV 1 hts gX8_digest_X8_add rfl rfl rfl (by decide +kernel) ⟨Nat.le_of_ble_eq_true rfl, Nat.le_of_ble_eq_true rfl⟩) ⟨zb_blind, va_recv hK hP (ci := 10) (q0 := 12) rfl rfl, fun U hU hW => ⟨rfl, zb_mk hU hW hPr hPc hKc hDc hN hH hS hFc zx_nil⟩⟩ rfl rfl hl.1 rfl (lv_room (Nat.le_of_ble_eq_true rfl)) dX8_digest_112 ⟨Nat.le_of_ble_eq_true rfl, Nat.le_of_ble_eq_true rfl⟩) hS (fun q _ h => hFc q h) hFc (fun u t H368 locs ht hvm hw hB hz1 hk1 hS => ?_)
  obtain ⟨s1_370, hf370_0, hP1, hD1, hK1⟩ := hB
  obtain rfl : s1_370 = (-7749799021575449696) := hf370_0.trans (by first | rfl | decide +kernel)
  rw [ht] at hP1
  obtain ⟨hP, hD⟩ := va_join (wr := [(la0, .inl (cA0, 10, .inl fa0)), (la1, .inl (cA1, 10, .inl fa1)), (ta0, .inl (cB0, 5, .inl fb0)), (ta1, .inl (cB1, 5, .inl fb1)), (ta2, .inl (cB2, 5, .inl fb2)), (ta3, .inl (cB3, 5, .inl fb3)), (ta4, .inl (cB4, 5, .inl fb4)), (ta5, .inl (cB5, 5, .inl fb5)), (ta6, .inl (cB6, 5, .inl fb6)), (ta7, .inl (cB7, 5, .inl fb7)), (ta8, .inl (cB8, 5, .inl fb8)), (ta9, .inl (cB9, 5, .inl fb9))]) (w1 := [(mo, .inr (10, [.int 0, .ref mr, .int 1, .long (-7749799021575449696)]))]) hP hD [12] [0, 1, 2, 3, 4, 5, 6, 7, 8, 9, 10, 11] rfl rfl (by decide) (by decide) hk1 hFc hP1 hD1
  have hP : va_P (dC, dI) vwCl [(la0, .inl (cA0, 10, .inl fa0)), (la1, .inl (cA1, 10, .inl fa1)), (ta0, .inl (cB0, 5, .inl fb0)), (ta1, .inl (cB1, 5, .inl fb1)), (ta2, .inl (cB2, 5, .inl fb2)), (ta3, .inl (cB3, 5, .inl fb3)), (ta4, .inl (cB4, 5, .inl fb4)), (ta5, .inl (cB5, 5, .inl fb5)), (ta6, .inl (cB6, 5, .inl fb6)), (ta7, .inl (cB7, 5, .inl fb7)), (ta8, .inl (cB8, 5, .inl fb8)), (ta9, .inl (cB9, 5, .inl fb9)), (mo, .inr (10, [.int 0, .ref mr, .int 1, .long (-7749799021575449696)]))] H368 := hP
  have hD : va_D A [(la0, .inl (cA0, 10, .inl fa0)), (la1, .inl (cA1, 10, .inl fa1)), (ta0, .inl (cB0, 5, .inl fb0)), (ta1, .inl (cB1, 5, .inl fb1)), (ta2, .inl (cB2, 5, .inl fb2)), (ta3, .inl (cB3, 5, .inl fb3)), (ta4, .inl (cB4, 5, .inl fb4)), (ta5, .inl (cB5, 5, .inl fb5)), (ta6, .inl (cB6, 5, .inl fb6)), (ta7, .inl (cB7, 5, .inl fb7)), (ta8, .inl (cB8, 5, .inl fb8)), (ta9, .inl (cB9, 5, .inl fb9)), (mo, .inr (10, [.int 0, .ref mr, .int 1, .long (-7749799021575449696)]))] := hD
  refine lv_iinc (v := 1) (lv' := [(2, .int 1), (1, .int 5), (0, .ref mo)]) hx hb dX8_digest_115 hl (k := 0) rfl (by decide) (by decide) rfl (fun ls hl => ?_)
  refine lv_goto (tgt := 99) hx hb dX8_digest_118 (by decide) ?_
  refine lv_iload_n hx hb dX8_digest_99 rfl (lv_at hl 0 rfl) ?_
  refine lv_bipush (v := 6) hx hb dX8_digest_100 (by decide) ?_
  refine lv_icmp_ge (tgt := 121) hx hb dX8_digest_102 (by decide) (fun h => absurd h (by decide)) (fun _ => ?_)
  refine lv_aload_n hx hb dX8_digest_105 rfl (lv_at hl 2 rfl) ?_
  refine lv_aload_n hx hb dX8_digest_106 rfl (lv_at hl 2 rfl) ?_
  refine lv_iload_n hx hb dX8_digest_107 rfl (lv_at hl 1 rfl) ?_
  refine lv_iload_n hx hb dX8_digest_108 rfl (lv_at hl 0 rfl) ?_
  have hPr := (show va_P (dC, dI) vwCl [(mo, .inr (10, [.int 0, .ref mr, .int 1, .long (-7749799021575449696)])), (mr, .inr (9, [.ref ll, .ref lt, .ref lp, .int 0, .int 0, .int 0, .int 0, .int 0, .int 0, .int 0, .int (-1), .int 0, .int 0, .int 0])), (lt, .inr (1, [.int 10, .ref ota, .int 10])), (ota, .inl (cOt, 10, .inr (.inr (.inr (.inr fot))))), (ta5, .inl (cB5, 5, .inl fb5))] H368 from (zo_cons ((hP) 12 _ rfl) (zo_cons (((zo_R hR0 hS hAr)) 0 _ rfl) (zo_cons (((zo_R hR0 hS hAr)) 2 _ rfl) (zo_cons (((zo_R hR0 hS hAr)) 5 _ rfl) (zo_cons ((hP) 7 _ rfl) (zo_nil : va_P (dC, dI) vwCl [] H368)))))))
  have hPc := hP.sub (ws' := []) [] rfl
  have hDc := hD.sub (ws' := []) [] (by decide) rfl
  have hKc := hK.sub (tys' := [(cOt, .object "java/lang/Object"), (cB5, .int)]) [1, 9] rfl
  have hFc := va_free (wc := []) hD hS hA [] rfl
  refine va_calli (va_runV (As := [.int 5, .int 1]) (rest := [.ref mo]) ⟨hx, hb, hml, hown, hts⟩ (cz_QofThingNow_5_1 l dC dI ed H368.size mo mr 0 (-7749799021575449696) ll lt lp ota cOt fot ta5 cB5 fb5 hot5 hb5_1) (cwV 2 hts gX8_digest_X8_ofThingNow rfl rfl rfl (by decide +kernel) ⟨Nat.le_of_ble_eq_true rfl, Nat.le_of_ble_eq_true rfl⟩) ⟨zb_blind, va_recv hK hP (ci := 10) (q0 := 12) rfl rfl, fun U hU hW => ⟨rfl, zb_mk hU hW hPr hPc hKc hDc hN hH hS hFc zx_e⟩⟩ rfl rfl hl.1 rfl (lv_room (Nat.le_of_ble_eq_true rfl)) dX8_digest_109 ⟨Nat.le_of_ble_eq_true rfl, Nat.le_of_ble_eq_true rfl⟩) hS (fun q _ h => hFc q h) hFc (fun r372 u t H371 locs ht hvm hw hB hz1 hk1 hS => ?_)
  obtain rfl : r372 = 0 := hw
  have hP := zo_K hP hk1
  have hPr := (zo_nil : va_P (dC, dI) vwCl [] H371)
  have hPc := hP.sub (ws' := [(mo, .inr (10, [.int 0, .ref mr, .int 1, .long (-7749799021575449696)]))]) [12] rfl
  have hDc := hD.sub (ws' := [(mo, .inr (10, [.int 0, .ref mr, .int 1, .long (-7749799021575449696)]))]) [12] (by decide) rfl
  have hKc := hK.sub (tys' := []) [] rfl
  have hFc := va_free (wc := [(mo, .inr (10, [.int 0, .ref mr, .int 1, .long (-7749799021575449696)]))]) hD hS hA [12] rfl
  refine va_callv (va_runV (As := [.int 0]) (rest := []) ⟨hx, hb, hml, hown, hts⟩ (cz_X8_add l dC dI ed H371.size mo mr 0 (-7749799021575449696) 0) (cwV 1 hts gX8_digest_X8_add rfl rfl rfl (by decide +kernel) ⟨Nat.le_of_ble_eq_true rfl, Nat.le_of_ble_eq_true rfl⟩) ⟨zb_blind, va_recv hK hP (ci := 10) (q0 := 12) rfl rfl, fun U hU hW => ⟨rfl, zb_mk hU hW hPr hPc hKc hDc hN hH hS hFc zx_nil⟩⟩ rfl rfl hl.1 rfl (lv_room (Nat.le_of_ble_eq_true rfl)) dX8_digest_112 ⟨Nat.le_of_ble_eq_true rfl, Nat.le_of_ble_eq_true rfl⟩) hS (fun q _ h => hFc q h) hFc (fun u t H373 locs ht hvm hw hB hz1 hk1 hS => ?_)
  obtain ⟨s1_375, hf375_0, hP1, hD1, hK1⟩ := hB
  obtain rfl : s1_375 = (-436096710614769568) := hf375_0.trans (by first | rfl | decide +kernel)
  rw [ht] at hP1
  obtain ⟨hP, hD⟩ := va_join (wr := [(la0, .inl (cA0, 10, .inl fa0)), (la1, .inl (cA1, 10, .inl fa1)), (ta0, .inl (cB0, 5, .inl fb0)), (ta1, .inl (cB1, 5, .inl fb1)), (ta2, .inl (cB2, 5, .inl fb2)), (ta3, .inl (cB3, 5, .inl fb3)), (ta4, .inl (cB4, 5, .inl fb4)), (ta5, .inl (cB5, 5, .inl fb5)), (ta6, .inl (cB6, 5, .inl fb6)), (ta7, .inl (cB7, 5, .inl fb7)), (ta8, .inl (cB8, 5, .inl fb8)), (ta9, .inl (cB9, 5, .inl fb9))]) (w1 := [(mo, .inr (10, [.int 0, .ref mr, .int 1, .long (-436096710614769568)]))]) hP hD [12] [0, 1, 2, 3, 4, 5, 6, 7, 8, 9, 10, 11] rfl rfl (by decide) (by decide) hk1 hFc hP1 hD1
  have hP : va_P (dC, dI) vwCl [(la0, .inl (cA0, 10, .inl fa0)), (la1, .inl (cA1, 10, .inl fa1)), (ta0, .inl (cB0, 5, .inl fb0)), (ta1, .inl (cB1, 5, .inl fb1)), (ta2, .inl (cB2, 5, .inl fb2)), (ta3, .inl (cB3, 5, .inl fb3)), (ta4, .inl (cB4, 5, .inl fb4)), (ta5, .inl (cB5, 5, .inl fb5)), (ta6, .inl (cB6, 5, .inl fb6)), (ta7, .inl (cB7, 5, .inl fb7)), (ta8, .inl (cB8, 5, .inl fb8)), (ta9, .inl (cB9, 5, .inl fb9)), (mo, .inr (10, [.int 0, .ref mr, .int 1, .long (-436096710614769568)]))] H373 := hP
  have hD : va_D A [(la0, .inl (cA0, 10, .inl fa0)), (la1, .inl (cA1, 10, .inl fa1)), (ta0, .inl (cB0, 5, .inl fb0)), (ta1, .inl (cB1, 5, .inl fb1)), (ta2, .inl (cB2, 5, .inl fb2)), (ta3, .inl (cB3, 5, .inl fb3)), (ta4, .inl (cB4, 5, .inl fb4)), (ta5, .inl (cB5, 5, .inl fb5)), (ta6, .inl (cB6, 5, .inl fb6)), (ta7, .inl (cB7, 5, .inl fb7)), (ta8, .inl (cB8, 5, .inl fb8)), (ta9, .inl (cB9, 5, .inl fb9)), (mo, .inr (10, [.int 0, .ref mr, .int 1, .long (-436096710614769568)]))] := hD
  refine lv_iinc (v := 2) (lv' := [(2, .int 2), (1, .int 5), (0, .ref mo)]) hx hb dX8_digest_115 hl (k := 0) rfl (by decide) (by decide) rfl (fun ls hl => ?_)
  refine lv_goto (tgt := 99) hx hb dX8_digest_118 (by decide) ?_
  refine lv_iload_n hx hb dX8_digest_99 rfl (lv_at hl 0 rfl) ?_
  refine lv_bipush (v := 6) hx hb dX8_digest_100 (by decide) ?_
  refine lv_icmp_ge (tgt := 121) hx hb dX8_digest_102 (by decide) (fun h => absurd h (by decide)) (fun _ => ?_)
  refine lv_aload_n hx hb dX8_digest_105 rfl (lv_at hl 2 rfl) ?_
  refine lv_aload_n hx hb dX8_digest_106 rfl (lv_at hl 2 rfl) ?_
  refine lv_iload_n hx hb dX8_digest_107 rfl (lv_at hl 1 rfl) ?_
  refine lv_iload_n hx hb dX8_digest_108 rfl (lv_at hl 0 rfl) ?_
  have hPr := (show va_P (dC, dI) vwCl [(mo, .inr (10, [.int 0, .ref mr, .int 1, .long (-436096710614769568)])), (mr, .inr (9, [.ref ll, .ref lt, .ref lp, .int 0, .int 0, .int 0, .int 0, .int 0, .int 0, .int 0, .int (-1), .int 0, .int 0, .int 0])), (lt, .inr (1, [.int 10, .ref ota, .int 10])), (ota, .inl (cOt, 10, .inr (.inr (.inr (.inr fot))))), (ta5, .inl (cB5, 5, .inl fb5))] H373 from (zo_cons ((hP) 12 _ rfl) (zo_cons (((zo_R hR0 hS hAr)) 0 _ rfl) (zo_cons (((zo_R hR0 hS hAr)) 2 _ rfl) (zo_cons (((zo_R hR0 hS hAr)) 5 _ rfl) (zo_cons ((hP) 7 _ rfl) (zo_nil : va_P (dC, dI) vwCl [] H373)))))))
  have hPc := hP.sub (ws' := []) [] rfl
  have hDc := hD.sub (ws' := []) [] (by decide) rfl
  have hKc := hK.sub (tys' := [(cOt, .object "java/lang/Object"), (cB5, .int)]) [1, 9] rfl
  have hFc := va_free (wc := []) hD hS hA [] rfl
  refine va_calli (va_runV (As := [.int 5, .int 2]) (rest := [.ref mo]) ⟨hx, hb, hml, hown, hts⟩ (cz_QofThingNow_5_2 l dC dI ed H373.size mo mr 0 (-436096710614769568) ll lt lp ota cOt fot ta5 cB5 fb5 hot5 hb5_2) (cwV 2 hts gX8_digest_X8_ofThingNow rfl rfl rfl (by decide +kernel) ⟨Nat.le_of_ble_eq_true rfl, Nat.le_of_ble_eq_true rfl⟩) ⟨zb_blind, va_recv hK hP (ci := 10) (q0 := 12) rfl rfl, fun U hU hW => ⟨rfl, zb_mk hU hW hPr hPc hKc hDc hN hH hS hFc zx_e⟩⟩ rfl rfl hl.1 rfl (lv_room (Nat.le_of_ble_eq_true rfl)) dX8_digest_109 ⟨Nat.le_of_ble_eq_true rfl, Nat.le_of_ble_eq_true rfl⟩) hS (fun q _ h => hFc q h) hFc (fun r377 u t H376 locs ht hvm hw hB hz1 hk1 hS => ?_)
  obtain rfl : r377 = 0 := hw
  have hP := zo_K hP hk1
  have hPr := (zo_nil : va_P (dC, dI) vwCl [] H376)
  have hPc := hP.sub (ws' := [(mo, .inr (10, [.int 0, .ref mr, .int 1, .long (-436096710614769568)]))]) [12] rfl
  have hDc := hD.sub (ws' := [(mo, .inr (10, [.int 0, .ref mr, .int 1, .long (-436096710614769568)]))]) [12] (by decide) rfl
  have hKc := hK.sub (tys' := []) [] rfl
  have hFc := va_free (wc := [(mo, .inr (10, [.int 0, .ref mr, .int 1, .long (-436096710614769568)]))]) hD hS hA [12] rfl
  refine va_callv (va_runV (As := [.int 0]) (rest := []) ⟨hx, hb, hml, hown, hts⟩ (cz_X8_add l dC dI ed H376.size mo mr 0 (-436096710614769568) 0) (cwV 1 hts gX8_digest_X8_add rfl rfl rfl (by decide +kernel) ⟨Nat.le_of_ble_eq_true rfl, Nat.le_of_ble_eq_true rfl⟩) ⟨zb_blind, va_recv hK hP (ci := 10) (q0 := 12) rfl rfl, fun U hU hW => ⟨rfl, zb_mk hU hW hPr hPc hKc hDc hN hH hS hFc zx_nil⟩⟩ rfl rfl hl.1 rfl (lv_room (Nat.le_of_ble_eq_true rfl)) dX8_digest_112 ⟨Nat.le_of_ble_eq_true rfl, Nat.le_of_ble_eq_true rfl⟩) hS (fun q _ h => hFc q h) hFc (fun u t H378 locs ht hvm hw hB hz1 hk1 hS => ?_)
  obtain ⟨s1_380, hf380_0, hP1, hD1, hK1⟩ := hB
  obtain rfl : s1_380 = 4927746044651695008 := hf380_0.trans (by first | rfl | decide +kernel)
  rw [ht] at hP1
  obtain ⟨hP, hD⟩ := va_join (wr := [(la0, .inl (cA0, 10, .inl fa0)), (la1, .inl (cA1, 10, .inl fa1)), (ta0, .inl (cB0, 5, .inl fb0)), (ta1, .inl (cB1, 5, .inl fb1)), (ta2, .inl (cB2, 5, .inl fb2)), (ta3, .inl (cB3, 5, .inl fb3)), (ta4, .inl (cB4, 5, .inl fb4)), (ta5, .inl (cB5, 5, .inl fb5)), (ta6, .inl (cB6, 5, .inl fb6)), (ta7, .inl (cB7, 5, .inl fb7)), (ta8, .inl (cB8, 5, .inl fb8)), (ta9, .inl (cB9, 5, .inl fb9))]) (w1 := [(mo, .inr (10, [.int 0, .ref mr, .int 1, .long 4927746044651695008]))]) hP hD [12] [0, 1, 2, 3, 4, 5, 6, 7, 8, 9, 10, 11] rfl rfl (by decide) (by decide) hk1 hFc hP1 hD1
  have hP : va_P (dC, dI) vwCl [(la0, .inl (cA0, 10, .inl fa0)), (la1, .inl (cA1, 10, .inl fa1)), (ta0, .inl (cB0, 5, .inl fb0)), (ta1, .inl (cB1, 5, .inl fb1)), (ta2, .inl (cB2, 5, .inl fb2)), (ta3, .inl (cB3, 5, .inl fb3)), (ta4, .inl (cB4, 5, .inl fb4)), (ta5, .inl (cB5, 5, .inl fb5)), (ta6, .inl (cB6, 5, .inl fb6)), (ta7, .inl (cB7, 5, .inl fb7)), (ta8, .inl (cB8, 5, .inl fb8)), (ta9, .inl (cB9, 5, .inl fb9)), (mo, .inr (10, [.int 0, .ref mr, .int 1, .long 4927746044651695008]))] H378 := hP
  have hD : va_D A [(la0, .inl (cA0, 10, .inl fa0)), (la1, .inl (cA1, 10, .inl fa1)), (ta0, .inl (cB0, 5, .inl fb0)), (ta1, .inl (cB1, 5, .inl fb1)), (ta2, .inl (cB2, 5, .inl fb2)), (ta3, .inl (cB3, 5, .inl fb3)), (ta4, .inl (cB4, 5, .inl fb4)), (ta5, .inl (cB5, 5, .inl fb5)), (ta6, .inl (cB6, 5, .inl fb6)), (ta7, .inl (cB7, 5, .inl fb7)), (ta8, .inl (cB8, 5, .inl fb8)), (ta9, .inl (cB9, 5, .inl fb9)), (mo, .inr (10, [.int 0, .ref mr, .int 1, .long 4927746044651695008]))] := hD
  refine lv_iinc (v := 3) (lv' := [(2, .int 3), (1, .int 5), (0, .ref mo)]) hx hb dX8_digest_115 hl (k := 0) rfl (by decide) (by decide) rfl (fun ls hl => ?_)
  refine lv_goto (tgt := 99) hx hb dX8_digest_118 (by decide) ?_
  refine lv_iload_n hx hb dX8_digest_99 rfl (lv_at hl 0 rfl) ?_
  refine lv_bipush (v := 6) hx hb dX8_digest_100 (by decide) ?_
  refine lv_icmp_ge (tgt := 121) hx hb dX8_digest_102 (by decide) (fun h => absurd h (by decide)) (fun _ => ?_)
  refine lv_aload_n hx hb dX8_digest_105 rfl (lv_at hl 2 rfl) ?_
  refine lv_aload_n hx hb dX8_digest_106 rfl (lv_at hl 2 rfl) ?_
  refine lv_iload_n hx hb dX8_digest_107 rfl (lv_at hl 1 rfl) ?_
  refine lv_iload_n hx hb dX8_digest_108 rfl (lv_at hl 0 rfl) ?_
  have hPr := (show va_P (dC, dI) vwCl [(mo, .inr (10, [.int 0, .ref mr, .int 1, .long 4927746044651695008])), (mr, .inr (9, [.ref ll, .ref lt, .ref lp, .int 0, .int 0, .int 0, .int 0, .int 0, .int 0, .int 0, .int (-1), .int 0, .int 0, .int 0])), (lt, .inr (1, [.int 10, .ref ota, .int 10])), (ota, .inl (cOt, 10, .inr (.inr (.inr (.inr fot))))), (ta5, .inl (cB5, 5, .inl fb5))] H378 from (zo_cons ((hP) 12 _ rfl) (zo_cons (((zo_R hR0 hS hAr)) 0 _ rfl) (zo_cons (((zo_R hR0 hS hAr)) 2 _ rfl) (zo_cons (((zo_R hR0 hS hAr)) 5 _ rfl) (zo_cons ((hP) 7 _ rfl) (zo_nil : va_P (dC, dI) vwCl [] H378)))))))
  have hPc := hP.sub (ws' := []) [] rfl
  have hDc := hD.sub (ws' := []) [] (by decide) rfl
  have hKc := hK.sub (tys' := [(cOt, .object "java/lang/Object"), (cB5, .int)]) [1, 9] rfl
  have hFc := va_free (wc := []) hD hS hA [] rfl
  refine va_calli (va_runV (As := [.int 5, .int 3]) (rest := [.ref mo]) ⟨hx, hb, hml, hown, hts⟩ (cz_QofThingNow_5_3 l dC dI ed H378.size mo mr 0 4927746044651695008 ll lt lp ota cOt fot ta5 cB5 fb5 hot5 hb5_3) (cwV 2 hts gX8_digest_X8_ofThingNow rfl rfl rfl (by decide +kernel) ⟨Nat.le_of_ble_eq_true rfl, Nat.le_of_ble_eq_true rfl⟩) ⟨zb_blind, va_recv hK hP (ci := 10) (q0 := 12) rfl rfl, fun U hU hW => ⟨rfl, zb_mk hU hW hPr hPc hKc hDc hN hH hS hFc zx_e⟩⟩ rfl rfl hl.1 rfl (lv_room (Nat.le_of_ble_eq_true rfl)) dX8_digest_109 ⟨Nat.le_of_ble_eq_true rfl, Nat.le_of_ble_eq_true rfl⟩) hS (fun q _ h => hFc q h) hFc (fun r382 u t H381 locs ht hvm hw hB hz1 hk1 hS => ?_)
  obtain rfl : r382 = 0 := hw
  have hP := zo_K hP hk1
  have hPr := (zo_nil : va_P (dC, dI) vwCl [] H381)
  have hPc := hP.sub (ws' := [(mo, .inr (10, [.int 0, .ref mr, .int 1, .long 4927746044651695008]))]) [12] rfl
  have hDc := hD.sub (ws' := [(mo, .inr (10, [.int 0, .ref mr, .int 1, .long 4927746044651695008]))]) [12] (by decide) rfl
  have hKc := hK.sub (tys' := []) [] rfl
  have hFc := va_free (wc := [(mo, .inr (10, [.int 0, .ref mr, .int 1, .long 4927746044651695008]))]) hD hS hA [12] rfl
  refine va_callv (va_runV (As := [.int 0]) (rest := []) ⟨hx, hb, hml, hown, hts⟩ (cz_X8_add l dC dI ed H381.size mo mr 0 4927746044651695008 0) (cwV 1 hts gX8_digest_X8_add rfl rfl rfl (by decide +kernel) ⟨Nat.le_of_ble_eq_true rfl, Nat.le_of_ble_eq_true rfl⟩) ⟨zb_blind, va_recv hK hP (ci := 10) (q0 := 12) rfl rfl, fun U hU hW => ⟨rfl, zb_mk hU hW hPr hPc hKc hDc hN hH hS hFc zx_nil⟩⟩ rfl rfl hl.1 rfl (lv_room (Nat.le_of_ble_eq_true rfl)) dX8_digest_112 ⟨Nat.le_of_ble_eq_true rfl, Nat.le_of_ble_eq_true rfl⟩) hS (fun q _ h => hFc q h) hFc (fun u t H383 locs ht hvm hw hB hz1 hk1 hS => ?_)
  obtain ⟨s1_385, hf385_0, hP1, hD1, hK1⟩ := hB
  obtain rfl : s1_385 = 5186174794526132320 := hf385_0.trans (by first | rfl | decide +kernel)
  rw [ht] at hP1
  obtain ⟨hP, hD⟩ := va_join (wr := [(la0, .inl (cA0, 10, .inl fa0)), (la1, .inl (cA1, 10, .inl fa1)), (ta0, .inl (cB0, 5, .inl fb0)), (ta1, .inl (cB1, 5, .inl fb1)), (ta2, .inl (cB2, 5, .inl fb2)), (ta3, .inl (cB3, 5, .inl fb3)), (ta4, .inl (cB4, 5, .inl fb4)), (ta5, .inl (cB5, 5, .inl fb5)), (ta6, .inl (cB6, 5, .inl fb6)), (ta7, .inl (cB7, 5, .inl fb7)), (ta8, .inl (cB8, 5, .inl fb8)), (ta9, .inl (cB9, 5, .inl fb9))]) (w1 := [(mo, .inr (10, [.int 0, .ref mr, .int 1, .long 5186174794526132320]))]) hP hD [12] [0, 1, 2, 3, 4, 5, 6, 7, 8, 9, 10, 11] rfl rfl (by decide) (by decide) hk1 hFc hP1 hD1
  have hP : va_P (dC, dI) vwCl [(la0, .inl (cA0, 10, .inl fa0)), (la1, .inl (cA1, 10, .inl fa1)), (ta0, .inl (cB0, 5, .inl fb0)), (ta1, .inl (cB1, 5, .inl fb1)), (ta2, .inl (cB2, 5, .inl fb2)), (ta3, .inl (cB3, 5, .inl fb3)), (ta4, .inl (cB4, 5, .inl fb4)), (ta5, .inl (cB5, 5, .inl fb5)), (ta6, .inl (cB6, 5, .inl fb6)), (ta7, .inl (cB7, 5, .inl fb7)), (ta8, .inl (cB8, 5, .inl fb8)), (ta9, .inl (cB9, 5, .inl fb9)), (mo, .inr (10, [.int 0, .ref mr, .int 1, .long 5186174794526132320]))] H383 := hP
  have hD : va_D A [(la0, .inl (cA0, 10, .inl fa0)), (la1, .inl (cA1, 10, .inl fa1)), (ta0, .inl (cB0, 5, .inl fb0)), (ta1, .inl (cB1, 5, .inl fb1)), (ta2, .inl (cB2, 5, .inl fb2)), (ta3, .inl (cB3, 5, .inl fb3)), (ta4, .inl (cB4, 5, .inl fb4)), (ta5, .inl (cB5, 5, .inl fb5)), (ta6, .inl (cB6, 5, .inl fb6)), (ta7, .inl (cB7, 5, .inl fb7)), (ta8, .inl (cB8, 5, .inl fb8)), (ta9, .inl (cB9, 5, .inl fb9)), (mo, .inr (10, [.int 0, .ref mr, .int 1, .long 5186174794526132320]))] := hD
  refine lv_iinc (v := 4) (lv' := [(2, .int 4), (1, .int 5), (0, .ref mo)]) hx hb dX8_digest_115 hl (k := 0) rfl (by decide) (by decide) rfl (fun ls hl => ?_)
  refine lv_goto (tgt := 99) hx hb dX8_digest_118 (by decide) ?_
  refine lv_iload_n hx hb dX8_digest_99 rfl (lv_at hl 0 rfl) ?_
  refine lv_bipush (v := 6) hx hb dX8_digest_100 (by decide) ?_
  refine lv_icmp_ge (tgt := 121) hx hb dX8_digest_102 (by decide) (fun h => absurd h (by decide)) (fun _ => ?_)
  refine lv_aload_n hx hb dX8_digest_105 rfl (lv_at hl 2 rfl) ?_
  refine lv_aload_n hx hb dX8_digest_106 rfl (lv_at hl 2 rfl) ?_
  refine lv_iload_n hx hb dX8_digest_107 rfl (lv_at hl 1 rfl) ?_
  refine lv_iload_n hx hb dX8_digest_108 rfl (lv_at hl 0 rfl) ?_
  have hPr := (show va_P (dC, dI) vwCl [(mo, .inr (10, [.int 0, .ref mr, .int 1, .long 5186174794526132320])), (mr, .inr (9, [.ref ll, .ref lt, .ref lp, .int 0, .int 0, .int 0, .int 0, .int 0, .int 0, .int 0, .int (-1), .int 0, .int 0, .int 0])), (lt, .inr (1, [.int 10, .ref ota, .int 10])), (ota, .inl (cOt, 10, .inr (.inr (.inr (.inr fot))))), (ta5, .inl (cB5, 5, .inl fb5))] H383 from (zo_cons ((hP) 12 _ rfl) (zo_cons (((zo_R hR0 hS hAr)) 0 _ rfl) (zo_cons (((zo_R hR0 hS hAr)) 2 _ rfl) (zo_cons (((zo_R hR0 hS hAr)) 5 _ rfl) (zo_cons ((hP) 7 _ rfl) (zo_nil : va_P (dC, dI) vwCl [] H383)))))))
  have hPc := hP.sub (ws' := []) [] rfl
  have hDc := hD.sub (ws' := []) [] (by decide) rfl
  have hKc := hK.sub (tys' := [(cOt, .object "java/lang/Object"), (cB5, .int)]) [1, 9] rfl
  have hFc := va_free (wc := []) hD hS hA [] rfl
  refine va_calli (va_runV (As := [.int 5, .int 4]) (rest := [.ref mo]) ⟨hx, hb, hml, hown, hts⟩ (cz_QofThingNow_5_4 l dC dI ed H383.size mo mr 0 5186174794526132320 ll lt lp ota cOt fot ta5 cB5 fb5 hot5 hb5_0 hb5_3) (cwV 2 hts gX8_digest_X8_ofThingNow rfl rfl rfl (by decide +kernel) ⟨Nat.le_of_ble_eq_true rfl, Nat.le_of_ble_eq_true rfl⟩) ⟨zb_blind, va_recv hK hP (ci := 10) (q0 := 12) rfl rfl, fun U hU hW => ⟨rfl, zb_mk hU hW hPr hPc hKc hDc hN hH hS hFc zx_e⟩⟩ rfl rfl hl.1 rfl (lv_room (Nat.le_of_ble_eq_true rfl)) dX8_digest_109 ⟨Nat.le_of_ble_eq_true rfl, Nat.le_of_ble_eq_true rfl⟩) hS (fun q _ h => hFc q h) hFc (fun r387 u t H386 locs ht hvm hw hB hz1 hk1 hS => ?_)
  obtain rfl : r387 = 1 := hw
  have hP := zo_K hP hk1
  have hPr := (zo_nil : va_P (dC, dI) vwCl [] H386)
  have hPc := hP.sub (ws' := [(mo, .inr (10, [.int 0, .ref mr, .int 1, .long 5186174794526132320]))]) [12] rfl
  have hDc := hD.sub (ws' := [(mo, .inr (10, [.int 0, .ref mr, .int 1, .long 5186174794526132320]))]) [12] (by decide) rfl
  have hKc := hK.sub (tys' := []) [] rfl
  have hFc := va_free (wc := [(mo, .inr (10, [.int 0, .ref mr, .int 1, .long 5186174794526132320]))]) hD hS hA [12] rfl
  refine va_callv (va_runV (As := [.int 1]) (rest := []) ⟨hx, hb, hml, hown, hts⟩ (cz_X8_add l dC dI ed H386.size mo mr 0 5186174794526132320 1) (cwV 1 hts gX8_digest_X8_add rfl rfl rfl (by decide +kernel) ⟨Nat.le_of_ble_eq_true rfl, Nat.le_of_ble_eq_true rfl⟩) ⟨zb_blind, va_recv hK hP (ci := 10) (q0 := 12) rfl rfl, fun U hU hW => ⟨rfl, zb_mk hU hW hPr hPc hKc hDc hN hH hS hFc zx_nil⟩⟩ rfl rfl hl.1 rfl (lv_room (Nat.le_of_ble_eq_true rfl)) dX8_digest_112 ⟨Nat.le_of_ble_eq_true rfl, Nat.le_of_ble_eq_true rfl⟩) hS (fun q _ h => hFc q h) hFc (fun u t H388 locs ht hvm hw hB hz1 hk1 hS => ?_)
  obtain ⟨s1_390, hf390_0, hP1, hD1, hK1⟩ := hB
  obtain rfl : s1_390 = (-5249278033075862623) := hf390_0.trans (by first | rfl | decide +kernel)
  rw [ht] at hP1
  obtain ⟨hP, hD⟩ := va_join (wr := [(la0, .inl (cA0, 10, .inl fa0)), (la1, .inl (cA1, 10, .inl fa1)), (ta0, .inl (cB0, 5, .inl fb0)), (ta1, .inl (cB1, 5, .inl fb1)), (ta2, .inl (cB2, 5, .inl fb2)), (ta3, .inl (cB3, 5, .inl fb3)), (ta4, .inl (cB4, 5, .inl fb4)), (ta5, .inl (cB5, 5, .inl fb5)), (ta6, .inl (cB6, 5, .inl fb6)), (ta7, .inl (cB7, 5, .inl fb7)), (ta8, .inl (cB8, 5, .inl fb8)), (ta9, .inl (cB9, 5, .inl fb9))]) (w1 := [(mo, .inr (10, [.int 0, .ref mr, .int 1, .long (-5249278033075862623)]))]) hP hD [12] [0, 1, 2, 3, 4, 5, 6, 7, 8, 9, 10, 11] rfl rfl (by decide) (by decide) hk1 hFc hP1 hD1
  have hP : va_P (dC, dI) vwCl [(la0, .inl (cA0, 10, .inl fa0)), (la1, .inl (cA1, 10, .inl fa1)), (ta0, .inl (cB0, 5, .inl fb0)), (ta1, .inl (cB1, 5, .inl fb1)), (ta2, .inl (cB2, 5, .inl fb2)), (ta3, .inl (cB3, 5, .inl fb3)), (ta4, .inl (cB4, 5, .inl fb4)), (ta5, .inl (cB5, 5, .inl fb5)), (ta6, .inl (cB6, 5, .inl fb6)), (ta7, .inl (cB7, 5, .inl fb7)), (ta8, .inl (cB8, 5, .inl fb8)), (ta9, .inl (cB9, 5, .inl fb9)), (mo, .inr (10, [.int 0, .ref mr, .int 1, .long (-5249278033075862623)]))] H388 := hP
  have hD : va_D A [(la0, .inl (cA0, 10, .inl fa0)), (la1, .inl (cA1, 10, .inl fa1)), (ta0, .inl (cB0, 5, .inl fb0)), (ta1, .inl (cB1, 5, .inl fb1)), (ta2, .inl (cB2, 5, .inl fb2)), (ta3, .inl (cB3, 5, .inl fb3)), (ta4, .inl (cB4, 5, .inl fb4)), (ta5, .inl (cB5, 5, .inl fb5)), (ta6, .inl (cB6, 5, .inl fb6)), (ta7, .inl (cB7, 5, .inl fb7)), (ta8, .inl (cB8, 5, .inl fb8)), (ta9, .inl (cB9, 5, .inl fb9)), (mo, .inr (10, [.int 0, .ref mr, .int 1, .long (-5249278033075862623)]))] := hD
  refine lv_iinc (v := 5) (lv' := [(2, .int 5), (1, .int 5), (0, .ref mo)]) hx hb dX8_digest_115 hl (k := 0) rfl (by decide) (by decide) rfl (fun ls hl => ?_)
  refine lv_goto (tgt := 99) hx hb dX8_digest_118 (by decide) ?_
  refine lv_iload_n hx hb dX8_digest_99 rfl (lv_at hl 0 rfl) ?_
  refine lv_bipush (v := 6) hx hb dX8_digest_100 (by decide) ?_
  refine lv_icmp_ge (tgt := 121) hx hb dX8_digest_102 (by decide) (fun h => absurd h (by decide)) (fun _ => ?_)
  refine lv_aload_n hx hb dX8_digest_105 rfl (lv_at hl 2 rfl) ?_
  refine lv_aload_n hx hb dX8_digest_106 rfl (lv_at hl 2 rfl) ?_
  refine lv_iload_n hx hb dX8_digest_107 rfl (lv_at hl 1 rfl) ?_
  refine lv_iload_n hx hb dX8_digest_108 rfl (lv_at hl 0 rfl) ?_
  have hPr := (show va_P (dC, dI) vwCl [(mo, .inr (10, [.int 0, .ref mr, .int 1, .long (-5249278033075862623)])), (mr, .inr (9, [.ref ll, .ref lt, .ref lp, .int 0, .int 0, .int 0, .int 0, .int 0, .int 0, .int 0, .int (-1), .int 0, .int 0, .int 0])), (ll, .inr (1, [.int 2, .ref ola, .int 2])), (ola, .inl (cOl, 10, .inr (.inr (.inr (.inr fol))))), (la0, .inl (cA0, 10, .inl fa0)), (la1, .inl (cA1, 10, .inl fa1))] H388 from (zo_cons ((hP) 12 _ rfl) (zo_cons (((zo_R hR0 hS hAr)) 0 _ rfl) (zo_cons (((zo_R hR0 hS hAr)) 1 _ rfl) (zo_cons (((zo_R hR0 hS hAr)) 4 _ rfl) (zo_cons ((hP) 0 _ rfl) (zo_cons ((hP) 1 _ rfl) (zo_nil : va_P (dC, dI) vwCl [] H388))))))))
  have hPc := hP.sub (ws' := []) [] rfl
  have hDc := hD.sub (ws' := []) [] (by decide) rfl
  have hKc := hK.sub (tys' := [(cOl, .object "java/lang/Object"), (cA0, .int), (cA1, .int)]) [0, 2, 3] rfl
  have hFc := va_free (wc := []) hD hS hA [] rfl
  refine va_calli (va_runV (As := [.int 5, .int 5]) (rest := [.ref mo]) ⟨hx, hb, hml, hown, hts⟩ (cz_QofThingNow_5_5 l dC dI ed H388.size mo mr 0 (-5249278033075862623) ll lt lp ola cOl fol la0 la1 cA0 fa0 cA1 fa1 hol0 hol1 ha0_0 ha1_0) (cwV 2 hts gX8_digest_X8_ofThingNow rfl rfl rfl (by decide +kernel) ⟨Nat.le_of_ble_eq_true rfl, Nat.le_of_ble_eq_true rfl⟩) ⟨zb_blind, va_recv hK hP (ci := 10) (q0 := 12) rfl rfl, fun U hU hW => ⟨rfl, zb_mk hU hW hPr hPc hKc hDc hN hH hS hFc zx_e⟩⟩ rfl rfl hl.1 rfl (lv_room (Nat.le_of_ble_eq_true rfl)) dX8_digest_109 ⟨Nat.le_of_ble_eq_true rfl, Nat.le_of_ble_eq_true rfl⟩) hS (fun q _ h => hFc q h) hFc (fun r392 u t H391 locs ht hvm hw hB hz1 hk1 hS => ?_)
  obtain rfl : r392 = 0 := hw
  have hP := zo_K hP hk1
  have hPr := (zo_nil : va_P (dC, dI) vwCl [] H391)
  have hPc := hP.sub (ws' := [(mo, .inr (10, [.int 0, .ref mr, .int 1, .long (-5249278033075862623)]))]) [12] rfl
  have hDc := hD.sub (ws' := [(mo, .inr (10, [.int 0, .ref mr, .int 1, .long (-5249278033075862623)]))]) [12] (by decide) rfl
  have hKc := hK.sub (tys' := []) [] rfl
  have hFc := va_free (wc := [(mo, .inr (10, [.int 0, .ref mr, .int 1, .long (-5249278033075862623)]))]) hD hS hA [12] rfl
  refine va_callv (va_runV (As := [.int 0]) (rest := []) ⟨hx, hb, hml, hown, hts⟩ (cz_X8_add l dC dI ed H391.size mo mr 0 (-5249278033075862623) 0) (cwV 1 hts gX8_digest_X8_add rfl rfl rfl (by decide +kernel) ⟨Nat.le_of_ble_eq_true rfl, Nat.le_of_ble_eq_true rfl⟩) ⟨zb_blind, va_recv hK hP (ci := 10) (q0 := 12) rfl rfl, fun U hU hW => ⟨rfl, zb_mk hU hW hPr hPc hKc hDc hN hH hS hFc zx_nil⟩⟩ rfl rfl hl.1 rfl (lv_room (Nat.le_of_ble_eq_true rfl)) dX8_digest_112 ⟨Nat.le_of_ble_eq_true rfl, Nat.le_of_ble_eq_true rfl⟩) hS (fun q _ h => hFc q h) hFc (fun u t H393 locs ht hvm hw hB hz1 hk1 hS => ?_)
  obtain ⟨s1_395, hf395_0, hP1, hD1, hK1⟩ := hB
  obtain rfl : s1_395 = 3293077638034223231 := hf395_0.trans (by first | rfl | decide +kernel)
  rw [ht] at hP1
  obtain ⟨hP, hD⟩ := va_join (wr := [(la0, .inl (cA0, 10, .inl fa0)), (la1, .inl (cA1, 10, .inl fa1)), (ta0, .inl (cB0, 5, .inl fb0)), (ta1, .inl (cB1, 5, .inl fb1)), (ta2, .inl (cB2, 5, .inl fb2)), (ta3, .inl (cB3, 5, .inl fb3)), (ta4, .inl (cB4, 5, .inl fb4)), (ta5, .inl (cB5, 5, .inl fb5)), (ta6, .inl (cB6, 5, .inl fb6)), (ta7, .inl (cB7, 5, .inl fb7)), (ta8, .inl (cB8, 5, .inl fb8)), (ta9, .inl (cB9, 5, .inl fb9))]) (w1 := [(mo, .inr (10, [.int 0, .ref mr, .int 1, .long 3293077638034223231]))]) hP hD [12] [0, 1, 2, 3, 4, 5, 6, 7, 8, 9, 10, 11] rfl rfl (by decide) (by decide) hk1 hFc hP1 hD1
  have hP : va_P (dC, dI) vwCl [(la0, .inl (cA0, 10, .inl fa0)), (la1, .inl (cA1, 10, .inl fa1)), (ta0, .inl (cB0, 5, .inl fb0)), (ta1, .inl (cB1, 5, .inl fb1)), (ta2, .inl (cB2, 5, .inl fb2)), (ta3, .inl (cB3, 5, .inl fb3)), (ta4, .inl (cB4, 5, .inl fb4)), (ta5, .inl (cB5, 5, .inl fb5)), (ta6, .inl (cB6, 5, .inl fb6)), (ta7, .inl (cB7, 5, .inl fb7)), (ta8, .inl (cB8, 5, .inl fb8)), (ta9, .inl (cB9, 5, .inl fb9)), (mo, .inr (10, [.int 0, .ref mr, .int 1, .long 3293077638034223231]))] H393 := hP
  have hD : va_D A [(la0, .inl (cA0, 10, .inl fa0)), (la1, .inl (cA1, 10, .inl fa1)), (ta0, .inl (cB0, 5, .inl fb0)), (ta1, .inl (cB1, 5, .inl fb1)), (ta2, .inl (cB2, 5, .inl fb2)), (ta3, .inl (cB3, 5, .inl fb3)), (ta4, .inl (cB4, 5, .inl fb4)), (ta5, .inl (cB5, 5, .inl fb5)), (ta6, .inl (cB6, 5, .inl fb6)), (ta7, .inl (cB7, 5, .inl fb7)), (ta8, .inl (cB8, 5, .inl fb8)), (ta9, .inl (cB9, 5, .inl fb9)), (mo, .inr (10, [.int 0, .ref mr, .int 1, .long 3293077638034223231]))] := hD
  refine lv_iinc (v := 6) (lv' := [(2, .int 6), (1, .int 5), (0, .ref mo)]) hx hb dX8_digest_115 hl (k := 0) rfl (by decide) (by decide) rfl (fun ls hl => ?_)
  refine lv_goto (tgt := 99) hx hb dX8_digest_118 (by decide) ?_
  refine lv_iload_n hx hb dX8_digest_99 rfl (lv_at hl 0 rfl) ?_
  refine lv_bipush (v := 6) hx hb dX8_digest_100 (by decide) ?_
  refine lv_icmp_ge (tgt := 121) hx hb dX8_digest_102 (by decide) (fun _ => ?_) (fun h => absurd h (by decide))
  refine lv_iinc (v := 6) (lv' := [(1, .int 6), (2, .int 6), (0, .ref mo)]) hx hb dX8_digest_121 hl (k := 1) rfl (by decide) (by decide) rfl (fun ls hl => ?_)
  refine lv_goto (tgt := 83) hx hb dX8_digest_124 (by decide) ?_
  exact cs_QX8_digest_6 l dC dI ed mr ll lt lp ola ota cOl fol la0 la1 cOt fot ta0 ta1 ta2 ta3 ta4 ta5 ta6 ta7 ta8 ta9 mo x9 s9 cA0 fa0 cA1 fa1 cB0 fb0 cB1 fb1 cB2 fb2 cB3 fb3 cB4 fb4 cB5 fb5 cB6 fb6 cB7 fb7 cB8 fb8 cB9 fb9 hol0 hol1 hot0 hot1 hot2 hot3 hot4 hot5 hot6 hot7 hot8 hot9 ha0_0 ha0_1 ha0_2 ha0_3 ha0_4 ha0_5 ha0_6 ha0_7 ha0_8 ha0_9 ha1_0 ha1_1 ha1_2 ha1_3 ha1_4 ha1_5 ha1_6 ha1_7 ha1_8 ha1_9 hb0_0 hb0_1 hb0_2 hb0_3 hb0_4 hb1_0 hb1_1 hb1_2 hb1_3 hb1_4 hb2_0 hb2_1 hb2_2 hb2_3 hb2_4 hb3_0 hb3_1 hb3_2 hb3_3 hb3_4 hb4_0 hb4_1 hb4_2 hb4_3 hb4_4 hb5_0 hb5_1 hb5_2 hb5_3 hb5_4 hb6_0 hb6_1 hb6_2 hb6_3 hb6_4 hb7_0 hb7_1 hb7_2 hb7_3 hb7_4 hb8_0 hb8_1 hb8_2 hb8_3 hb8_4 hb9_0 hb9_1 hb9_2 hb9_3 hb9_4 hx hb hr hml hown hlocks hts hR0 hN hA hAr hH hAe hK hP hD hS hl
